/-! the law's own methods -/
def w32 (a : Int) : Int := (Int32.ofInt a).toInt
theorem w32_iv (a : Int) : iv (w32 a) = iv a := by
  unfold w32 iv
  rw [Int32.ofInt_toInt]
section Rows5
variable {K : KT} {D : va_G} {z0 nL : Nat} {h : Hp} {kc ks pc : Nat} {L : List (Nat × Value)} {st : List Value} {cc : ByteArray} {own : String} {rm : Room}
theorem r_i2lS (X : CX K D z0 cc nL own rm) (d : decode cc pc = .ok (.i2l, 1)) {a : Int} (kk : WW K D z0 nL h kc ks (pc + 1) L (jv (w32 a) :: st)) : WW K D z0 nL h kc ks pc L (iv a :: st) := by
  rw [← w32_iv a]
  exact r_i2l X d (i32_toI _) kk
end Rows5
theorem fSh_nn {σ : Tg} (ht : TVs σ) {p : Int} (h : ms σ p 2 = 0) : vf_n64 (FP.f2d (fSh σ p)) := by
  obtain ⟨hp, a, b, c, hs⟩ := ms_0 (by decide) h
  have hv := TV_b (ht p.toNat (by omega) a b c hs)
  rw [fSh_s hs]
  exact fQ_d ⟨by omega, by omega⟩ ⟨by omega, by omega⟩
theorem CS_x' {D : va_G} {h : Hp} {x o : Nat} {σ : Tg} {r : List Nat} {m : Nat} {od : Nat → Int} (hc : CS D h x o σ r m od) : ∃ fs : List Value, h x = some (ob 0 fs) := by
  obtain ⟨T, f, u, v, k, ku, kv, g, r1, r2, h1, -⟩ := hc
  exact ⟨_, h1.1⟩
abbrev rL_put : Room := { frames := 8, cells := 4, slots := 23, locals := 134 }
theorem c_L_put {l : Launch} (hl : l.stackTraces = false) (D : va_G) (z0 : Nat) (h : Hp) {x o : Nat} {σ : Tg} {r : List Nat} {m : Nat} {od : Nat → Int} (hc : CS D h x o σ r m od) (hp : PI r m od) (p : Int) (p_ : I32 p) (a : Int) (a_ : I32 a) (b : Int) (b_ : I32 b) (c : Int) (c_ : I32 c) {aa : Nat} {g0 : Nat → Int} (ha : h aa = some (aJ D 1 g0)) : CH l yL_put cL_put 7 (some .int) [(0, 14, 17, 13), (0, 14, 21, 15), (0, 14, 25, 17)] rL_put D z0 h [.ref x, iv p, iv a, iv b, iv c, .ref aa] (WPJ D o aa (cdPu p a b c) (fun h9 => CS D h9 x o (up σ p.toNat (st3 a b c)) r m od) (fun h9 => CS D h9 x o σ r m od) (w32 (cntT (up σ p.toNat (st3 a b c)) 16)) h) := by
  refine CH_of RL hl (by decide) rfl (Nat.le_of_ble_eq_true rfl) (fun K X Y T hKl => ?_)
  subst hKl
  have hao := CS_oa hc ha rfl (kd_ne rfl)
  obtain ⟨fs9, hobx⟩ := CS_x' hc
  show WW K D z0 7 h 0 0 0 [(0, .ref x), (1, iv p), (2, iv a), (3, iv b), (4, iv c), (5, .ref aa)] []
  refine r_aload 5 X dL_put_0 rfl ?_
  refine r_iconst X dL_put_2 ?_
  refine r_aload_n 0 X dL_put_3 rfl ?_
  refine r_iload_n 1 X dL_put_4 rfl ?_
  refine r_iload_n 2 X dL_put_5 rfl ?_
  refine r_iload_n 3 X dL_put_6 rfl ?_
  refine r_iload 4 X dL_put_7 rfl ?_
  refine r_callV X dL_put_9 kL_7 (hobx) (c6_put (CX_l X) D z0 h hc hp p p_ a a_ b b_ c c_) [iv 0, .ref aa] rfl rfl (Nat.le_of_ble_eq_true rfl) (by decide) (by decide) (fun E9 h8 hx9 => ?_) (fun v9 h9 hv9 => ?_)
  · obtain ⟨rfl, hk9⟩ := Xn_3 hx9
    rcases hk9 with ⟨hk9, rfl⟩ | ⟨hk9, rfl⟩ | ⟨hk9, rfl⟩
    · refine WX_catch X T [] ⟨0, 14, 17, 13⟩ [⟨0, 14, 21, 15⟩, ⟨0, 14, 25, 17⟩] rfl (fun z9 hz9 => absurd hz9 List.not_mem_nil) (by decide) (by decide) gL_13 (by decide) (fun q9 => ?_)
      show WW K D z0 7 h 4 23 17 [(0, .ref x), (1, iv p), (2, iv a), (3, iv b), (4, iv c), (5, .ref aa)] [.ref q9]
      refine r_astore (L' := [(6, .ref q9), (0, .ref x), (1, iv p), (2, iv a), (3, iv b), (4, iv c), (5, .ref aa)]) X dL_put_17 (by decide) rfl ?_
      refine r_iconst X dL_put_19 ?_
      refine r_iret X Y dL_put_20 (by decide) (by decide) ?_
      exact WPJ_w 1 hk9 (by decide) (by decide) hc ha
    · refine WX_catch X T [⟨0, 14, 17, 13⟩] ⟨0, 14, 21, 15⟩ [⟨0, 14, 25, 17⟩] rfl (List.forall_mem_cons.mpr ⟨⟨by decide, _, gL_13, by decide⟩, fun z9 hz9 => absurd hz9 List.not_mem_nil⟩) (by decide) (by decide) gL_15 (by decide) (fun q9 => ?_)
      show WW K D z0 7 h 4 23 21 [(0, .ref x), (1, iv p), (2, iv a), (3, iv b), (4, iv c), (5, .ref aa)] [.ref q9]
      refine r_astore (L' := [(6, .ref q9), (0, .ref x), (1, iv p), (2, iv a), (3, iv b), (4, iv c), (5, .ref aa)]) X dL_put_21 (by decide) rfl ?_
      refine r_iconst X dL_put_23 ?_
      refine r_iret X Y dL_put_24 (by decide) (by decide) ?_
      exact WPJ_w 2 hk9 (by decide) (by decide) hc ha
    · refine WX_catch X T [⟨0, 14, 17, 13⟩, ⟨0, 14, 21, 15⟩] ⟨0, 14, 25, 17⟩ [] rfl (List.forall_mem_cons.mpr ⟨⟨by decide, _, gL_13, by decide⟩, List.forall_mem_cons.mpr ⟨⟨by decide, _, gL_15, by decide⟩, fun z9 hz9 => absurd hz9 List.not_mem_nil⟩⟩) (by decide) (by decide) gL_17 (by decide) (fun q9 => ?_)
      show WW K D z0 7 h 4 23 25 [(0, .ref x), (1, iv p), (2, iv a), (3, iv b), (4, iv c), (5, .ref aa)] [.ref q9]
      refine r_astore (L' := [(6, .ref q9), (0, .ref x), (1, iv p), (2, iv a), (3, iv b), (4, iv c), (5, .ref aa)]) X dL_put_25 (by decide) rfl ?_
      refine r_iconst X dL_put_27 ?_
      refine r_iret X Y dL_put_28 (by decide) (by decide) ?_
      exact WPJ_w 3 hk9 (by decide) (by decide) hc ha
  · obtain ⟨rfl, hC9, hK9, hcd⟩ := hv9
    have ha9 := KC_a hK9 ha hao
    show WW K D z0 7 h9 4 23 12 [(0, .ref x), (1, iv p), (2, iv a), (3, iv b), (4, iv c), (5, .ref aa)] [iv (cntT (up σ p.toNat (st3 a b c)) 16), iv 0, .ref aa]
    refine r_i2lS X dL_put_12 ?_
    refine r_lastore X dL_put_13 ha9 ⟨by omega, by omega⟩ (by decide) ?_
    show WW K D z0 7 (hu h9 aa (aJ D 1 (up g0 (0 : Int).toNat (w32 (cntT (up σ p.toNat (st3 a b c)) 16))))) 4 23 14 [(0, .ref x), (1, iv p), (2, iv a), (3, iv b), (4, iv c), (5, .ref aa)] []
    refine r_goto 29 X dL_put_14 (by decide) ?_
    refine r_iconst X dL_put_29 ?_
    refine r_iret X Y dL_put_30 (by decide) (by decide) ?_
    exact WPJ_k hcd rfl (fun e9 => CS_hu hC9 ha9 rfl (Or.inl rfl) e9) hK9
abbrev rL_take : Room := { frames := 9, cells := 2, slots := 12, locals := 153 }
theorem c_L_take {l : Launch} (hl : l.stackTraces = false) (D : va_G) (z0 : Nat) (h : Hp) {x o : Nat} {σ : Tg} {r : List Nat} {m : Nat} {od : Nat → Int} (hc : CS D h x o σ r m od) (hp : PI r m od) (p : Int) (p_ : I32 p) {aa : Nat} {g0 : Nat → Int} (ha : h aa = some (aJ D 1 g0)) : CH l yL_take cL_take 4 (some .int) [(0, 9, 12, 13), (0, 9, 15, 23)] rL_take D z0 h [.ref x, iv p, .ref aa] (WPJ D o aa (ms σ p 2) (fun h9 => CS D h9 x o (up σ p.toNat none) r m od) (fun h9 => CS D h9 x o σ r m od) (w32 (cntT (up σ p.toNat none) 16)) h) := by
  refine CH_of RL hl (by decide) rfl (Nat.le_of_ble_eq_true rfl) (fun K X Y T hKl => ?_)
  subst hKl
  have hao := CS_oa hc ha rfl (kd_ne rfl)
  obtain ⟨fs9, hobx⟩ := CS_x' hc
  show WW K D z0 4 h 0 0 0 [(0, .ref x), (1, iv p), (2, .ref aa)] []
  refine r_aload_n 2 X dL_take_0 rfl ?_
  refine r_iconst X dL_take_1 ?_
  refine r_aload_n 0 X dL_take_2 rfl ?_
  refine r_iload_n 1 X dL_take_3 rfl ?_
  refine r_callV X dL_take_4 kL_19 (hobx) (c6_take (CX_l X) D z0 h hc hp p p_) [iv 0, .ref aa] rfl rfl (Nat.le_of_ble_eq_true rfl) (by decide) (by decide) (fun E9 h8 hx9 => ?_) (fun v9 h9 hv9 => ?_)
  · obtain ⟨rfl, hk9⟩ := Xn_2 hx9
    rcases hk9 with ⟨hk9, rfl⟩ | ⟨hk9, rfl⟩
    · refine WX_catch X T [] ⟨0, 9, 12, 13⟩ [⟨0, 9, 15, 23⟩] rfl (fun z9 hz9 => absurd hz9 List.not_mem_nil) (by decide) (by decide) gL_13 (by decide) (fun q9 => ?_)
      show WW K D z0 4 h 2 12 12 [(0, .ref x), (1, iv p), (2, .ref aa)] [.ref q9]
      refine r_astore_n (L' := [(3, .ref q9), (0, .ref x), (1, iv p), (2, .ref aa)]) X dL_take_12 (by decide) rfl ?_
      refine r_iconst X dL_take_13 ?_
      refine r_iret X Y dL_take_14 (by decide) (by decide) ?_
      exact WPJ_w 1 hk9 (by decide) (by decide) hc ha
    · refine WX_catch X T [⟨0, 9, 12, 13⟩] ⟨0, 9, 15, 23⟩ [] rfl (List.forall_mem_cons.mpr ⟨⟨by decide, _, gL_13, by decide⟩, fun z9 hz9 => absurd hz9 List.not_mem_nil⟩) (by decide) (by decide) gL_23 (by decide) (fun q9 => ?_)
      show WW K D z0 4 h 2 12 15 [(0, .ref x), (1, iv p), (2, .ref aa)] [.ref q9]
      refine r_astore_n (L' := [(3, .ref q9), (0, .ref x), (1, iv p), (2, .ref aa)]) X dL_take_15 (by decide) rfl ?_
      refine r_iconst X dL_take_16 ?_
      refine r_iret X Y dL_take_17 (by decide) (by decide) ?_
      exact WPJ_w 2 hk9 (by decide) (by decide) hc ha
  · obtain ⟨rfl, hC9, hK9, hcd⟩ := hv9
    have ha9 := KC_a hK9 ha hao
    show WW K D z0 4 h9 2 12 7 [(0, .ref x), (1, iv p), (2, .ref aa)] [iv (cntT (up σ p.toNat none) 16), iv 0, .ref aa]
    refine r_i2lS X dL_take_7 ?_
    refine r_lastore X dL_take_8 ha9 ⟨by omega, by omega⟩ (by decide) ?_
    show WW K D z0 4 (hu h9 aa (aJ D 1 (up g0 (0 : Int).toNat (w32 (cntT (up σ p.toNat none) 16))))) 2 12 9 [(0, .ref x), (1, iv p), (2, .ref aa)] []
    refine r_goto 18 X dL_take_9 (by decide) ?_
    refine r_iconst X dL_take_18 ?_
    refine r_iret X Y dL_take_19 (by decide) (by decide) ?_
    exact WPJ_k hcd rfl (fun e9 => CS_hu hC9 ha9 rfl (Or.inl rfl) e9) hK9
abbrev rL_isHeld : Room := { frames := 8, cells := 1, slots := 6, locals := 131 }
theorem c_L_isHeld {l : Launch} (hl : l.stackTraces = false) (D : va_G) (z0 : Nat) (h : Hp) {x o : Nat} {σ : Tg} {r : List Nat} {m : Nat} {od : Nat → Int} (hc : CS D h x o σ r m od) (hp : PI r m od) (p : Int) (p_ : I32 p) {aa : Nat} {g0 : Nat → Int} (ha : h aa = some (aJ D 1 g0)) : CH l yL_isHeld cL_isHeld 4 (some .int) [(0, 16, 19, 13)] rL_isHeld D z0 h [.ref x, iv p, .ref aa] (WPJ D o aa (cdPl p) (fun h9 => CS D h9 x o σ r m od) (fun h9 => CS D h9 x o σ r m od) (if (σ p.toNat).isSome = true then 1 else 0) h) := by
  refine CH_of RL hl (by decide) rfl (Nat.le_of_ble_eq_true rfl) (fun K X Y T hKl => ?_)
  subst hKl
  have hao := CS_oa hc ha rfl (kd_ne rfl)
  obtain ⟨fs9, hobx⟩ := CS_x' hc
  show WW K D z0 4 h 0 0 0 [(0, .ref x), (1, iv p), (2, .ref aa)] []
  refine r_aload_n 2 X dL_isHeld_0 rfl ?_
  refine r_iconst X dL_isHeld_1 ?_
  refine r_aload_n 0 X dL_isHeld_2 rfl ?_
  refine r_iload_n 1 X dL_isHeld_3 rfl ?_
  refine r_callV X dL_isHeld_4 kL_25 (hobx) (c6_isHeld (CX_l X) D z0 h hc hp p p_) [iv 0, .ref aa] rfl rfl (Nat.le_of_ble_eq_true rfl) (by decide) (by decide) (fun E9 h8 hx9 => ?_) (fun v9 h9 hv9 => ?_)
  · obtain ⟨rfl, hk9, rfl⟩ := Xn_1 hx9
    refine WX_catch X T [] ⟨0, 16, 19, 13⟩ [] rfl (fun z9 hz9 => absurd hz9 List.not_mem_nil) (by decide) (by decide) gL_13 (by decide) (fun q9 => ?_)
    show WW K D z0 4 h 1 6 19 [(0, .ref x), (1, iv p), (2, .ref aa)] [.ref q9]
    refine r_astore_n (L' := [(3, .ref q9), (0, .ref x), (1, iv p), (2, .ref aa)]) X dL_isHeld_19 (by decide) rfl ?_
    refine r_iconst X dL_isHeld_20 ?_
    refine r_iret X Y dL_isHeld_21 (by decide) (by decide) ?_
    exact WPJ_w 1 hk9 (by decide) (by decide) hc ha
  · obtain ⟨rfl, hC9, hK9, hcd⟩ := hv9
    have ha9 := KC_a hK9 ha hao
    show WW K D z0 4 h9 1 6 7 [(0, .ref x), (1, iv p), (2, .ref aa)] [iv (if (σ p.toNat).isSome = true then 1 else 0), iv 0, .ref aa]
    refine r_ifb_eq 14 X dL_isHeld_7 (by decide) (fun c7 => ?_) (fun c7 => ?_)
    · refine r_lconst 0 X dL_isHeld_14 (by decide) ?_
      refine r_lastore X dL_isHeld_15 ha9 ⟨by omega, by omega⟩ (by decide) ?_
      show WW K D z0 4 (hu h9 aa (aJ D 1 (up g0 (0 : Int).toNat (0)))) 1 6 16 [(0, .ref x), (1, iv p), (2, .ref aa)] []
      refine r_goto 22 X dL_isHeld_16 (by decide) ?_
      refine r_iconst X dL_isHeld_22 ?_
      refine r_iret X Y dL_isHeld_23 (by decide) (by decide) ?_
      exact WPJ_k hcd (congrArg jv (if_neg (by assumption)).symm) (fun e9 => CS_hu hC9 ha9 rfl (Or.inl rfl) e9) hK9
    · refine r_lconst 1 X dL_isHeld_10 (by decide) ?_
      refine r_goto 15 X dL_isHeld_11 (by decide) ?_
      refine r_lastore X dL_isHeld_15 ha9 ⟨by omega, by omega⟩ (by decide) ?_
      show WW K D z0 4 (hu h9 aa (aJ D 1 (up g0 (0 : Int).toNat (1)))) 1 6 16 [(0, .ref x), (1, iv p), (2, .ref aa)] []
      refine r_goto 22 X dL_isHeld_16 (by decide) ?_
      refine r_iconst X dL_isHeld_22 ?_
      refine r_iret X Y dL_isHeld_23 (by decide) (by decide) ?_
      exact WPJ_k hcd (congrArg jv (if_pos (by assumption)).symm) (fun e9 => CS_hu hC9 ha9 rfl (Or.inl rfl) e9) hK9
abbrev rL_side : Room := { frames := 9, cells := 4, slots := 24, locals := 154 }
theorem c_L_side {l : Launch} (hl : l.stackTraces = false) (D : va_G) (z0 : Nat) (h : Hp) {x o : Nat} {σ : Tg} {r : List Nat} {m : Nat} {od : Nat → Int} (hc : CS D h x o σ r m od) (hp : PI r m od) (p : Int) (p_ : I32 p) (w : Int) (w_ : I32 w) {aa : Nat} {g0 : Nat → Int} (ha : h aa = some (aJ D 1 g0)) : CH l yL_side cL_side 5 (some .int) [(0, 10, 13, 13), (0, 10, 17, 23)] rL_side D z0 h [.ref x, iv p, iv w, .ref aa] (WPJ D o aa (cdSd σ p w) (fun h9 => CS D h9 x o σ r m od) (fun h9 => CS D h9 x o σ r m od) (w32 (on σ p (fun a b c => ln a b c w))) h) := by
  refine CH_of RL hl (by decide) rfl (Nat.le_of_ble_eq_true rfl) (fun K X Y T hKl => ?_)
  subst hKl
  have hao := CS_oa hc ha rfl (kd_ne rfl)
  obtain ⟨fs9, hobx⟩ := CS_x' hc
  show WW K D z0 5 h 0 0 0 [(0, .ref x), (1, iv p), (2, iv w), (3, .ref aa)] []
  refine r_aload_n 3 X dL_side_0 rfl ?_
  refine r_iconst X dL_side_1 ?_
  refine r_aload_n 0 X dL_side_2 rfl ?_
  refine r_iload_n 1 X dL_side_3 rfl ?_
  refine r_iload_n 2 X dL_side_4 rfl ?_
  refine r_callV X dL_side_5 kL_29 (hobx) (c6_side (CX_l X) D z0 h hc hp p p_ w w_) [iv 0, .ref aa] rfl rfl (Nat.le_of_ble_eq_true rfl) (by decide) (by decide) (fun E9 h8 hx9 => ?_) (fun v9 h9 hv9 => ?_)
  · obtain ⟨rfl, hk9⟩ := Xn_2 hx9
    rcases hk9 with ⟨hk9, rfl⟩ | ⟨hk9, rfl⟩
    · refine WX_catch X T [] ⟨0, 10, 13, 13⟩ [⟨0, 10, 17, 23⟩] rfl (fun z9 hz9 => absurd hz9 List.not_mem_nil) (by decide) (by decide) gL_13 (by decide) (fun q9 => ?_)
      show WW K D z0 5 h 4 24 13 [(0, .ref x), (1, iv p), (2, iv w), (3, .ref aa)] [.ref q9]
      refine r_astore (L' := [(4, .ref q9), (0, .ref x), (1, iv p), (2, iv w), (3, .ref aa)]) X dL_side_13 (by decide) rfl ?_
      refine r_iconst X dL_side_15 ?_
      refine r_iret X Y dL_side_16 (by decide) (by decide) ?_
      exact WPJ_w 1 hk9 (by decide) (by decide) hc ha
    · refine WX_catch X T [⟨0, 10, 13, 13⟩] ⟨0, 10, 17, 23⟩ [] rfl (List.forall_mem_cons.mpr ⟨⟨by decide, _, gL_13, by decide⟩, fun z9 hz9 => absurd hz9 List.not_mem_nil⟩) (by decide) (by decide) gL_23 (by decide) (fun q9 => ?_)
      show WW K D z0 5 h 4 24 17 [(0, .ref x), (1, iv p), (2, iv w), (3, .ref aa)] [.ref q9]
      refine r_astore (L' := [(4, .ref q9), (0, .ref x), (1, iv p), (2, iv w), (3, .ref aa)]) X dL_side_17 (by decide) rfl ?_
      refine r_iconst X dL_side_19 ?_
      refine r_iret X Y dL_side_20 (by decide) (by decide) ?_
      exact WPJ_w 2 hk9 (by decide) (by decide) hc ha
  · obtain ⟨rfl, hC9, hK9, hcd⟩ := hv9
    have ha9 := KC_a hK9 ha hao
    show WW K D z0 5 h9 4 24 8 [(0, .ref x), (1, iv p), (2, iv w), (3, .ref aa)] [iv (on σ p (fun a b c => ln a b c w)), iv 0, .ref aa]
    refine r_i2lS X dL_side_8 ?_
    refine r_lastore X dL_side_9 ha9 ⟨by omega, by omega⟩ (by decide) ?_
    show WW K D z0 5 (hu h9 aa (aJ D 1 (up g0 (0 : Int).toNat (w32 (on σ p (fun a b c => ln a b c w)))))) 4 24 10 [(0, .ref x), (1, iv p), (2, iv w), (3, .ref aa)] []
    refine r_goto 21 X dL_side_10 (by decide) ?_
    refine r_iconst X dL_side_21 ?_
    refine r_iret X Y dL_side_22 (by decide) (by decide) ?_
    exact WPJ_k hcd rfl (fun e9 => CS_hu hC9 ha9 rfl (Or.inl rfl) e9) hK9
abbrev rL_copy : Room := { frames := 9, cells := 4, slots := 24, locals := 154 }
theorem c_L_copy {l : Launch} (hl : l.stackTraces = false) (D : va_G) (z0 : Nat) (h : Hp) {x o : Nat} {σ : Tg} {r : List Nat} {m : Nat} {od : Nat → Int} (hc : CS D h x o σ r m od) (hp : PI r m od) (p : Int) (p_ : I32 p) (q : Int) (q_ : I32 q) {aa : Nat} {g0 : Nat → Int} (ha : h aa = some (aJ D 1 g0)) : CH l yL_copy cL_copy 5 (some .int) [(0, 10, 13, 13), (0, 10, 17, 23)] rL_copy D z0 h [.ref x, iv p, iv q, .ref aa] (WPJ D o aa (cdCo σ p q) (fun h9 => CS D h9 x o (up σ q.toNat (σ p.toNat)) r m od) (fun h9 => CS D h9 x o σ r m od) (w32 (cntT (up σ q.toNat (σ p.toNat)) 16)) h) := by
  refine CH_of RL hl (by decide) rfl (Nat.le_of_ble_eq_true rfl) (fun K X Y T hKl => ?_)
  subst hKl
  have hao := CS_oa hc ha rfl (kd_ne rfl)
  obtain ⟨fs9, hobx⟩ := CS_x' hc
  show WW K D z0 5 h 0 0 0 [(0, .ref x), (1, iv p), (2, iv q), (3, .ref aa)] []
  refine r_aload_n 3 X dL_copy_0 rfl ?_
  refine r_iconst X dL_copy_1 ?_
  refine r_aload_n 0 X dL_copy_2 rfl ?_
  refine r_iload_n 1 X dL_copy_3 rfl ?_
  refine r_iload_n 2 X dL_copy_4 rfl ?_
  refine r_callV X dL_copy_5 kL_33 (hobx) (c6_copy (CX_l X) D z0 h hc hp p p_ q q_) [iv 0, .ref aa] rfl rfl (Nat.le_of_ble_eq_true rfl) (by decide) (by decide) (fun E9 h8 hx9 => ?_) (fun v9 h9 hv9 => ?_)
  · obtain ⟨rfl, hk9⟩ := Xn_2 hx9
    rcases hk9 with ⟨hk9, rfl⟩ | ⟨hk9, rfl⟩
    · refine WX_catch X T [] ⟨0, 10, 13, 13⟩ [⟨0, 10, 17, 23⟩] rfl (fun z9 hz9 => absurd hz9 List.not_mem_nil) (by decide) (by decide) gL_13 (by decide) (fun q9 => ?_)
      show WW K D z0 5 h 4 24 13 [(0, .ref x), (1, iv p), (2, iv q), (3, .ref aa)] [.ref q9]
      refine r_astore (L' := [(4, .ref q9), (0, .ref x), (1, iv p), (2, iv q), (3, .ref aa)]) X dL_copy_13 (by decide) rfl ?_
      refine r_iconst X dL_copy_15 ?_
      refine r_iret X Y dL_copy_16 (by decide) (by decide) ?_
      exact WPJ_w 1 hk9 (by decide) (by decide) hc ha
    · refine WX_catch X T [⟨0, 10, 13, 13⟩] ⟨0, 10, 17, 23⟩ [] rfl (List.forall_mem_cons.mpr ⟨⟨by decide, _, gL_13, by decide⟩, fun z9 hz9 => absurd hz9 List.not_mem_nil⟩) (by decide) (by decide) gL_23 (by decide) (fun q9 => ?_)
      show WW K D z0 5 h 4 24 17 [(0, .ref x), (1, iv p), (2, iv q), (3, .ref aa)] [.ref q9]
      refine r_astore (L' := [(4, .ref q9), (0, .ref x), (1, iv p), (2, iv q), (3, .ref aa)]) X dL_copy_17 (by decide) rfl ?_
      refine r_iconst X dL_copy_19 ?_
      refine r_iret X Y dL_copy_20 (by decide) (by decide) ?_
      exact WPJ_w 2 hk9 (by decide) (by decide) hc ha
  · obtain ⟨rfl, hC9, hK9, hcd⟩ := hv9
    have ha9 := KC_a hK9 ha hao
    show WW K D z0 5 h9 4 24 8 [(0, .ref x), (1, iv p), (2, iv q), (3, .ref aa)] [iv (cntT (up σ q.toNat (σ p.toNat)) 16), iv 0, .ref aa]
    refine r_i2lS X dL_copy_8 ?_
    refine r_lastore X dL_copy_9 ha9 ⟨by omega, by omega⟩ (by decide) ?_
    show WW K D z0 5 (hu h9 aa (aJ D 1 (up g0 (0 : Int).toNat (w32 (cntT (up σ q.toNat (σ p.toNat)) 16))))) 4 24 10 [(0, .ref x), (1, iv p), (2, iv q), (3, .ref aa)] []
    refine r_goto 21 X dL_copy_10 (by decide) ?_
    refine r_iconst X dL_copy_21 ?_
    refine r_iret X Y dL_copy_22 (by decide) (by decide) ?_
    exact WPJ_k hcd rfl (fun e9 => CS_hu hC9 ha9 rfl (Or.inl rfl) e9) hK9
abbrev rL_scale : Room := { frames := 9, cells := 6, slots := 35, locals := 155 }
theorem c_L_scale {l : Launch} (hl : l.stackTraces = false) (D : va_G) (z0 : Nat) (h : Hp) {x o : Nat} {σ : Tg} {r : List Nat} {m : Nat} {od : Nat → Int} (hc : CS D h x o σ r m od) (hp : PI r m od) (p : Int) (p_ : I32 p) (w : Int) (w_ : I32 w) {aa : Nat} {g0 : Nat → Int} (ha : h aa = some (aJ D 1 g0)) : CH l yL_scale cL_scale 5 (some .int) [(0, 10, 13, 13), (0, 10, 17, 15), (0, 10, 21, 23), (0, 10, 25, 17)] rL_scale D z0 h [.ref x, iv p, iv w, .ref aa] (WPJ D o aa (cdSc σ p w) (fun h9 => CS D h9 x o (up σ p.toNat (onT σ p (fun a b c => st3 (w * a) (w * b) (w * c)))) r m od) (fun h9 => CS D h9 x o σ r m od) (w32 (on σ p (fun _ _ c => w * c))) h) := by
  refine CH_of RL hl (by decide) rfl (Nat.le_of_ble_eq_true rfl) (fun K X Y T hKl => ?_)
  subst hKl
  have hao := CS_oa hc ha rfl (kd_ne rfl)
  obtain ⟨fs9, hobx⟩ := CS_x' hc
  show WW K D z0 5 h 0 0 0 [(0, .ref x), (1, iv p), (2, iv w), (3, .ref aa)] []
  refine r_aload_n 3 X dL_scale_0 rfl ?_
  refine r_iconst X dL_scale_1 ?_
  refine r_aload_n 0 X dL_scale_2 rfl ?_
  refine r_iload_n 1 X dL_scale_3 rfl ?_
  refine r_iload_n 2 X dL_scale_4 rfl ?_
  refine r_callV X dL_scale_5 kL_36 (hobx) (c6_scale (CX_l X) D z0 h hc hp p p_ w w_) [iv 0, .ref aa] rfl rfl (Nat.le_of_ble_eq_true rfl) (by decide) (by decide) (fun E9 h8 hx9 => ?_) (fun v9 h9 hv9 => ?_)
  · obtain ⟨rfl, hk9⟩ := Xn_4 hx9
    rcases hk9 with ⟨hk9, rfl⟩ | ⟨hk9, rfl⟩ | ⟨hk9, rfl⟩ | ⟨hk9, rfl⟩
    · refine WX_catch X T [] ⟨0, 10, 13, 13⟩ [⟨0, 10, 17, 15⟩, ⟨0, 10, 21, 23⟩, ⟨0, 10, 25, 17⟩] rfl (fun z9 hz9 => absurd hz9 List.not_mem_nil) (by decide) (by decide) gL_13 (by decide) (fun q9 => ?_)
      show WW K D z0 5 h 6 35 13 [(0, .ref x), (1, iv p), (2, iv w), (3, .ref aa)] [.ref q9]
      refine r_astore (L' := [(4, .ref q9), (0, .ref x), (1, iv p), (2, iv w), (3, .ref aa)]) X dL_scale_13 (by decide) rfl ?_
      refine r_iconst X dL_scale_15 ?_
      refine r_iret X Y dL_scale_16 (by decide) (by decide) ?_
      exact WPJ_w 1 hk9 (by decide) (by decide) hc ha
    · refine WX_catch X T [⟨0, 10, 13, 13⟩] ⟨0, 10, 17, 15⟩ [⟨0, 10, 21, 23⟩, ⟨0, 10, 25, 17⟩] rfl (List.forall_mem_cons.mpr ⟨⟨by decide, _, gL_13, by decide⟩, fun z9 hz9 => absurd hz9 List.not_mem_nil⟩) (by decide) (by decide) gL_15 (by decide) (fun q9 => ?_)
      show WW K D z0 5 h 6 35 17 [(0, .ref x), (1, iv p), (2, iv w), (3, .ref aa)] [.ref q9]
      refine r_astore (L' := [(4, .ref q9), (0, .ref x), (1, iv p), (2, iv w), (3, .ref aa)]) X dL_scale_17 (by decide) rfl ?_
      refine r_iconst X dL_scale_19 ?_
      refine r_iret X Y dL_scale_20 (by decide) (by decide) ?_
      exact WPJ_w 2 hk9 (by decide) (by decide) hc ha
    · refine WX_catch X T [⟨0, 10, 13, 13⟩, ⟨0, 10, 17, 15⟩] ⟨0, 10, 21, 23⟩ [⟨0, 10, 25, 17⟩] rfl (List.forall_mem_cons.mpr ⟨⟨by decide, _, gL_13, by decide⟩, List.forall_mem_cons.mpr ⟨⟨by decide, _, gL_15, by decide⟩, fun z9 hz9 => absurd hz9 List.not_mem_nil⟩⟩) (by decide) (by decide) gL_23 (by decide) (fun q9 => ?_)
      show WW K D z0 5 h 6 35 21 [(0, .ref x), (1, iv p), (2, iv w), (3, .ref aa)] [.ref q9]
      refine r_astore (L' := [(4, .ref q9), (0, .ref x), (1, iv p), (2, iv w), (3, .ref aa)]) X dL_scale_21 (by decide) rfl ?_
      refine r_iconst X dL_scale_23 ?_
      refine r_iret X Y dL_scale_24 (by decide) (by decide) ?_
      exact WPJ_w 3 hk9 (by decide) (by decide) hc ha
    · refine WX_catch X T [⟨0, 10, 13, 13⟩, ⟨0, 10, 17, 15⟩, ⟨0, 10, 21, 23⟩] ⟨0, 10, 25, 17⟩ [] rfl (List.forall_mem_cons.mpr ⟨⟨by decide, _, gL_13, by decide⟩, List.forall_mem_cons.mpr ⟨⟨by decide, _, gL_15, by decide⟩, List.forall_mem_cons.mpr ⟨⟨by decide, _, gL_23, by decide⟩, fun z9 hz9 => absurd hz9 List.not_mem_nil⟩⟩⟩) (by decide) (by decide) gL_17 (by decide) (fun q9 => ?_)
      show WW K D z0 5 h 6 35 25 [(0, .ref x), (1, iv p), (2, iv w), (3, .ref aa)] [.ref q9]
      refine r_astore (L' := [(4, .ref q9), (0, .ref x), (1, iv p), (2, iv w), (3, .ref aa)]) X dL_scale_25 (by decide) rfl ?_
      refine r_iconst X dL_scale_27 ?_
      refine r_iret X Y dL_scale_28 (by decide) (by decide) ?_
      exact WPJ_w 4 hk9 (by decide) (by decide) hc ha
  · obtain ⟨rfl, hC9, hK9, hcd⟩ := hv9
    have ha9 := KC_a hK9 ha hao
    show WW K D z0 5 h9 6 35 8 [(0, .ref x), (1, iv p), (2, iv w), (3, .ref aa)] [iv (on σ p (fun _ _ c => w * c)), iv 0, .ref aa]
    refine r_i2lS X dL_scale_8 ?_
    refine r_lastore X dL_scale_9 ha9 ⟨by omega, by omega⟩ (by decide) ?_
    show WW K D z0 5 (hu h9 aa (aJ D 1 (up g0 (0 : Int).toNat (w32 (on σ p (fun _ _ c => w * c)))))) 6 35 10 [(0, .ref x), (1, iv p), (2, iv w), (3, .ref aa)] []
    refine r_goto 29 X dL_scale_10 (by decide) ?_
    refine r_iconst X dL_scale_29 ?_
    refine r_iret X Y dL_scale_30 (by decide) (by decide) ?_
    exact WPJ_k hcd rfl (fun e9 => CS_hu hC9 ha9 rfl (Or.inl rfl) e9) hK9
abbrev rL_reduce : Room := { frames := 9, cells := 3, slots := 17, locals := 155 }
theorem c_L_reduce {l : Launch} (hl : l.stackTraces = false) (D : va_G) (z0 : Nat) (h : Hp) {x o : Nat} {σ : Tg} {r : List Nat} {m : Nat} {od : Nat → Int} (hc : CS D h x o σ r m od) (hp : PI r m od) (p : Int) (p_ : I32 p) {aa : Nat} {g0 : Nat → Int} (ha : h aa = some (aJ D 1 g0)) : CH l yL_reduce cL_reduce 4 (some .int) [(0, 9, 12, 13), (0, 9, 15, 23)] rL_reduce D z0 h [.ref x, iv p, .ref aa] (WPJ D o aa (ms σ p 2) (fun h9 => CS D h9 x o (up σ p.toNat (onT σ p (fun a b c => st3 (a / gcd3 a b c) (b / gcd3 a b c) (c / gcd3 a b c)))) r m od) (fun h9 => CS D h9 x o σ r m od) (w32 (on σ p gcd3)) h) := by
  refine CH_of RL hl (by decide) rfl (Nat.le_of_ble_eq_true rfl) (fun K X Y T hKl => ?_)
  subst hKl
  have hao := CS_oa hc ha rfl (kd_ne rfl)
  obtain ⟨fs9, hobx⟩ := CS_x' hc
  show WW K D z0 4 h 0 0 0 [(0, .ref x), (1, iv p), (2, .ref aa)] []
  refine r_aload_n 2 X dL_reduce_0 rfl ?_
  refine r_iconst X dL_reduce_1 ?_
  refine r_aload_n 0 X dL_reduce_2 rfl ?_
  refine r_iload_n 1 X dL_reduce_3 rfl ?_
  refine r_callV X dL_reduce_4 kL_39 (hobx) (c6_reduce (CX_l X) D z0 h hc hp p p_) [iv 0, .ref aa] rfl rfl (Nat.le_of_ble_eq_true rfl) (by decide) (by decide) (fun E9 h8 hx9 => ?_) (fun v9 h9 hv9 => ?_)
  · obtain ⟨rfl, hk9⟩ := Xn_2 hx9
    rcases hk9 with ⟨hk9, rfl⟩ | ⟨hk9, rfl⟩
    · refine WX_catch X T [] ⟨0, 9, 12, 13⟩ [⟨0, 9, 15, 23⟩] rfl (fun z9 hz9 => absurd hz9 List.not_mem_nil) (by decide) (by decide) gL_13 (by decide) (fun q9 => ?_)
      show WW K D z0 4 h 3 17 12 [(0, .ref x), (1, iv p), (2, .ref aa)] [.ref q9]
      refine r_astore_n (L' := [(3, .ref q9), (0, .ref x), (1, iv p), (2, .ref aa)]) X dL_reduce_12 (by decide) rfl ?_
      refine r_iconst X dL_reduce_13 ?_
      refine r_iret X Y dL_reduce_14 (by decide) (by decide) ?_
      exact WPJ_w 1 hk9 (by decide) (by decide) hc ha
    · refine WX_catch X T [⟨0, 9, 12, 13⟩] ⟨0, 9, 15, 23⟩ [] rfl (List.forall_mem_cons.mpr ⟨⟨by decide, _, gL_13, by decide⟩, fun z9 hz9 => absurd hz9 List.not_mem_nil⟩) (by decide) (by decide) gL_23 (by decide) (fun q9 => ?_)
      show WW K D z0 4 h 3 17 15 [(0, .ref x), (1, iv p), (2, .ref aa)] [.ref q9]
      refine r_astore_n (L' := [(3, .ref q9), (0, .ref x), (1, iv p), (2, .ref aa)]) X dL_reduce_15 (by decide) rfl ?_
      refine r_iconst X dL_reduce_16 ?_
      refine r_iret X Y dL_reduce_17 (by decide) (by decide) ?_
      exact WPJ_w 2 hk9 (by decide) (by decide) hc ha
  · obtain ⟨rfl, hC9, hK9, hcd⟩ := hv9
    have ha9 := KC_a hK9 ha hao
    show WW K D z0 4 h9 3 17 7 [(0, .ref x), (1, iv p), (2, .ref aa)] [iv (on σ p gcd3), iv 0, .ref aa]
    refine r_i2lS X dL_reduce_7 ?_
    refine r_lastore X dL_reduce_8 ha9 ⟨by omega, by omega⟩ (by decide) ?_
    show WW K D z0 4 (hu h9 aa (aJ D 1 (up g0 (0 : Int).toNat (w32 (on σ p gcd3))))) 3 17 9 [(0, .ref x), (1, iv p), (2, .ref aa)] []
    refine r_goto 18 X dL_reduce_9 (by decide) ?_
    refine r_iconst X dL_reduce_18 ?_
    refine r_iret X Y dL_reduce_19 (by decide) (by decide) ?_
    exact WPJ_k hcd rfl (fun e9 => CS_hu hC9 ha9 rfl (Or.inl rfl) e9) hK9
abbrev rL_join : Room := { frames := 9, cells := 11, slots := 65, locals := 158 }
theorem c_L_join {l : Launch} (hl : l.stackTraces = false) (D : va_G) (z0 : Nat) (h : Hp) {x o : Nat} {σ : Tg} {r : List Nat} {m : Nat} {od : Nat → Int} (hc : CS D h x o σ r m od) (hp : PI r m od) (p : Int) (p_ : I32 p) (q : Int) (q_ : I32 q) (r9 : Int) (r9_ : I32 r9) {aa : Nat} {g0 : Nat → Int} (ha : h aa = some (aJ D 1 g0)) : CH l yL_join cL_join 6 (some .int) [(0, 12, 15, 13), (0, 12, 19, 23), (0, 12, 23, 17)] rL_join D z0 h [.ref x, iv p, iv q, iv r9, .ref aa] (WPJ D o aa (cdJo σ p q r9) (fun h9 => CS D h9 x o (up σ r9.toNat (onT σ p (fun a b c => onT σ q (fun d e f => st3 c f (wd a b d e))))) r m od) (fun h9 => CS D h9 x o σ r m od) (w32 (on σ p (fun a b c => on σ q (fun d e f => mx3 c f (wd a b d e))))) h) := by
  refine CH_of RL hl (by decide) rfl (Nat.le_of_ble_eq_true rfl) (fun K X Y T hKl => ?_)
  subst hKl
  have hao := CS_oa hc ha rfl (kd_ne rfl)
  obtain ⟨fs9, hobx⟩ := CS_x' hc
  show WW K D z0 6 h 0 0 0 [(0, .ref x), (1, iv p), (2, iv q), (3, iv r9), (4, .ref aa)] []
  refine r_aload 4 X dL_join_0 rfl ?_
  refine r_iconst X dL_join_2 ?_
  refine r_aload_n 0 X dL_join_3 rfl ?_
  refine r_iload_n 1 X dL_join_4 rfl ?_
  refine r_iload_n 2 X dL_join_5 rfl ?_
  refine r_iload_n 3 X dL_join_6 rfl ?_
  refine r_callV X dL_join_7 kL_42 (hobx) (c6_join (CX_l X) D z0 h hc hp p p_ q q_ r9 r9_) [iv 0, .ref aa] rfl rfl (Nat.le_of_ble_eq_true rfl) (by decide) (by decide) (fun E9 h8 hx9 => ?_) (fun v9 h9 hv9 => ?_)
  · obtain ⟨rfl, hk9⟩ := Xn_3 hx9
    rcases hk9 with ⟨hk9, rfl⟩ | ⟨hk9, rfl⟩ | ⟨hk9, rfl⟩
    · refine WX_catch X T [] ⟨0, 12, 15, 13⟩ [⟨0, 12, 19, 23⟩, ⟨0, 12, 23, 17⟩] rfl (fun z9 hz9 => absurd hz9 List.not_mem_nil) (by decide) (by decide) gL_13 (by decide) (fun q9 => ?_)
      show WW K D z0 6 h 11 65 15 [(0, .ref x), (1, iv p), (2, iv q), (3, iv r9), (4, .ref aa)] [.ref q9]
      refine r_astore (L' := [(5, .ref q9), (0, .ref x), (1, iv p), (2, iv q), (3, iv r9), (4, .ref aa)]) X dL_join_15 (by decide) rfl ?_
      refine r_iconst X dL_join_17 ?_
      refine r_iret X Y dL_join_18 (by decide) (by decide) ?_
      exact WPJ_w 1 hk9 (by decide) (by decide) hc ha
    · refine WX_catch X T [⟨0, 12, 15, 13⟩] ⟨0, 12, 19, 23⟩ [⟨0, 12, 23, 17⟩] rfl (List.forall_mem_cons.mpr ⟨⟨by decide, _, gL_13, by decide⟩, fun z9 hz9 => absurd hz9 List.not_mem_nil⟩) (by decide) (by decide) gL_23 (by decide) (fun q9 => ?_)
      show WW K D z0 6 h 11 65 19 [(0, .ref x), (1, iv p), (2, iv q), (3, iv r9), (4, .ref aa)] [.ref q9]
      refine r_astore (L' := [(5, .ref q9), (0, .ref x), (1, iv p), (2, iv q), (3, iv r9), (4, .ref aa)]) X dL_join_19 (by decide) rfl ?_
      refine r_iconst X dL_join_21 ?_
      refine r_iret X Y dL_join_22 (by decide) (by decide) ?_
      exact WPJ_w 2 hk9 (by decide) (by decide) hc ha
    · refine WX_catch X T [⟨0, 12, 15, 13⟩, ⟨0, 12, 19, 23⟩] ⟨0, 12, 23, 17⟩ [] rfl (List.forall_mem_cons.mpr ⟨⟨by decide, _, gL_13, by decide⟩, List.forall_mem_cons.mpr ⟨⟨by decide, _, gL_23, by decide⟩, fun z9 hz9 => absurd hz9 List.not_mem_nil⟩⟩) (by decide) (by decide) gL_17 (by decide) (fun q9 => ?_)
      show WW K D z0 6 h 11 65 23 [(0, .ref x), (1, iv p), (2, iv q), (3, iv r9), (4, .ref aa)] [.ref q9]
      refine r_astore (L' := [(5, .ref q9), (0, .ref x), (1, iv p), (2, iv q), (3, iv r9), (4, .ref aa)]) X dL_join_23 (by decide) rfl ?_
      refine r_iconst X dL_join_25 ?_
      refine r_iret X Y dL_join_26 (by decide) (by decide) ?_
      exact WPJ_w 3 hk9 (by decide) (by decide) hc ha
  · obtain ⟨rfl, hC9, hK9, hcd⟩ := hv9
    have ha9 := KC_a hK9 ha hao
    show WW K D z0 6 h9 11 65 10 [(0, .ref x), (1, iv p), (2, iv q), (3, iv r9), (4, .ref aa)] [iv (on σ p (fun a b c => on σ q (fun d e f => mx3 c f (wd a b d e)))), iv 0, .ref aa]
    refine r_i2lS X dL_join_10 ?_
    refine r_lastore X dL_join_11 ha9 ⟨by omega, by omega⟩ (by decide) ?_
    show WW K D z0 6 (hu h9 aa (aJ D 1 (up g0 (0 : Int).toNat (w32 (on σ p (fun a b c => on σ q (fun d e f => mx3 c f (wd a b d e)))))))) 11 65 12 [(0, .ref x), (1, iv p), (2, iv q), (3, iv r9), (4, .ref aa)] []
    refine r_goto 27 X dL_join_12 (by decide) ?_
    refine r_iconst X dL_join_27 ?_
    refine r_iret X Y dL_join_28 (by decide) (by decide) ?_
    exact WPJ_k hcd rfl (fun e9 => CS_hu hC9 ha9 rfl (Or.inl rfl) e9) hK9
abbrev rL_kind : Room := { frames := 9, cells := 2, slots := 12, locals := 153 }
theorem c_L_kind {l : Launch} (hl : l.stackTraces = false) (D : va_G) (z0 : Nat) (h : Hp) {x o : Nat} {σ : Tg} {r : List Nat} {m : Nat} {od : Nat → Int} (hc : CS D h x o σ r m od) (hp : PI r m od) (p : Int) (p_ : I32 p) {aa : Nat} {g0 : Nat → Int} (ha : h aa = some (aJ D 1 g0)) : CH l yL_kind cL_kind 4 (some .int) [(0, 9, 12, 13), (0, 9, 15, 23)] rL_kind D z0 h [.ref x, iv p, .ref aa] (WPJ D o aa (ms σ p 2) (fun h9 => CS D h9 x o σ r m od) (fun h9 => CS D h9 x o σ r m od) (w32 (on σ p (fun a b c => cmpv (sqb3 a b c 2) 0))) h) := by
  refine CH_of RL hl (by decide) rfl (Nat.le_of_ble_eq_true rfl) (fun K X Y T hKl => ?_)
  subst hKl
  have hao := CS_oa hc ha rfl (kd_ne rfl)
  obtain ⟨fs9, hobx⟩ := CS_x' hc
  show WW K D z0 4 h 0 0 0 [(0, .ref x), (1, iv p), (2, .ref aa)] []
  refine r_aload_n 2 X dL_kind_0 rfl ?_
  refine r_iconst X dL_kind_1 ?_
  refine r_aload_n 0 X dL_kind_2 rfl ?_
  refine r_iload_n 1 X dL_kind_3 rfl ?_
  refine r_callV X dL_kind_4 kL_46 (hobx) (c6_kind (CX_l X) D z0 h hc hp p p_) [iv 0, .ref aa] rfl rfl (Nat.le_of_ble_eq_true rfl) (by decide) (by decide) (fun E9 h8 hx9 => ?_) (fun v9 h9 hv9 => ?_)
  · obtain ⟨rfl, hk9⟩ := Xn_2 hx9
    rcases hk9 with ⟨hk9, rfl⟩ | ⟨hk9, rfl⟩
    · refine WX_catch X T [] ⟨0, 9, 12, 13⟩ [⟨0, 9, 15, 23⟩] rfl (fun z9 hz9 => absurd hz9 List.not_mem_nil) (by decide) (by decide) gL_13 (by decide) (fun q9 => ?_)
      show WW K D z0 4 h 2 12 12 [(0, .ref x), (1, iv p), (2, .ref aa)] [.ref q9]
      refine r_astore_n (L' := [(3, .ref q9), (0, .ref x), (1, iv p), (2, .ref aa)]) X dL_kind_12 (by decide) rfl ?_
      refine r_iconst X dL_kind_13 ?_
      refine r_iret X Y dL_kind_14 (by decide) (by decide) ?_
      exact WPJ_w 1 hk9 (by decide) (by decide) hc ha
    · refine WX_catch X T [⟨0, 9, 12, 13⟩] ⟨0, 9, 15, 23⟩ [] rfl (List.forall_mem_cons.mpr ⟨⟨by decide, _, gL_13, by decide⟩, fun z9 hz9 => absurd hz9 List.not_mem_nil⟩) (by decide) (by decide) gL_23 (by decide) (fun q9 => ?_)
      show WW K D z0 4 h 2 12 15 [(0, .ref x), (1, iv p), (2, .ref aa)] [.ref q9]
      refine r_astore_n (L' := [(3, .ref q9), (0, .ref x), (1, iv p), (2, .ref aa)]) X dL_kind_15 (by decide) rfl ?_
      refine r_iconst X dL_kind_16 ?_
      refine r_iret X Y dL_kind_17 (by decide) (by decide) ?_
      exact WPJ_w 2 hk9 (by decide) (by decide) hc ha
  · obtain ⟨rfl, hC9, hK9, hcd⟩ := hv9
    have ha9 := KC_a hK9 ha hao
    show WW K D z0 4 h9 2 12 7 [(0, .ref x), (1, iv p), (2, .ref aa)] [iv (on σ p (fun a b c => cmpv (sqb3 a b c 2) 0)), iv 0, .ref aa]
    refine r_i2lS X dL_kind_7 ?_
    refine r_lastore X dL_kind_8 ha9 ⟨by omega, by omega⟩ (by decide) ?_
    show WW K D z0 4 (hu h9 aa (aJ D 1 (up g0 (0 : Int).toNat (w32 (on σ p (fun a b c => cmpv (sqb3 a b c 2) 0)))))) 2 12 9 [(0, .ref x), (1, iv p), (2, .ref aa)] []
    refine r_goto 18 X dL_kind_9 (by decide) ?_
    refine r_iconst X dL_kind_18 ?_
    refine r_iret X Y dL_kind_19 (by decide) (by decide) ?_
    exact WPJ_k hcd rfl (fun e9 => CS_hu hC9 ha9 rfl (Or.inl rfl) e9) hK9
abbrev rL_angle : Room := { frames := 9, cells := 4, slots := 24, locals := 154 }
theorem c_L_angle {l : Launch} (hl : l.stackTraces = false) (D : va_G) (z0 : Nat) (h : Hp) {x o : Nat} {σ : Tg} {r : List Nat} {m : Nat} {od : Nat → Int} (hc : CS D h x o σ r m od) (hp : PI r m od) (p : Int) (p_ : I32 p) (w : Int) (w_ : I32 w) {aa : Nat} {g0 : Nat → Int} (ha : h aa = some (aJ D 1 g0)) : CH l yL_angle cL_angle 5 (some .int) [(0, 10, 13, 13), (0, 10, 17, 23)] rL_angle D z0 h [.ref x, iv p, iv w, .ref aa] (WPJ D o aa (cdSd σ p w) (fun h9 => CS D h9 x o σ r m od) (fun h9 => CS D h9 x o σ r m od) (w32 (on σ p (fun a b c => deg a b c w))) h) := by
  refine CH_of RL hl (by decide) rfl (Nat.le_of_ble_eq_true rfl) (fun K X Y T hKl => ?_)
  subst hKl
  have hao := CS_oa hc ha rfl (kd_ne rfl)
  obtain ⟨fs9, hobx⟩ := CS_x' hc
  show WW K D z0 5 h 0 0 0 [(0, .ref x), (1, iv p), (2, iv w), (3, .ref aa)] []
  refine r_aload_n 3 X dL_angle_0 rfl ?_
  refine r_iconst X dL_angle_1 ?_
  refine r_aload_n 0 X dL_angle_2 rfl ?_
  refine r_iload_n 1 X dL_angle_3 rfl ?_
  refine r_iload_n 2 X dL_angle_4 rfl ?_
  refine r_callV X dL_angle_5 kL_49 (hobx) (c6_angle (CX_l X) D z0 h hc hp p p_ w w_) [iv 0, .ref aa] rfl rfl (Nat.le_of_ble_eq_true rfl) (by decide) (by decide) (fun E9 h8 hx9 => ?_) (fun v9 h9 hv9 => ?_)
  · obtain ⟨rfl, hk9⟩ := Xn_2 hx9
    rcases hk9 with ⟨hk9, rfl⟩ | ⟨hk9, rfl⟩
    · refine WX_catch X T [] ⟨0, 10, 13, 13⟩ [⟨0, 10, 17, 23⟩] rfl (fun z9 hz9 => absurd hz9 List.not_mem_nil) (by decide) (by decide) gL_13 (by decide) (fun q9 => ?_)
      show WW K D z0 5 h 4 24 13 [(0, .ref x), (1, iv p), (2, iv w), (3, .ref aa)] [.ref q9]
      refine r_astore (L' := [(4, .ref q9), (0, .ref x), (1, iv p), (2, iv w), (3, .ref aa)]) X dL_angle_13 (by decide) rfl ?_
      refine r_iconst X dL_angle_15 ?_
      refine r_iret X Y dL_angle_16 (by decide) (by decide) ?_
      exact WPJ_w 1 hk9 (by decide) (by decide) hc ha
    · refine WX_catch X T [⟨0, 10, 13, 13⟩] ⟨0, 10, 17, 23⟩ [] rfl (List.forall_mem_cons.mpr ⟨⟨by decide, _, gL_13, by decide⟩, fun z9 hz9 => absurd hz9 List.not_mem_nil⟩) (by decide) (by decide) gL_23 (by decide) (fun q9 => ?_)
      show WW K D z0 5 h 4 24 17 [(0, .ref x), (1, iv p), (2, iv w), (3, .ref aa)] [.ref q9]
      refine r_astore (L' := [(4, .ref q9), (0, .ref x), (1, iv p), (2, iv w), (3, .ref aa)]) X dL_angle_17 (by decide) rfl ?_
      refine r_iconst X dL_angle_19 ?_
      refine r_iret X Y dL_angle_20 (by decide) (by decide) ?_
      exact WPJ_w 2 hk9 (by decide) (by decide) hc ha
  · obtain ⟨rfl, hC9, hK9, hcd⟩ := hv9
    have ha9 := KC_a hK9 ha hao
    show WW K D z0 5 h9 4 24 8 [(0, .ref x), (1, iv p), (2, iv w), (3, .ref aa)] [iv (on σ p (fun a b c => deg a b c w)), iv 0, .ref aa]
    refine r_i2lS X dL_angle_8 ?_
    refine r_lastore X dL_angle_9 ha9 ⟨by omega, by omega⟩ (by decide) ?_
    show WW K D z0 5 (hu h9 aa (aJ D 1 (up g0 (0 : Int).toNat (w32 (on σ p (fun a b c => deg a b c w)))))) 4 24 10 [(0, .ref x), (1, iv p), (2, iv w), (3, .ref aa)] []
    refine r_goto 21 X dL_angle_10 (by decide) ?_
    refine r_iconst X dL_angle_21 ?_
    refine r_iret X Y dL_angle_22 (by decide) (by decide) ?_
    exact WPJ_k hcd rfl (fun e9 => CS_hu hC9 ha9 rfl (Or.inl rfl) e9) hK9
abbrev rL_areaIsWhole : Room := { frames := 9, cells := 2, slots := 12, locals := 153 }
theorem c_L_areaIsWhole {l : Launch} (hl : l.stackTraces = false) (D : va_G) (z0 : Nat) (h : Hp) {x o : Nat} {σ : Tg} {r : List Nat} {m : Nat} {od : Nat → Int} (hc : CS D h x o σ r m od) (hp : PI r m od) (p : Int) (p_ : I32 p) {aa : Nat} {g0 : Nat → Int} (ha : h aa = some (aJ D 1 g0)) : CH l yL_areaIsWhole cL_areaIsWhole 4 (some .int) [(0, 16, 19, 13), (0, 16, 22, 23)] rL_areaIsWhole D z0 h [.ref x, iv p, .ref aa] (WPJ D o aa (ms σ p 2) (fun h9 => CS D h9 x o σ r m od) (fun h9 => CS D h9 x o σ r m od) (if 0 < on σ p (fun a b c => wq (rtS (Sx a b c)) 4) then 1 else 0) h) := by
  refine CH_of RL hl (by decide) rfl (Nat.le_of_ble_eq_true rfl) (fun K X Y T hKl => ?_)
  subst hKl
  have hao := CS_oa hc ha rfl (kd_ne rfl)
  obtain ⟨fs9, hobx⟩ := CS_x' hc
  show WW K D z0 4 h 0 0 0 [(0, .ref x), (1, iv p), (2, .ref aa)] []
  refine r_aload_n 2 X dL_areaIsWhole_0 rfl ?_
  refine r_iconst X dL_areaIsWhole_1 ?_
  refine r_aload_n 0 X dL_areaIsWhole_2 rfl ?_
  refine r_iload_n 1 X dL_areaIsWhole_3 rfl ?_
  refine r_callV X dL_areaIsWhole_4 kL_52 (hobx) (c6_areaIsWhole (CX_l X) D z0 h hc hp p p_) [iv 0, .ref aa] rfl rfl (Nat.le_of_ble_eq_true rfl) (by decide) (by decide) (fun E9 h8 hx9 => ?_) (fun v9 h9 hv9 => ?_)
  · obtain ⟨rfl, hk9⟩ := Xn_2 hx9
    rcases hk9 with ⟨hk9, rfl⟩ | ⟨hk9, rfl⟩
    · refine WX_catch X T [] ⟨0, 16, 19, 13⟩ [⟨0, 16, 22, 23⟩] rfl (fun z9 hz9 => absurd hz9 List.not_mem_nil) (by decide) (by decide) gL_13 (by decide) (fun q9 => ?_)
      show WW K D z0 4 h 2 12 19 [(0, .ref x), (1, iv p), (2, .ref aa)] [.ref q9]
      refine r_astore_n (L' := [(3, .ref q9), (0, .ref x), (1, iv p), (2, .ref aa)]) X dL_areaIsWhole_19 (by decide) rfl ?_
      refine r_iconst X dL_areaIsWhole_20 ?_
      refine r_iret X Y dL_areaIsWhole_21 (by decide) (by decide) ?_
      exact WPJ_w 1 hk9 (by decide) (by decide) hc ha
    · refine WX_catch X T [⟨0, 16, 19, 13⟩] ⟨0, 16, 22, 23⟩ [] rfl (List.forall_mem_cons.mpr ⟨⟨by decide, _, gL_13, by decide⟩, fun z9 hz9 => absurd hz9 List.not_mem_nil⟩) (by decide) (by decide) gL_23 (by decide) (fun q9 => ?_)
      show WW K D z0 4 h 2 12 22 [(0, .ref x), (1, iv p), (2, .ref aa)] [.ref q9]
      refine r_astore_n (L' := [(3, .ref q9), (0, .ref x), (1, iv p), (2, .ref aa)]) X dL_areaIsWhole_22 (by decide) rfl ?_
      refine r_iconst X dL_areaIsWhole_23 ?_
      refine r_iret X Y dL_areaIsWhole_24 (by decide) (by decide) ?_
      exact WPJ_w 2 hk9 (by decide) (by decide) hc ha
  · obtain ⟨rfl, hC9, hK9, hcd⟩ := hv9
    have ha9 := KC_a hK9 ha hao
    show WW K D z0 4 h9 2 12 7 [(0, .ref x), (1, iv p), (2, .ref aa)] [iv (if 0 < on σ p (fun a b c => wq (rtS (Sx a b c)) 4) then 1 else 0), iv 0, .ref aa]
    refine r_ifb_eq 14 X dL_areaIsWhole_7 (by decide) (fun c7 => ?_) (fun c7 => ?_)
    · refine r_lconst 0 X dL_areaIsWhole_14 (by decide) ?_
      refine r_lastore X dL_areaIsWhole_15 ha9 ⟨by omega, by omega⟩ (by decide) ?_
      show WW K D z0 4 (hu h9 aa (aJ D 1 (up g0 (0 : Int).toNat (0)))) 2 12 16 [(0, .ref x), (1, iv p), (2, .ref aa)] []
      refine r_goto 25 X dL_areaIsWhole_16 (by decide) ?_
      refine r_iconst X dL_areaIsWhole_25 ?_
      refine r_iret X Y dL_areaIsWhole_26 (by decide) (by decide) ?_
      exact WPJ_k hcd (congrArg jv (if_neg (by assumption)).symm) (fun e9 => CS_hu hC9 ha9 rfl (Or.inl rfl) e9) hK9
    · refine r_lconst 1 X dL_areaIsWhole_10 (by decide) ?_
      refine r_goto 15 X dL_areaIsWhole_11 (by decide) ?_
      refine r_lastore X dL_areaIsWhole_15 ha9 ⟨by omega, by omega⟩ (by decide) ?_
      show WW K D z0 4 (hu h9 aa (aJ D 1 (up g0 (0 : Int).toNat (1)))) 2 12 16 [(0, .ref x), (1, iv p), (2, .ref aa)] []
      refine r_goto 25 X dL_areaIsWhole_16 (by decide) ?_
      refine r_iconst X dL_areaIsWhole_25 ?_
      refine r_iret X Y dL_areaIsWhole_26 (by decide) (by decide) ?_
      exact WPJ_k hcd (congrArg jv (if_pos (by assumption)).symm) (fun e9 => CS_hu hC9 ha9 rfl (Or.inl rfl) e9) hK9
abbrev rL_area : Room := { frames := 9, cells := 3, slots := 18, locals := 155 }
theorem c_L_area {l : Launch} (hl : l.stackTraces = false) (D : va_G) (z0 : Nat) (h : Hp) {x o : Nat} {σ : Tg} {r : List Nat} {m : Nat} {od : Nat → Int} (hc : CS D h x o σ r m od) (hp : PI r m od) (p : Int) (p_ : I32 p) {aa : Nat} {g0 : Nat → Int} (ha : h aa = some (aJ D 1 g0)) : CH l yL_area cL_area 4 (some .int) [(0, 8, 11, 13), (0, 8, 14, 23), (0, 8, 17, 17)] rL_area D z0 h [.ref x, iv p, .ref aa] (WPJ D o aa (cdAr σ p) (fun h9 => CS D h9 x o σ r m od) (fun h9 => CS D h9 x o σ r m od) (on σ p (fun a b c => wq (rtS (Sx a b c)) 4)) h) := by
  refine CH_of RL hl (by decide) rfl (Nat.le_of_ble_eq_true rfl) (fun K X Y T hKl => ?_)
  subst hKl
  have hao := CS_oa hc ha rfl (kd_ne rfl)
  obtain ⟨fs9, hobx⟩ := CS_x' hc
  show WW K D z0 4 h 0 0 0 [(0, .ref x), (1, iv p), (2, .ref aa)] []
  refine r_aload_n 2 X dL_area_0 rfl ?_
  refine r_iconst X dL_area_1 ?_
  refine r_aload_n 0 X dL_area_2 rfl ?_
  refine r_iload_n 1 X dL_area_3 rfl ?_
  refine r_callV X dL_area_4 kL_55 (hobx) (c6_area (CX_l X) D z0 h hc hp p p_) [iv 0, .ref aa] rfl rfl (Nat.le_of_ble_eq_true rfl) (by decide) (by decide) (fun E9 h8 hx9 => ?_) (fun v9 h9 hv9 => ?_)
  · obtain ⟨rfl, hk9⟩ := Xn_3 hx9
    rcases hk9 with ⟨hk9, rfl⟩ | ⟨hk9, rfl⟩ | ⟨hk9, rfl⟩
    · refine WX_catch X T [] ⟨0, 8, 11, 13⟩ [⟨0, 8, 14, 23⟩, ⟨0, 8, 17, 17⟩] rfl (fun z9 hz9 => absurd hz9 List.not_mem_nil) (by decide) (by decide) gL_13 (by decide) (fun q9 => ?_)
      show WW K D z0 4 h 3 18 11 [(0, .ref x), (1, iv p), (2, .ref aa)] [.ref q9]
      refine r_astore_n (L' := [(3, .ref q9), (0, .ref x), (1, iv p), (2, .ref aa)]) X dL_area_11 (by decide) rfl ?_
      refine r_iconst X dL_area_12 ?_
      refine r_iret X Y dL_area_13 (by decide) (by decide) ?_
      exact WPJ_w 1 hk9 (by decide) (by decide) hc ha
    · refine WX_catch X T [⟨0, 8, 11, 13⟩] ⟨0, 8, 14, 23⟩ [⟨0, 8, 17, 17⟩] rfl (List.forall_mem_cons.mpr ⟨⟨by decide, _, gL_13, by decide⟩, fun z9 hz9 => absurd hz9 List.not_mem_nil⟩) (by decide) (by decide) gL_23 (by decide) (fun q9 => ?_)
      show WW K D z0 4 h 3 18 14 [(0, .ref x), (1, iv p), (2, .ref aa)] [.ref q9]
      refine r_astore_n (L' := [(3, .ref q9), (0, .ref x), (1, iv p), (2, .ref aa)]) X dL_area_14 (by decide) rfl ?_
      refine r_iconst X dL_area_15 ?_
      refine r_iret X Y dL_area_16 (by decide) (by decide) ?_
      exact WPJ_w 2 hk9 (by decide) (by decide) hc ha
    · refine WX_catch X T [⟨0, 8, 11, 13⟩, ⟨0, 8, 14, 23⟩] ⟨0, 8, 17, 17⟩ [] rfl (List.forall_mem_cons.mpr ⟨⟨by decide, _, gL_13, by decide⟩, List.forall_mem_cons.mpr ⟨⟨by decide, _, gL_23, by decide⟩, fun z9 hz9 => absurd hz9 List.not_mem_nil⟩⟩) (by decide) (by decide) gL_17 (by decide) (fun q9 => ?_)
      show WW K D z0 4 h 3 18 17 [(0, .ref x), (1, iv p), (2, .ref aa)] [.ref q9]
      refine r_astore_n (L' := [(3, .ref q9), (0, .ref x), (1, iv p), (2, .ref aa)]) X dL_area_17 (by decide) rfl ?_
      refine r_iconst X dL_area_18 ?_
      refine r_iret X Y dL_area_19 (by decide) (by decide) ?_
      exact WPJ_w 3 hk9 (by decide) (by decide) hc ha
  · obtain ⟨rfl, hC9, hK9, hcd⟩ := hv9
    have ha9 := KC_a hK9 ha hao
    show WW K D z0 4 h9 3 18 7 [(0, .ref x), (1, iv p), (2, .ref aa)] [jv (on σ p (fun a b c => wq (rtS (Sx a b c)) 4)), iv 0, .ref aa]
    refine r_lastore X dL_area_7 ha9 ⟨by omega, by omega⟩ (by decide) ?_
    show WW K D z0 4 (hu h9 aa (aJ D 1 (up g0 (0 : Int).toNat (on σ p (fun a b c => wq (rtS (Sx a b c)) 4))))) 3 18 8 [(0, .ref x), (1, iv p), (2, .ref aa)] []
    refine r_goto 20 X dL_area_8 (by decide) ?_
    refine r_iconst X dL_area_20 ?_
    refine r_iret X Y dL_area_21 (by decide) (by decide) ?_
    exact WPJ_k hcd rfl (fun e9 => CS_hu hC9 ha9 rfl (Or.inl rfl) e9) hK9
abbrev rL_circle : Room := { frames := 9, cells := 5, slots := 30, locals := 157 }
theorem c_L_circle {l : Launch} (hl : l.stackTraces = false) (D : va_G) (z0 : Nat) (h : Hp) {x o : Nat} {σ : Tg} {r : List Nat} {m : Nat} {od : Nat → Int} (hc : CS D h x o σ r m od) (hp : PI r m od) (p : Int) (p_ : I32 p) (w : Int) (w_ : 0 ≤ w ∧ w ≤ 65535) {aa : Nat} {g0 : Nat → Int} (ha : h aa = some (aJ D 1 g0)) : CH l yL_circle cL_circle 5 (some .int) [(0, 9, 12, 13), (0, 9, 16, 15), (0, 9, 20, 23), (0, 9, 24, 17)] rL_circle D z0 h [.ref x, iv p, iv w, .ref aa] (WPJ D o aa (cdCi σ p w) (fun h9 => CS D h9 x o σ r m od) (fun h9 => CS D h9 x o σ r m od) (vCi σ p w) h) := by
  refine CH_of RL hl (by decide) rfl (Nat.le_of_ble_eq_true rfl) (fun K X Y T hKl => ?_)
  subst hKl
  have hao := CS_oa hc ha rfl (kd_ne rfl)
  obtain ⟨fs9, hobx⟩ := CS_x' hc
  show WW K D z0 5 h 0 0 0 [(0, .ref x), (1, iv p), (2, iv w), (3, .ref aa)] []
  refine r_aload_n 3 X dL_circle_0 rfl ?_
  refine r_iconst X dL_circle_1 ?_
  refine r_aload_n 0 X dL_circle_2 rfl ?_
  refine r_iload_n 1 X dL_circle_3 rfl ?_
  refine r_iload_n 2 X dL_circle_4 rfl ?_
  refine r_callV X dL_circle_5 kL_59 (hobx) (c6_circle (CX_l X) D z0 h hc hp p p_ w w_) [iv 0, .ref aa] rfl rfl (Nat.le_of_ble_eq_true rfl) (by decide) (by decide) (fun E9 h8 hx9 => ?_) (fun v9 h9 hv9 => ?_)
  · obtain ⟨rfl, hk9⟩ := Xn_4 hx9
    rcases hk9 with ⟨hk9, rfl⟩ | ⟨hk9, rfl⟩ | ⟨hk9, rfl⟩ | ⟨hk9, rfl⟩
    · refine WX_catch X T [] ⟨0, 9, 12, 13⟩ [⟨0, 9, 16, 15⟩, ⟨0, 9, 20, 23⟩, ⟨0, 9, 24, 17⟩] rfl (fun z9 hz9 => absurd hz9 List.not_mem_nil) (by decide) (by decide) gL_13 (by decide) (fun q9 => ?_)
      show WW K D z0 5 h 5 30 12 [(0, .ref x), (1, iv p), (2, iv w), (3, .ref aa)] [.ref q9]
      refine r_astore (L' := [(4, .ref q9), (0, .ref x), (1, iv p), (2, iv w), (3, .ref aa)]) X dL_circle_12 (by decide) rfl ?_
      refine r_iconst X dL_circle_14 ?_
      refine r_iret X Y dL_circle_15 (by decide) (by decide) ?_
      exact WPJ_w 1 hk9 (by decide) (by decide) hc ha
    · refine WX_catch X T [⟨0, 9, 12, 13⟩] ⟨0, 9, 16, 15⟩ [⟨0, 9, 20, 23⟩, ⟨0, 9, 24, 17⟩] rfl (List.forall_mem_cons.mpr ⟨⟨by decide, _, gL_13, by decide⟩, fun z9 hz9 => absurd hz9 List.not_mem_nil⟩) (by decide) (by decide) gL_15 (by decide) (fun q9 => ?_)
      show WW K D z0 5 h 5 30 16 [(0, .ref x), (1, iv p), (2, iv w), (3, .ref aa)] [.ref q9]
      refine r_astore (L' := [(4, .ref q9), (0, .ref x), (1, iv p), (2, iv w), (3, .ref aa)]) X dL_circle_16 (by decide) rfl ?_
      refine r_iconst X dL_circle_18 ?_
      refine r_iret X Y dL_circle_19 (by decide) (by decide) ?_
      exact WPJ_w 2 hk9 (by decide) (by decide) hc ha
    · refine WX_catch X T [⟨0, 9, 12, 13⟩, ⟨0, 9, 16, 15⟩] ⟨0, 9, 20, 23⟩ [⟨0, 9, 24, 17⟩] rfl (List.forall_mem_cons.mpr ⟨⟨by decide, _, gL_13, by decide⟩, List.forall_mem_cons.mpr ⟨⟨by decide, _, gL_15, by decide⟩, fun z9 hz9 => absurd hz9 List.not_mem_nil⟩⟩) (by decide) (by decide) gL_23 (by decide) (fun q9 => ?_)
      show WW K D z0 5 h 5 30 20 [(0, .ref x), (1, iv p), (2, iv w), (3, .ref aa)] [.ref q9]
      refine r_astore (L' := [(4, .ref q9), (0, .ref x), (1, iv p), (2, iv w), (3, .ref aa)]) X dL_circle_20 (by decide) rfl ?_
      refine r_iconst X dL_circle_22 ?_
      refine r_iret X Y dL_circle_23 (by decide) (by decide) ?_
      exact WPJ_w 3 hk9 (by decide) (by decide) hc ha
    · refine WX_catch X T [⟨0, 9, 12, 13⟩, ⟨0, 9, 16, 15⟩, ⟨0, 9, 20, 23⟩] ⟨0, 9, 24, 17⟩ [] rfl (List.forall_mem_cons.mpr ⟨⟨by decide, _, gL_13, by decide⟩, List.forall_mem_cons.mpr ⟨⟨by decide, _, gL_15, by decide⟩, List.forall_mem_cons.mpr ⟨⟨by decide, _, gL_23, by decide⟩, fun z9 hz9 => absurd hz9 List.not_mem_nil⟩⟩⟩) (by decide) (by decide) gL_17 (by decide) (fun q9 => ?_)
      show WW K D z0 5 h 5 30 24 [(0, .ref x), (1, iv p), (2, iv w), (3, .ref aa)] [.ref q9]
      refine r_astore (L' := [(4, .ref q9), (0, .ref x), (1, iv p), (2, iv w), (3, .ref aa)]) X dL_circle_24 (by decide) rfl ?_
      refine r_iconst X dL_circle_26 ?_
      refine r_iret X Y dL_circle_27 (by decide) (by decide) ?_
      exact WPJ_w 4 hk9 (by decide) (by decide) hc ha
  · obtain ⟨rfl, hC9, hK9, hcd⟩ := hv9
    have ha9 := KC_a hK9 ha hao
    show WW K D z0 5 h9 5 30 8 [(0, .ref x), (1, iv p), (2, iv w), (3, .ref aa)] [jv (vCi σ p w), iv 0, .ref aa]
    refine r_lastore X dL_circle_8 ha9 ⟨by omega, by omega⟩ (by decide) ?_
    show WW K D z0 5 (hu h9 aa (aJ D 1 (up g0 (0 : Int).toNat (vCi σ p w)))) 5 30 9 [(0, .ref x), (1, iv p), (2, iv w), (3, .ref aa)] []
    refine r_goto 28 X dL_circle_9 (by decide) ?_
    refine r_iconst X dL_circle_28 ?_
    refine r_iret X Y dL_circle_29 (by decide) (by decide) ?_
    exact WPJ_k hcd rfl (fun e9 => CS_hu hC9 ha9 rfl (Or.inl rfl) e9) hK9
abbrev rL_compareAreas : Room := { frames := 9, cells := 6, slots := 36, locals := 155 }
theorem c_L_compareAreas {l : Launch} (hl : l.stackTraces = false) (D : va_G) (z0 : Nat) (h : Hp) {x o : Nat} {σ : Tg} {r : List Nat} {m : Nat} {od : Nat → Int} (hc : CS D h x o σ r m od) (hp : PI r m od) (p : Int) (p_ : I32 p) (q : Int) (q_ : I32 q) {aa : Nat} {g0 : Nat → Int} (ha : h aa = some (aJ D 1 g0)) : CH l yL_compareAreas cL_compareAreas 5 (some .int) [(0, 10, 13, 13), (0, 10, 17, 23)] rL_compareAreas D z0 h [.ref x, iv p, iv q, .ref aa] (WPJ D o aa (cd2 σ p q) (fun h9 => CS D h9 x o σ r m od) (fun h9 => CS D h9 x o σ r m od) (w32 (on σ p (fun a b c => on σ q (fun d e f => cmpv (Sx a b c) (Sx d e f))))) h) := by
  refine CH_of RL hl (by decide) rfl (Nat.le_of_ble_eq_true rfl) (fun K X Y T hKl => ?_)
  subst hKl
  have hao := CS_oa hc ha rfl (kd_ne rfl)
  obtain ⟨fs9, hobx⟩ := CS_x' hc
  show WW K D z0 5 h 0 0 0 [(0, .ref x), (1, iv p), (2, iv q), (3, .ref aa)] []
  refine r_aload_n 3 X dL_compareAreas_0 rfl ?_
  refine r_iconst X dL_compareAreas_1 ?_
  refine r_aload_n 0 X dL_compareAreas_2 rfl ?_
  refine r_iload_n 1 X dL_compareAreas_3 rfl ?_
  refine r_iload_n 2 X dL_compareAreas_4 rfl ?_
  refine r_callV X dL_compareAreas_5 kL_63 (hobx) (c6_compareAreas (CX_l X) D z0 h hc hp p p_ q q_) [iv 0, .ref aa] rfl rfl (Nat.le_of_ble_eq_true rfl) (by decide) (by decide) (fun E9 h8 hx9 => ?_) (fun v9 h9 hv9 => ?_)
  · obtain ⟨rfl, hk9⟩ := Xn_2 hx9
    rcases hk9 with ⟨hk9, rfl⟩ | ⟨hk9, rfl⟩
    · refine WX_catch X T [] ⟨0, 10, 13, 13⟩ [⟨0, 10, 17, 23⟩] rfl (fun z9 hz9 => absurd hz9 List.not_mem_nil) (by decide) (by decide) gL_13 (by decide) (fun q9 => ?_)
      show WW K D z0 5 h 6 36 13 [(0, .ref x), (1, iv p), (2, iv q), (3, .ref aa)] [.ref q9]
      refine r_astore (L' := [(4, .ref q9), (0, .ref x), (1, iv p), (2, iv q), (3, .ref aa)]) X dL_compareAreas_13 (by decide) rfl ?_
      refine r_iconst X dL_compareAreas_15 ?_
      refine r_iret X Y dL_compareAreas_16 (by decide) (by decide) ?_
      exact WPJ_w 1 hk9 (by decide) (by decide) hc ha
    · refine WX_catch X T [⟨0, 10, 13, 13⟩] ⟨0, 10, 17, 23⟩ [] rfl (List.forall_mem_cons.mpr ⟨⟨by decide, _, gL_13, by decide⟩, fun z9 hz9 => absurd hz9 List.not_mem_nil⟩) (by decide) (by decide) gL_23 (by decide) (fun q9 => ?_)
      show WW K D z0 5 h 6 36 17 [(0, .ref x), (1, iv p), (2, iv q), (3, .ref aa)] [.ref q9]
      refine r_astore (L' := [(4, .ref q9), (0, .ref x), (1, iv p), (2, iv q), (3, .ref aa)]) X dL_compareAreas_17 (by decide) rfl ?_
      refine r_iconst X dL_compareAreas_19 ?_
      refine r_iret X Y dL_compareAreas_20 (by decide) (by decide) ?_
      exact WPJ_w 2 hk9 (by decide) (by decide) hc ha
  · obtain ⟨rfl, hC9, hK9, hcd⟩ := hv9
    have ha9 := KC_a hK9 ha hao
    show WW K D z0 5 h9 6 36 8 [(0, .ref x), (1, iv p), (2, iv q), (3, .ref aa)] [iv (on σ p (fun a b c => on σ q (fun d e f => cmpv (Sx a b c) (Sx d e f)))), iv 0, .ref aa]
    refine r_i2lS X dL_compareAreas_8 ?_
    refine r_lastore X dL_compareAreas_9 ha9 ⟨by omega, by omega⟩ (by decide) ?_
    show WW K D z0 5 (hu h9 aa (aJ D 1 (up g0 (0 : Int).toNat (w32 (on σ p (fun a b c => on σ q (fun d e f => cmpv (Sx a b c) (Sx d e f)))))))) 6 36 10 [(0, .ref x), (1, iv p), (2, iv q), (3, .ref aa)] []
    refine r_goto 21 X dL_compareAreas_10 (by decide) ?_
    refine r_iconst X dL_compareAreas_21 ?_
    refine r_iret X Y dL_compareAreas_22 (by decide) (by decide) ?_
    exact WPJ_k hcd rfl (fun e9 => CS_hu hC9 ha9 rfl (Or.inl rfl) e9) hK9
abbrev rL_product : Room := { frames := 9, cells := 2, slots := 12, locals := 153 }
theorem c_L_product {l : Launch} (hl : l.stackTraces = false) (D : va_G) (z0 : Nat) (h : Hp) {x o : Nat} {σ : Tg} {r : List Nat} {m : Nat} {od : Nat → Int} (hc : CS D h x o σ r m od) (hp : PI r m od) (p : Int) (p_ : I32 p) {aa : Nat} {g0 : Nat → Int} (ha : h aa = some (aJ D 1 g0)) : CH l yL_product cL_product 4 (some .int) [(0, 8, 11, 13), (0, 8, 14, 23)] rL_product D z0 h [.ref x, iv p, .ref aa] (WPJ D o aa (ms σ p 2) (fun h9 => CS D h9 x o σ r m od) (fun h9 => CS D h9 x o σ r m od) (on σ p Sx) h) := by
  refine CH_of RL hl (by decide) rfl (Nat.le_of_ble_eq_true rfl) (fun K X Y T hKl => ?_)
  subst hKl
  have hao := CS_oa hc ha rfl (kd_ne rfl)
  obtain ⟨fs9, hobx⟩ := CS_x' hc
  show WW K D z0 4 h 0 0 0 [(0, .ref x), (1, iv p), (2, .ref aa)] []
  refine r_aload_n 2 X dL_product_0 rfl ?_
  refine r_iconst X dL_product_1 ?_
  refine r_aload_n 0 X dL_product_2 rfl ?_
  refine r_iload_n 1 X dL_product_3 rfl ?_
  refine r_callV X dL_product_4 kL_66 (hobx) (c6_product (CX_l X) D z0 h hc hp p p_) [iv 0, .ref aa] rfl rfl (Nat.le_of_ble_eq_true rfl) (by decide) (by decide) (fun E9 h8 hx9 => ?_) (fun v9 h9 hv9 => ?_)
  · obtain ⟨rfl, hk9⟩ := Xn_2 hx9
    rcases hk9 with ⟨hk9, rfl⟩ | ⟨hk9, rfl⟩
    · refine WX_catch X T [] ⟨0, 8, 11, 13⟩ [⟨0, 8, 14, 23⟩] rfl (fun z9 hz9 => absurd hz9 List.not_mem_nil) (by decide) (by decide) gL_13 (by decide) (fun q9 => ?_)
      show WW K D z0 4 h 2 12 11 [(0, .ref x), (1, iv p), (2, .ref aa)] [.ref q9]
      refine r_astore_n (L' := [(3, .ref q9), (0, .ref x), (1, iv p), (2, .ref aa)]) X dL_product_11 (by decide) rfl ?_
      refine r_iconst X dL_product_12 ?_
      refine r_iret X Y dL_product_13 (by decide) (by decide) ?_
      exact WPJ_w 1 hk9 (by decide) (by decide) hc ha
    · refine WX_catch X T [⟨0, 8, 11, 13⟩] ⟨0, 8, 14, 23⟩ [] rfl (List.forall_mem_cons.mpr ⟨⟨by decide, _, gL_13, by decide⟩, fun z9 hz9 => absurd hz9 List.not_mem_nil⟩) (by decide) (by decide) gL_23 (by decide) (fun q9 => ?_)
      show WW K D z0 4 h 2 12 14 [(0, .ref x), (1, iv p), (2, .ref aa)] [.ref q9]
      refine r_astore_n (L' := [(3, .ref q9), (0, .ref x), (1, iv p), (2, .ref aa)]) X dL_product_14 (by decide) rfl ?_
      refine r_iconst X dL_product_15 ?_
      refine r_iret X Y dL_product_16 (by decide) (by decide) ?_
      exact WPJ_w 2 hk9 (by decide) (by decide) hc ha
  · obtain ⟨rfl, hC9, hK9, hcd⟩ := hv9
    have ha9 := KC_a hK9 ha hao
    show WW K D z0 4 h9 2 12 7 [(0, .ref x), (1, iv p), (2, .ref aa)] [jv (on σ p Sx), iv 0, .ref aa]
    refine r_lastore X dL_product_7 ha9 ⟨by omega, by omega⟩ (by decide) ?_
    show WW K D z0 4 (hu h9 aa (aJ D 1 (up g0 (0 : Int).toNat (on σ p Sx)))) 2 12 8 [(0, .ref x), (1, iv p), (2, .ref aa)] []
    refine r_goto 17 X dL_product_8 (by decide) ?_
    refine r_iconst X dL_product_17 ?_
    refine r_iret X Y dL_product_18 (by decide) (by decide) ?_
    exact WPJ_k hcd rfl (fun e9 => CS_hu hC9 ha9 rfl (Or.inl rfl) e9) hK9
abbrev rL_bits : Room := { frames := 9, cells := 2, slots := 12, locals := 153 }
theorem c_L_bits {l : Launch} (hl : l.stackTraces = false) (D : va_G) (z0 : Nat) (h : Hp) {x o : Nat} {σ : Tg} {r : List Nat} {m : Nat} {od : Nat → Int} (hc : CS D h x o σ r m od) (hp : PI r m od) (p : Int) (p_ : I32 p) {aa : Nat} {g0 : Nat → Int} (ha : h aa = some (aJ D 1 g0)) : CH l yL_bits cL_bits 4 (some .int) [(0, 9, 12, 13), (0, 9, 15, 23)] rL_bits D z0 h [.ref x, iv p, .ref aa] (WPJ D o aa (ms σ p 2) (fun h9 => CS D h9 x o σ r m od) (fun h9 => CS D h9 x o σ r m od) (w32 (on σ p (fun a b c => ((bl (Sx a b c).toNat : Nat) : Int)))) h) := by
  refine CH_of RL hl (by decide) rfl (Nat.le_of_ble_eq_true rfl) (fun K X Y T hKl => ?_)
  subst hKl
  have hao := CS_oa hc ha rfl (kd_ne rfl)
  obtain ⟨fs9, hobx⟩ := CS_x' hc
  show WW K D z0 4 h 0 0 0 [(0, .ref x), (1, iv p), (2, .ref aa)] []
  refine r_aload_n 2 X dL_bits_0 rfl ?_
  refine r_iconst X dL_bits_1 ?_
  refine r_aload_n 0 X dL_bits_2 rfl ?_
  refine r_iload_n 1 X dL_bits_3 rfl ?_
  refine r_callV X dL_bits_4 kL_69 (hobx) (c6_bits (CX_l X) D z0 h hc hp p p_) [iv 0, .ref aa] rfl rfl (Nat.le_of_ble_eq_true rfl) (by decide) (by decide) (fun E9 h8 hx9 => ?_) (fun v9 h9 hv9 => ?_)
  · obtain ⟨rfl, hk9⟩ := Xn_2 hx9
    rcases hk9 with ⟨hk9, rfl⟩ | ⟨hk9, rfl⟩
    · refine WX_catch X T [] ⟨0, 9, 12, 13⟩ [⟨0, 9, 15, 23⟩] rfl (fun z9 hz9 => absurd hz9 List.not_mem_nil) (by decide) (by decide) gL_13 (by decide) (fun q9 => ?_)
      show WW K D z0 4 h 2 12 12 [(0, .ref x), (1, iv p), (2, .ref aa)] [.ref q9]
      refine r_astore_n (L' := [(3, .ref q9), (0, .ref x), (1, iv p), (2, .ref aa)]) X dL_bits_12 (by decide) rfl ?_
      refine r_iconst X dL_bits_13 ?_
      refine r_iret X Y dL_bits_14 (by decide) (by decide) ?_
      exact WPJ_w 1 hk9 (by decide) (by decide) hc ha
    · refine WX_catch X T [⟨0, 9, 12, 13⟩] ⟨0, 9, 15, 23⟩ [] rfl (List.forall_mem_cons.mpr ⟨⟨by decide, _, gL_13, by decide⟩, fun z9 hz9 => absurd hz9 List.not_mem_nil⟩) (by decide) (by decide) gL_23 (by decide) (fun q9 => ?_)
      show WW K D z0 4 h 2 12 15 [(0, .ref x), (1, iv p), (2, .ref aa)] [.ref q9]
      refine r_astore_n (L' := [(3, .ref q9), (0, .ref x), (1, iv p), (2, .ref aa)]) X dL_bits_15 (by decide) rfl ?_
      refine r_iconst X dL_bits_16 ?_
      refine r_iret X Y dL_bits_17 (by decide) (by decide) ?_
      exact WPJ_w 2 hk9 (by decide) (by decide) hc ha
  · obtain ⟨rfl, hC9, hK9, hcd⟩ := hv9
    have ha9 := KC_a hK9 ha hao
    show WW K D z0 4 h9 2 12 7 [(0, .ref x), (1, iv p), (2, .ref aa)] [iv (on σ p (fun a b c => ((bl (Sx a b c).toNat : Nat) : Int))), iv 0, .ref aa]
    refine r_i2lS X dL_bits_7 ?_
    refine r_lastore X dL_bits_8 ha9 ⟨by omega, by omega⟩ (by decide) ?_
    show WW K D z0 4 (hu h9 aa (aJ D 1 (up g0 (0 : Int).toNat (w32 (on σ p (fun a b c => ((bl (Sx a b c).toNat : Nat) : Int))))))) 2 12 9 [(0, .ref x), (1, iv p), (2, .ref aa)] []
    refine r_goto 18 X dL_bits_9 (by decide) ?_
    refine r_iconst X dL_bits_18 ?_
    refine r_iret X Y dL_bits_19 (by decide) (by decide) ?_
    exact WPJ_k hcd rfl (fun e9 => CS_hu hC9 ha9 rfl (Or.inl rfl) e9) hK9
abbrev rL_hypot : Room := { frames := 9, cells := 5, slots := 30, locals := 156 }
theorem c_L_hypot {l : Launch} (hl : l.stackTraces = false) (D : va_G) (z0 : Nat) (h : Hp) {x o : Nat} {σ : Tg} {r : List Nat} {m : Nat} {od : Nat → Int} (hc : CS D h x o σ r m od) (hp : PI r m od) (p : Int) (p_ : I32 p) (i : Int) (i_ : I32 i) (k9 : Int) (k9_ : I32 k9) {aa : Nat} {g0 : Nat → UInt64} (ha : h aa = some (aD D 1 g0)) : CH l yL_hypot cL_hypot 6 (some .int) [(0, 11, 14, 13), (0, 11, 18, 23)] rL_hypot D z0 h [.ref x, iv p, iv i, iv k9, .ref aa] (WPD D o aa (cdHy σ p i k9) (fun h9 => CS D h9 x o σ r m od) (fun h9 => CS D h9 x o σ r m od) (dR (hyN σ p i k9)) h) := by
  refine CH_of RL hl (by decide) rfl (Nat.le_of_ble_eq_true rfl) (fun K X Y T hKl => ?_)
  subst hKl
  have hao := CS_oa hc ha rfl (kd_ne rfl)
  obtain ⟨fs9, hobx⟩ := CS_x' hc
  show WW K D z0 6 h 0 0 0 [(0, .ref x), (1, iv p), (2, iv i), (3, iv k9), (4, .ref aa)] []
  refine r_aload 4 X dL_hypot_0 rfl ?_
  refine r_iconst X dL_hypot_2 ?_
  refine r_aload_n 0 X dL_hypot_3 rfl ?_
  refine r_iload_n 1 X dL_hypot_4 rfl ?_
  refine r_iload_n 2 X dL_hypot_5 rfl ?_
  refine r_iload_n 3 X dL_hypot_6 rfl ?_
  refine r_callV X dL_hypot_7 kL_72 (hobx) (c6_hypot (CX_l X) D z0 h hc hp p p_ i i_ k9 k9_) [iv 0, .ref aa] rfl rfl (Nat.le_of_ble_eq_true rfl) (by decide) (by decide) (fun E9 h8 hx9 => ?_) (fun v9 h9 hv9 => ?_)
  · obtain ⟨rfl, hk9⟩ := Xn_2 hx9
    rcases hk9 with ⟨hk9, rfl⟩ | ⟨hk9, rfl⟩
    · refine WX_catch X T [] ⟨0, 11, 14, 13⟩ [⟨0, 11, 18, 23⟩] rfl (fun z9 hz9 => absurd hz9 List.not_mem_nil) (by decide) (by decide) gL_13 (by decide) (fun q9 => ?_)
      show WW K D z0 6 h 5 30 14 [(0, .ref x), (1, iv p), (2, iv i), (3, iv k9), (4, .ref aa)] [.ref q9]
      refine r_astore (L' := [(5, .ref q9), (0, .ref x), (1, iv p), (2, iv i), (3, iv k9), (4, .ref aa)]) X dL_hypot_14 (by decide) rfl ?_
      refine r_iconst X dL_hypot_16 ?_
      refine r_iret X Y dL_hypot_17 (by decide) (by decide) ?_
      exact WPD_w 1 hk9 (by decide) (by decide) hc ha
    · refine WX_catch X T [⟨0, 11, 14, 13⟩] ⟨0, 11, 18, 23⟩ [] rfl (List.forall_mem_cons.mpr ⟨⟨by decide, _, gL_13, by decide⟩, fun z9 hz9 => absurd hz9 List.not_mem_nil⟩) (by decide) (by decide) gL_23 (by decide) (fun q9 => ?_)
      show WW K D z0 6 h 5 30 18 [(0, .ref x), (1, iv p), (2, iv i), (3, iv k9), (4, .ref aa)] [.ref q9]
      refine r_astore (L' := [(5, .ref q9), (0, .ref x), (1, iv p), (2, iv i), (3, iv k9), (4, .ref aa)]) X dL_hypot_18 (by decide) rfl ?_
      refine r_iconst X dL_hypot_20 ?_
      refine r_iret X Y dL_hypot_21 (by decide) (by decide) ?_
      exact WPD_w 2 hk9 (by decide) (by decide) hc ha
  · obtain ⟨rfl, hC9, hK9, hcd⟩ := hv9
    have ha9 := KC_d hK9 ha hao
    show WW K D z0 6 h9 5 30 10 [(0, .ref x), (1, iv p), (2, iv i), (3, iv k9), (4, .ref aa)] [.double (dR (hyN σ p i k9)), iv 0, .ref aa]
    refine r_dastore X dL_hypot_10 ha9 ⟨by omega, by omega⟩ (by decide) ?_
    show WW K D z0 6 (hu h9 aa (aD D 1 (up g0 (0 : Int).toNat ((dR (hyN σ p i k9)))))) 5 30 11 [(0, .ref x), (1, iv p), (2, iv i), (3, iv k9), (4, .ref aa)] []
    refine r_goto 22 X dL_hypot_11 (by decide) ?_
    refine r_iconst X dL_hypot_22 ?_
    refine r_iret X Y dL_hypot_23 (by decide) (by decide) ?_
    exact WPD_k hcd rfl (fun e9 => CS_hu hC9 ha9 rfl (Or.inr rfl) e9) hK9
abbrev rL_root : Room := { frames := 8, cells := 1, slots := 6, locals := 133 }
theorem c_L_root {l : Launch} (hl : l.stackTraces = false) (D : va_G) (z0 : Nat) (h : Hp) {x o : Nat} {σ : Tg} {r : List Nat} {m : Nat} {od : Nat → Int} (hc : CS D h x o σ r m od) (hp : PI r m od) (p : Int) (p_ : I64 p) {aa : Nat} {g0 : Nat → UInt64} (ha : h aa = some (aD D 1 g0)) : CH l yL_root cL_root 5 (some .int) [(0, 8, 11, 15)] rL_root D z0 h [.ref x, jv p, .ref aa] (WPD D o aa (cdRo p) (fun h9 => CS D h9 x o σ r m od) (fun h9 => CS D h9 x o σ r m od) (dR p.toNat) h) := by
  refine CH_of RL hl (by decide) rfl (Nat.le_of_ble_eq_true rfl) (fun K X Y T hKl => ?_)
  subst hKl
  have hao := CS_oa hc ha rfl (kd_ne rfl)
  obtain ⟨fs9, hobx⟩ := CS_x' hc
  show WW K D z0 5 h 0 0 0 [(0, .ref x), (1, jv p), (3, .ref aa)] []
  refine r_aload_n 2 X dL_root_0 rfl ?_
  refine r_iconst X dL_root_1 ?_
  refine r_aload_n 0 X dL_root_2 rfl ?_
  refine r_lload_n 1 X dL_root_3 rfl ?_
  refine r_callV X dL_root_4 kL_76 (hobx) (c6_root (CX_l X) D z0 h hc hp p p_) [iv 0, .ref aa] rfl rfl (Nat.le_of_ble_eq_true rfl) (by decide) (by decide) (fun E9 h8 hx9 => ?_) (fun v9 h9 hv9 => ?_)
  · obtain ⟨rfl, hk9, rfl⟩ := Xn_1 hx9
    refine WX_catch X T [] ⟨0, 8, 11, 15⟩ [] rfl (fun z9 hz9 => absurd hz9 List.not_mem_nil) (by decide) (by decide) gL_15 (by decide) (fun q9 => ?_)
    show WW K D z0 5 h 1 6 11 [(0, .ref x), (1, jv p), (3, .ref aa)] [.ref q9]
    refine r_astore (L' := [(4, .ref q9), (0, .ref x), (1, jv p), (3, .ref aa)]) X dL_root_11 (by decide) rfl ?_
    refine r_iconst X dL_root_13 ?_
    refine r_iret X Y dL_root_14 (by decide) (by decide) ?_
    exact WPD_w 1 hk9 (by decide) (by decide) hc ha
  · obtain ⟨rfl, hC9, hK9, hcd⟩ := hv9
    have ha9 := KC_d hK9 ha hao
    show WW K D z0 5 h9 1 6 7 [(0, .ref x), (1, jv p), (3, .ref aa)] [.double (dR p.toNat), iv 0, .ref aa]
    refine r_dastore X dL_root_7 ha9 ⟨by omega, by omega⟩ (by decide) ?_
    show WW K D z0 5 (hu h9 aa (aD D 1 (up g0 (0 : Int).toNat ((dR p.toNat))))) 1 6 8 [(0, .ref x), (1, jv p), (3, .ref aa)] []
    refine r_goto 15 X dL_root_8 (by decide) ?_
    refine r_iconst X dL_root_15 ?_
    refine r_iret X Y dL_root_16 (by decide) (by decide) ?_
    exact WPD_k hcd rfl (fun e9 => CS_hu hC9 ha9 rfl (Or.inr rfl) e9) hK9
abbrev rL_shape : Room := { frames := 9, cells := 2, slots := 12, locals := 154 }
theorem c_L_shape {l : Launch} (hl : l.stackTraces = false) (D : va_G) (z0 : Nat) (h : Hp) {x o : Nat} {σ : Tg} {r : List Nat} {m : Nat} {od : Nat → Int} (hc : CS D h x o σ r m od) (hp : PI r m od) (p : Int) (p_ : I32 p) {aa : Nat} {g0 : Nat → UInt64} (ha : h aa = some (aD D 1 g0)) : CH l yL_shape cL_shape 4 (some .int) [(0, 9, 12, 13), (0, 9, 15, 23)] rL_shape D z0 h [.ref x, iv p, .ref aa] (WPD D o aa (ms σ p 2) (fun h9 => CS D h9 x o σ r m od) (fun h9 => CS D h9 x o σ r m od) (FP.f2d (fSh σ p)) h) := by
  refine CH_of RL hl (by decide) rfl (Nat.le_of_ble_eq_true rfl) (fun K X Y T hKl => ?_)
  subst hKl
  have hao := CS_oa hc ha rfl (kd_ne rfl)
  obtain ⟨fs9, hobx⟩ := CS_x' hc
  show WW K D z0 4 h 0 0 0 [(0, .ref x), (1, iv p), (2, .ref aa)] []
  refine r_aload_n 2 X dL_shape_0 rfl ?_
  refine r_iconst X dL_shape_1 ?_
  refine r_aload_n 0 X dL_shape_2 rfl ?_
  refine r_iload_n 1 X dL_shape_3 rfl ?_
  refine r_callV X dL_shape_4 kL_80 (hobx) (c6_shape (CX_l X) D z0 h hc hp p p_) [iv 0, .ref aa] rfl rfl (Nat.le_of_ble_eq_true rfl) (by decide) (by decide) (fun E9 h8 hx9 => ?_) (fun v9 h9 hv9 => ?_)
  · obtain ⟨rfl, hk9⟩ := Xn_2 hx9
    rcases hk9 with ⟨hk9, rfl⟩ | ⟨hk9, rfl⟩
    · refine WX_catch X T [] ⟨0, 9, 12, 13⟩ [⟨0, 9, 15, 23⟩] rfl (fun z9 hz9 => absurd hz9 List.not_mem_nil) (by decide) (by decide) gL_13 (by decide) (fun q9 => ?_)
      show WW K D z0 4 h 2 12 12 [(0, .ref x), (1, iv p), (2, .ref aa)] [.ref q9]
      refine r_astore_n (L' := [(3, .ref q9), (0, .ref x), (1, iv p), (2, .ref aa)]) X dL_shape_12 (by decide) rfl ?_
      refine r_iconst X dL_shape_13 ?_
      refine r_iret X Y dL_shape_14 (by decide) (by decide) ?_
      exact WPD_w 1 hk9 (by decide) (by decide) hc ha
    · refine WX_catch X T [⟨0, 9, 12, 13⟩] ⟨0, 9, 15, 23⟩ [] rfl (List.forall_mem_cons.mpr ⟨⟨by decide, _, gL_13, by decide⟩, fun z9 hz9 => absurd hz9 List.not_mem_nil⟩) (by decide) (by decide) gL_23 (by decide) (fun q9 => ?_)
      show WW K D z0 4 h 2 12 15 [(0, .ref x), (1, iv p), (2, .ref aa)] [.ref q9]
      refine r_astore_n (L' := [(3, .ref q9), (0, .ref x), (1, iv p), (2, .ref aa)]) X dL_shape_15 (by decide) rfl ?_
      refine r_iconst X dL_shape_16 ?_
      refine r_iret X Y dL_shape_17 (by decide) (by decide) ?_
      exact WPD_w 2 hk9 (by decide) (by decide) hc ha
  · obtain ⟨rfl, hC9, hK9, hcd⟩ := hv9
    have ha9 := KC_d hK9 ha hao
    show WW K D z0 4 h9 2 12 7 [(0, .ref x), (1, iv p), (2, .ref aa)] [.float (fSh σ p), iv 0, .ref aa]
    refine r_f2d (FP.f2d (fSh σ p)) X dL_shape_7 rfl (fSh_nn (CS_TVs hc) hcd) ?_
    refine r_dastore X dL_shape_8 ha9 ⟨by omega, by omega⟩ (by decide) ?_
    show WW K D z0 4 (hu h9 aa (aD D 1 (up g0 (0 : Int).toNat (FP.f2d (fSh σ p))))) 2 12 9 [(0, .ref x), (1, iv p), (2, .ref aa)] []
    refine r_goto 18 X dL_shape_9 (by decide) ?_
    refine r_iconst X dL_shape_18 ?_
    refine r_iret X Y dL_shape_19 (by decide) (by decide) ?_
    exact WPD_k hcd rfl (fun e9 => CS_hu hC9 ha9 rfl (Or.inr rfl) e9) hK9
abbrev rL_euclid : Room := { frames := 8, cells := 4, slots := 23, locals := 138 }
theorem c_L_euclid {l : Launch} (hl : l.stackTraces = false) (D : va_G) (z0 : Nat) (h : Hp) {x o : Nat} {σ : Tg} {r : List Nat} {m : Nat} {od : Nat → Int} (hc : CS D h x o σ r m od) (hp : PI r m od) (p : Int) (p_ : I32 p) (m9 : Int) (m9_ : I32 m9) (k9 : Int) (k9_ : I32 k9) {aa : Nat} {g0 : Nat → Int} (ha : h aa = some (aJ D 1 g0)) : CH l yL_euclid cL_euclid 6 (some .int) [(0, 12, 15, 13), (0, 12, 19, 15), (0, 12, 23, 17)] rL_euclid D z0 h [.ref x, iv p, iv m9, iv k9, .ref aa] (WPJ D o aa (cdEu p m9 k9) (fun h9 => CS D h9 x o (up σ p.toNat (st3 (m9 * m9 - k9 * k9) (2 * m9 * k9) (m9 * m9 + k9 * k9))) r m od) (fun h9 => CS D h9 x o σ r m od) (w32 (m9 * m9 + k9 * k9)) h) := by
  refine CH_of RL hl (by decide) rfl (Nat.le_of_ble_eq_true rfl) (fun K X Y T hKl => ?_)
  subst hKl
  have hao := CS_oa hc ha rfl (kd_ne rfl)
  obtain ⟨fs9, hobx⟩ := CS_x' hc
  show WW K D z0 6 h 0 0 0 [(0, .ref x), (1, iv p), (2, iv m9), (3, iv k9), (4, .ref aa)] []
  refine r_aload 4 X dL_euclid_0 rfl ?_
  refine r_iconst X dL_euclid_2 ?_
  refine r_aload_n 0 X dL_euclid_3 rfl ?_
  refine r_iload_n 1 X dL_euclid_4 rfl ?_
  refine r_iload_n 2 X dL_euclid_5 rfl ?_
  refine r_iload_n 3 X dL_euclid_6 rfl ?_
  refine r_callV X dL_euclid_7 kL_84 (hobx) (c6_euclid (CX_l X) D z0 h hc hp p p_ m9 m9_ k9 k9_) [iv 0, .ref aa] rfl rfl (Nat.le_of_ble_eq_true rfl) (by decide) (by decide) (fun E9 h8 hx9 => ?_) (fun v9 h9 hv9 => ?_)
  · obtain ⟨rfl, hk9⟩ := Xn_3 hx9
    rcases hk9 with ⟨hk9, rfl⟩ | ⟨hk9, rfl⟩ | ⟨hk9, rfl⟩
    · refine WX_catch X T [] ⟨0, 12, 15, 13⟩ [⟨0, 12, 19, 15⟩, ⟨0, 12, 23, 17⟩] rfl (fun z9 hz9 => absurd hz9 List.not_mem_nil) (by decide) (by decide) gL_13 (by decide) (fun q9 => ?_)
      show WW K D z0 6 h 4 23 15 [(0, .ref x), (1, iv p), (2, iv m9), (3, iv k9), (4, .ref aa)] [.ref q9]
      refine r_astore (L' := [(5, .ref q9), (0, .ref x), (1, iv p), (2, iv m9), (3, iv k9), (4, .ref aa)]) X dL_euclid_15 (by decide) rfl ?_
      refine r_iconst X dL_euclid_17 ?_
      refine r_iret X Y dL_euclid_18 (by decide) (by decide) ?_
      exact WPJ_w 1 hk9 (by decide) (by decide) hc ha
    · refine WX_catch X T [⟨0, 12, 15, 13⟩] ⟨0, 12, 19, 15⟩ [⟨0, 12, 23, 17⟩] rfl (List.forall_mem_cons.mpr ⟨⟨by decide, _, gL_13, by decide⟩, fun z9 hz9 => absurd hz9 List.not_mem_nil⟩) (by decide) (by decide) gL_15 (by decide) (fun q9 => ?_)
      show WW K D z0 6 h 4 23 19 [(0, .ref x), (1, iv p), (2, iv m9), (3, iv k9), (4, .ref aa)] [.ref q9]
      refine r_astore (L' := [(5, .ref q9), (0, .ref x), (1, iv p), (2, iv m9), (3, iv k9), (4, .ref aa)]) X dL_euclid_19 (by decide) rfl ?_
      refine r_iconst X dL_euclid_21 ?_
      refine r_iret X Y dL_euclid_22 (by decide) (by decide) ?_
      exact WPJ_w 2 hk9 (by decide) (by decide) hc ha
    · refine WX_catch X T [⟨0, 12, 15, 13⟩, ⟨0, 12, 19, 15⟩] ⟨0, 12, 23, 17⟩ [] rfl (List.forall_mem_cons.mpr ⟨⟨by decide, _, gL_13, by decide⟩, List.forall_mem_cons.mpr ⟨⟨by decide, _, gL_15, by decide⟩, fun z9 hz9 => absurd hz9 List.not_mem_nil⟩⟩) (by decide) (by decide) gL_17 (by decide) (fun q9 => ?_)
      show WW K D z0 6 h 4 23 23 [(0, .ref x), (1, iv p), (2, iv m9), (3, iv k9), (4, .ref aa)] [.ref q9]
      refine r_astore (L' := [(5, .ref q9), (0, .ref x), (1, iv p), (2, iv m9), (3, iv k9), (4, .ref aa)]) X dL_euclid_23 (by decide) rfl ?_
      refine r_iconst X dL_euclid_25 ?_
      refine r_iret X Y dL_euclid_26 (by decide) (by decide) ?_
      exact WPJ_w 3 hk9 (by decide) (by decide) hc ha
  · obtain ⟨rfl, hC9, hK9, hcd⟩ := hv9
    have ha9 := KC_a hK9 ha hao
    show WW K D z0 6 h9 4 23 10 [(0, .ref x), (1, iv p), (2, iv m9), (3, iv k9), (4, .ref aa)] [iv (m9 * m9 + k9 * k9), iv 0, .ref aa]
    refine r_i2lS X dL_euclid_10 ?_
    refine r_lastore X dL_euclid_11 ha9 ⟨by omega, by omega⟩ (by decide) ?_
    show WW K D z0 6 (hu h9 aa (aJ D 1 (up g0 (0 : Int).toNat (w32 (m9 * m9 + k9 * k9))))) 4 23 12 [(0, .ref x), (1, iv p), (2, iv m9), (3, iv k9), (4, .ref aa)] []
    refine r_goto 27 X dL_euclid_12 (by decide) ?_
    refine r_iconst X dL_euclid_27 ?_
    refine r_iret X Y dL_euclid_28 (by decide) (by decide) ?_
    exact WPJ_k hcd rfl (fun e9 => CS_hu hC9 ha9 rfl (Or.inl rfl) e9) hK9
abbrev rL_step : Room := { frames := 10, cells := 10, slots := 58, locals := 179 }
theorem c_L_step {l : Launch} (hl : l.stackTraces = false) (D : va_G) (z0 : Nat) (h : Hp) {x o : Nat} {σ : Tg} {r : List Nat} {m : Nat} {od : Nat → Int} (hc : CS D h x o σ r m od) (hp : PI r m od) (p : Int) (p_ : I32 p) (w : Int) (w_ : 0 ≤ w ∧ w ≤ 65535) {aa : Nat} {g0 : Nat → Int} (ha : h aa = some (aJ D 1 g0)) : CH l yL_step cL_step 5 (some .int) [(0, 10, 13, 13), (0, 10, 17, 15), (0, 10, 21, 23), (0, 10, 25, 17)] rL_step D z0 h [.ref x, iv p, iv w, .ref aa] (WPJ D o aa (cdSt σ p w) (fun h9 => CS D h9 x o (up σ p.toNat (onT σ p (fun a b c => st3 (stX w (odd2 a b) (eve2 a b) c) (stY w (odd2 a b) (eve2 a b) c) (stZ w (odd2 a b) (eve2 a b) c)))) r m od) (fun h9 => CS D h9 x o σ r m od) (w32 (on σ p (fun a b c => mx3 (stX w (odd2 a b) (eve2 a b) c) (stY w (odd2 a b) (eve2 a b) c) (stZ w (odd2 a b) (eve2 a b) c)))) h) := by
  refine CH_of RL hl (by decide) rfl (Nat.le_of_ble_eq_true rfl) (fun K X Y T hKl => ?_)
  subst hKl
  have hao := CS_oa hc ha rfl (kd_ne rfl)
  obtain ⟨fs9, hobx⟩ := CS_x' hc
  show WW K D z0 5 h 0 0 0 [(0, .ref x), (1, iv p), (2, iv w), (3, .ref aa)] []
  refine r_aload_n 3 X dL_step_0 rfl ?_
  refine r_iconst X dL_step_1 ?_
  refine r_aload_n 0 X dL_step_2 rfl ?_
  refine r_iload_n 1 X dL_step_3 rfl ?_
  refine r_iload_n 2 X dL_step_4 rfl ?_
  refine r_callV X dL_step_5 kL_87 (hobx) (c6_step (CX_l X) D z0 h hc hp p p_ w w_) [iv 0, .ref aa] rfl rfl (Nat.le_of_ble_eq_true rfl) (by decide) (by decide) (fun E9 h8 hx9 => ?_) (fun v9 h9 hv9 => ?_)
  · obtain ⟨rfl, hk9⟩ := Xn_4 hx9
    rcases hk9 with ⟨hk9, rfl⟩ | ⟨hk9, rfl⟩ | ⟨hk9, rfl⟩ | ⟨hk9, rfl⟩
    · refine WX_catch X T [] ⟨0, 10, 13, 13⟩ [⟨0, 10, 17, 15⟩, ⟨0, 10, 21, 23⟩, ⟨0, 10, 25, 17⟩] rfl (fun z9 hz9 => absurd hz9 List.not_mem_nil) (by decide) (by decide) gL_13 (by decide) (fun q9 => ?_)
      show WW K D z0 5 h 10 58 13 [(0, .ref x), (1, iv p), (2, iv w), (3, .ref aa)] [.ref q9]
      refine r_astore (L' := [(4, .ref q9), (0, .ref x), (1, iv p), (2, iv w), (3, .ref aa)]) X dL_step_13 (by decide) rfl ?_
      refine r_iconst X dL_step_15 ?_
      refine r_iret X Y dL_step_16 (by decide) (by decide) ?_
      exact WPJ_w 1 hk9 (by decide) (by decide) hc ha
    · refine WX_catch X T [⟨0, 10, 13, 13⟩] ⟨0, 10, 17, 15⟩ [⟨0, 10, 21, 23⟩, ⟨0, 10, 25, 17⟩] rfl (List.forall_mem_cons.mpr ⟨⟨by decide, _, gL_13, by decide⟩, fun z9 hz9 => absurd hz9 List.not_mem_nil⟩) (by decide) (by decide) gL_15 (by decide) (fun q9 => ?_)
      show WW K D z0 5 h 10 58 17 [(0, .ref x), (1, iv p), (2, iv w), (3, .ref aa)] [.ref q9]
      refine r_astore (L' := [(4, .ref q9), (0, .ref x), (1, iv p), (2, iv w), (3, .ref aa)]) X dL_step_17 (by decide) rfl ?_
      refine r_iconst X dL_step_19 ?_
      refine r_iret X Y dL_step_20 (by decide) (by decide) ?_
      exact WPJ_w 2 hk9 (by decide) (by decide) hc ha
    · refine WX_catch X T [⟨0, 10, 13, 13⟩, ⟨0, 10, 17, 15⟩] ⟨0, 10, 21, 23⟩ [⟨0, 10, 25, 17⟩] rfl (List.forall_mem_cons.mpr ⟨⟨by decide, _, gL_13, by decide⟩, List.forall_mem_cons.mpr ⟨⟨by decide, _, gL_15, by decide⟩, fun z9 hz9 => absurd hz9 List.not_mem_nil⟩⟩) (by decide) (by decide) gL_23 (by decide) (fun q9 => ?_)
      show WW K D z0 5 h 10 58 21 [(0, .ref x), (1, iv p), (2, iv w), (3, .ref aa)] [.ref q9]
      refine r_astore (L' := [(4, .ref q9), (0, .ref x), (1, iv p), (2, iv w), (3, .ref aa)]) X dL_step_21 (by decide) rfl ?_
      refine r_iconst X dL_step_23 ?_
      refine r_iret X Y dL_step_24 (by decide) (by decide) ?_
      exact WPJ_w 3 hk9 (by decide) (by decide) hc ha
    · refine WX_catch X T [⟨0, 10, 13, 13⟩, ⟨0, 10, 17, 15⟩, ⟨0, 10, 21, 23⟩] ⟨0, 10, 25, 17⟩ [] rfl (List.forall_mem_cons.mpr ⟨⟨by decide, _, gL_13, by decide⟩, List.forall_mem_cons.mpr ⟨⟨by decide, _, gL_15, by decide⟩, List.forall_mem_cons.mpr ⟨⟨by decide, _, gL_23, by decide⟩, fun z9 hz9 => absurd hz9 List.not_mem_nil⟩⟩⟩) (by decide) (by decide) gL_17 (by decide) (fun q9 => ?_)
      show WW K D z0 5 h 10 58 25 [(0, .ref x), (1, iv p), (2, iv w), (3, .ref aa)] [.ref q9]
      refine r_astore (L' := [(4, .ref q9), (0, .ref x), (1, iv p), (2, iv w), (3, .ref aa)]) X dL_step_25 (by decide) rfl ?_
      refine r_iconst X dL_step_27 ?_
      refine r_iret X Y dL_step_28 (by decide) (by decide) ?_
      exact WPJ_w 4 hk9 (by decide) (by decide) hc ha
  · obtain ⟨rfl, hC9, hK9, hcd⟩ := hv9
    have ha9 := KC_a hK9 ha hao
    show WW K D z0 5 h9 10 58 8 [(0, .ref x), (1, iv p), (2, iv w), (3, .ref aa)] [iv (on σ p (fun a b c => mx3 (stX w (odd2 a b) (eve2 a b) c) (stY w (odd2 a b) (eve2 a b) c) (stZ w (odd2 a b) (eve2 a b) c))), iv 0, .ref aa]
    refine r_i2lS X dL_step_8 ?_
    refine r_lastore X dL_step_9 ha9 ⟨by omega, by omega⟩ (by decide) ?_
    show WW K D z0 5 (hu h9 aa (aJ D 1 (up g0 (0 : Int).toNat (w32 (on σ p (fun a b c => mx3 (stX w (odd2 a b) (eve2 a b) c) (stY w (odd2 a b) (eve2 a b) c) (stZ w (odd2 a b) (eve2 a b) c))))))) 10 58 10 [(0, .ref x), (1, iv p), (2, iv w), (3, .ref aa)] []
    refine r_goto 29 X dL_step_10 (by decide) ?_
    refine r_iconst X dL_step_29 ?_
    refine r_iret X Y dL_step_30 (by decide) (by decide) ?_
    exact WPJ_k hcd rfl (fun e9 => CS_hu hC9 ha9 rfl (Or.inl rfl) e9) hK9
abbrev rL_depth : Room := { frames := 10, cells := 3, slots := 18, locals := 176 }
theorem c_L_depth {l : Launch} (hl : l.stackTraces = false) (D : va_G) (z0 : Nat) (h : Hp) {x o : Nat} {σ : Tg} {r : List Nat} {m : Nat} {od : Nat → Int} (hc : CS D h x o σ r m od) (hp : PI r m od) (p : Int) (p_ : I32 p) {aa : Nat} {g0 : Nat → Int} (ha : h aa = some (aJ D 1 g0)) : CH l yL_depth cL_depth 4 (some .int) [(0, 9, 12, 13), (0, 9, 15, 23), (0, 9, 18, 17)] rL_depth D z0 h [.ref x, iv p, .ref aa] (WPJ D o aa (cdPr σ p) (fun h9 => CS D h9 x o σ r m od) (fun h9 => CS D h9 x o σ r m od) (w32 (vDe σ p)) h) := by
  refine CH_of RL hl (by decide) rfl (Nat.le_of_ble_eq_true rfl) (fun K X Y T hKl => ?_)
  subst hKl
  have hao := CS_oa hc ha rfl (kd_ne rfl)
  obtain ⟨fs9, hobx⟩ := CS_x' hc
  show WW K D z0 4 h 0 0 0 [(0, .ref x), (1, iv p), (2, .ref aa)] []
  refine r_aload_n 2 X dL_depth_0 rfl ?_
  refine r_iconst X dL_depth_1 ?_
  refine r_aload_n 0 X dL_depth_2 rfl ?_
  refine r_iload_n 1 X dL_depth_3 rfl ?_
  refine r_callV X dL_depth_4 kL_91 (hobx) (c6_depth (CX_l X) D z0 h hc hp p p_) [iv 0, .ref aa] rfl rfl (Nat.le_of_ble_eq_true rfl) (by decide) (by decide) (fun E9 h8 hx9 => ?_) (fun v9 h9 hv9 => ?_)
  · obtain ⟨rfl, hk9⟩ := Xn_3 hx9
    rcases hk9 with ⟨hk9, rfl⟩ | ⟨hk9, rfl⟩ | ⟨hk9, rfl⟩
    · refine WX_catch X T [] ⟨0, 9, 12, 13⟩ [⟨0, 9, 15, 23⟩, ⟨0, 9, 18, 17⟩] rfl (fun z9 hz9 => absurd hz9 List.not_mem_nil) (by decide) (by decide) gL_13 (by decide) (fun q9 => ?_)
      show WW K D z0 4 h 3 18 12 [(0, .ref x), (1, iv p), (2, .ref aa)] [.ref q9]
      refine r_astore_n (L' := [(3, .ref q9), (0, .ref x), (1, iv p), (2, .ref aa)]) X dL_depth_12 (by decide) rfl ?_
      refine r_iconst X dL_depth_13 ?_
      refine r_iret X Y dL_depth_14 (by decide) (by decide) ?_
      exact WPJ_w 1 hk9 (by decide) (by decide) hc ha
    · refine WX_catch X T [⟨0, 9, 12, 13⟩] ⟨0, 9, 15, 23⟩ [⟨0, 9, 18, 17⟩] rfl (List.forall_mem_cons.mpr ⟨⟨by decide, _, gL_13, by decide⟩, fun z9 hz9 => absurd hz9 List.not_mem_nil⟩) (by decide) (by decide) gL_23 (by decide) (fun q9 => ?_)
      show WW K D z0 4 h 3 18 15 [(0, .ref x), (1, iv p), (2, .ref aa)] [.ref q9]
      refine r_astore_n (L' := [(3, .ref q9), (0, .ref x), (1, iv p), (2, .ref aa)]) X dL_depth_15 (by decide) rfl ?_
      refine r_iconst X dL_depth_16 ?_
      refine r_iret X Y dL_depth_17 (by decide) (by decide) ?_
      exact WPJ_w 2 hk9 (by decide) (by decide) hc ha
    · refine WX_catch X T [⟨0, 9, 12, 13⟩, ⟨0, 9, 15, 23⟩] ⟨0, 9, 18, 17⟩ [] rfl (List.forall_mem_cons.mpr ⟨⟨by decide, _, gL_13, by decide⟩, List.forall_mem_cons.mpr ⟨⟨by decide, _, gL_23, by decide⟩, fun z9 hz9 => absurd hz9 List.not_mem_nil⟩⟩) (by decide) (by decide) gL_17 (by decide) (fun q9 => ?_)
      show WW K D z0 4 h 3 18 18 [(0, .ref x), (1, iv p), (2, .ref aa)] [.ref q9]
      refine r_astore_n (L' := [(3, .ref q9), (0, .ref x), (1, iv p), (2, .ref aa)]) X dL_depth_18 (by decide) rfl ?_
      refine r_iconst X dL_depth_19 ?_
      refine r_iret X Y dL_depth_20 (by decide) (by decide) ?_
      exact WPJ_w 3 hk9 (by decide) (by decide) hc ha
  · obtain ⟨rfl, hC9, hK9, hcd⟩ := hv9
    have ha9 := KC_a hK9 ha hao
    show WW K D z0 4 h9 3 18 7 [(0, .ref x), (1, iv p), (2, .ref aa)] [iv (vDe σ p), iv 0, .ref aa]
    refine r_i2lS X dL_depth_7 ?_
    refine r_lastore X dL_depth_8 ha9 ⟨by omega, by omega⟩ (by decide) ?_
    show WW K D z0 4 (hu h9 aa (aJ D 1 (up g0 (0 : Int).toNat (w32 (vDe σ p))))) 3 18 9 [(0, .ref x), (1, iv p), (2, .ref aa)] []
    refine r_goto 21 X dL_depth_9 (by decide) ?_
    refine r_iconst X dL_depth_21 ?_
    refine r_iret X Y dL_depth_22 (by decide) (by decide) ?_
    exact WPJ_k hcd rfl (fun e9 => CS_hu hC9 ha9 rfl (Or.inl rfl) e9) hK9
abbrev rL_generator : Room := { frames := 10, cells := 5, slots := 30, locals := 178 }
theorem c_L_generator {l : Launch} (hl : l.stackTraces = false) (D : va_G) (z0 : Nat) (h : Hp) {x o : Nat} {σ : Tg} {r : List Nat} {m : Nat} {od : Nat → Int} (hc : CS D h x o σ r m od) (hp : PI r m od) (p : Int) (p_ : I32 p) (w : Int) (w_ : 0 ≤ w ∧ w ≤ 65535) {aa : Nat} {g0 : Nat → Int} (ha : h aa = some (aJ D 1 g0)) : CH l yL_generator cL_generator 5 (some .int) [(0, 10, 13, 13), (0, 10, 17, 15), (0, 10, 21, 23), (0, 10, 25, 17)] rL_generator D z0 h [.ref x, iv p, iv w, .ref aa] (WPJ D o aa (cdGe σ p w) (fun h9 => CS D h9 x o σ r m od) (fun h9 => CS D h9 x o σ r m od) (w32 (vGe σ p w)) h) := by
  refine CH_of RL hl (by decide) rfl (Nat.le_of_ble_eq_true rfl) (fun K X Y T hKl => ?_)
  subst hKl
  have hao := CS_oa hc ha rfl (kd_ne rfl)
  obtain ⟨fs9, hobx⟩ := CS_x' hc
  show WW K D z0 5 h 0 0 0 [(0, .ref x), (1, iv p), (2, iv w), (3, .ref aa)] []
  refine r_aload_n 3 X dL_generator_0 rfl ?_
  refine r_iconst X dL_generator_1 ?_
  refine r_aload_n 0 X dL_generator_2 rfl ?_
  refine r_iload_n 1 X dL_generator_3 rfl ?_
  refine r_iload_n 2 X dL_generator_4 rfl ?_
  refine r_callV X dL_generator_5 kL_94 (hobx) (c6_generator (CX_l X) D z0 h hc hp p p_ w w_) [iv 0, .ref aa] rfl rfl (Nat.le_of_ble_eq_true rfl) (by decide) (by decide) (fun E9 h8 hx9 => ?_) (fun v9 h9 hv9 => ?_)
  · obtain ⟨rfl, hk9⟩ := Xn_4 hx9
    rcases hk9 with ⟨hk9, rfl⟩ | ⟨hk9, rfl⟩ | ⟨hk9, rfl⟩ | ⟨hk9, rfl⟩
    · refine WX_catch X T [] ⟨0, 10, 13, 13⟩ [⟨0, 10, 17, 15⟩, ⟨0, 10, 21, 23⟩, ⟨0, 10, 25, 17⟩] rfl (fun z9 hz9 => absurd hz9 List.not_mem_nil) (by decide) (by decide) gL_13 (by decide) (fun q9 => ?_)
      show WW K D z0 5 h 5 30 13 [(0, .ref x), (1, iv p), (2, iv w), (3, .ref aa)] [.ref q9]
      refine r_astore (L' := [(4, .ref q9), (0, .ref x), (1, iv p), (2, iv w), (3, .ref aa)]) X dL_generator_13 (by decide) rfl ?_
      refine r_iconst X dL_generator_15 ?_
      refine r_iret X Y dL_generator_16 (by decide) (by decide) ?_
      exact WPJ_w 1 hk9 (by decide) (by decide) hc ha
    · refine WX_catch X T [⟨0, 10, 13, 13⟩] ⟨0, 10, 17, 15⟩ [⟨0, 10, 21, 23⟩, ⟨0, 10, 25, 17⟩] rfl (List.forall_mem_cons.mpr ⟨⟨by decide, _, gL_13, by decide⟩, fun z9 hz9 => absurd hz9 List.not_mem_nil⟩) (by decide) (by decide) gL_15 (by decide) (fun q9 => ?_)
      show WW K D z0 5 h 5 30 17 [(0, .ref x), (1, iv p), (2, iv w), (3, .ref aa)] [.ref q9]
      refine r_astore (L' := [(4, .ref q9), (0, .ref x), (1, iv p), (2, iv w), (3, .ref aa)]) X dL_generator_17 (by decide) rfl ?_
      refine r_iconst X dL_generator_19 ?_
      refine r_iret X Y dL_generator_20 (by decide) (by decide) ?_
      exact WPJ_w 2 hk9 (by decide) (by decide) hc ha
    · refine WX_catch X T [⟨0, 10, 13, 13⟩, ⟨0, 10, 17, 15⟩] ⟨0, 10, 21, 23⟩ [⟨0, 10, 25, 17⟩] rfl (List.forall_mem_cons.mpr ⟨⟨by decide, _, gL_13, by decide⟩, List.forall_mem_cons.mpr ⟨⟨by decide, _, gL_15, by decide⟩, fun z9 hz9 => absurd hz9 List.not_mem_nil⟩⟩) (by decide) (by decide) gL_23 (by decide) (fun q9 => ?_)
      show WW K D z0 5 h 5 30 21 [(0, .ref x), (1, iv p), (2, iv w), (3, .ref aa)] [.ref q9]
      refine r_astore (L' := [(4, .ref q9), (0, .ref x), (1, iv p), (2, iv w), (3, .ref aa)]) X dL_generator_21 (by decide) rfl ?_
      refine r_iconst X dL_generator_23 ?_
      refine r_iret X Y dL_generator_24 (by decide) (by decide) ?_
      exact WPJ_w 3 hk9 (by decide) (by decide) hc ha
    · refine WX_catch X T [⟨0, 10, 13, 13⟩, ⟨0, 10, 17, 15⟩, ⟨0, 10, 21, 23⟩] ⟨0, 10, 25, 17⟩ [] rfl (List.forall_mem_cons.mpr ⟨⟨by decide, _, gL_13, by decide⟩, List.forall_mem_cons.mpr ⟨⟨by decide, _, gL_15, by decide⟩, List.forall_mem_cons.mpr ⟨⟨by decide, _, gL_23, by decide⟩, fun z9 hz9 => absurd hz9 List.not_mem_nil⟩⟩⟩) (by decide) (by decide) gL_17 (by decide) (fun q9 => ?_)
      show WW K D z0 5 h 5 30 25 [(0, .ref x), (1, iv p), (2, iv w), (3, .ref aa)] [.ref q9]
      refine r_astore (L' := [(4, .ref q9), (0, .ref x), (1, iv p), (2, iv w), (3, .ref aa)]) X dL_generator_25 (by decide) rfl ?_
      refine r_iconst X dL_generator_27 ?_
      refine r_iret X Y dL_generator_28 (by decide) (by decide) ?_
      exact WPJ_w 4 hk9 (by decide) (by decide) hc ha
  · obtain ⟨rfl, hC9, hK9, hcd⟩ := hv9
    have ha9 := KC_a hK9 ha hao
    show WW K D z0 5 h9 5 30 8 [(0, .ref x), (1, iv p), (2, iv w), (3, .ref aa)] [iv (vGe σ p w), iv 0, .ref aa]
    refine r_i2lS X dL_generator_8 ?_
    refine r_lastore X dL_generator_9 ha9 ⟨by omega, by omega⟩ (by decide) ?_
    show WW K D z0 5 (hu h9 aa (aJ D 1 (up g0 (0 : Int).toNat (w32 (vGe σ p w))))) 5 30 10 [(0, .ref x), (1, iv p), (2, iv w), (3, .ref aa)] []
    refine r_goto 29 X dL_generator_10 (by decide) ?_
    refine r_iconst X dL_generator_29 ?_
    refine r_iret X Y dL_generator_30 (by decide) (by decide) ?_
    exact WPJ_k hcd rfl (fun e9 => CS_hu hC9 ha9 rfl (Or.inl rfl) e9) hK9
abbrev rL_list : Room := { frames := 8, cells := 2, slots := 12, locals := 169 }
theorem c_L_list {l : Launch} (hl : l.stackTraces = false) (D : va_G) (z0 : Nat) (h : Hp) {x o : Nat} {σ : Tg} {r : List Nat} {m : Nat} {od : Nat → Int} (hc : CS D h x o σ r m od) (hp : PI r m od) (w : Int) (w_ : 0 ≤ w ∧ w ≤ 65535) (b9 : Int) (b9_ : I32 b9) {aa : Nat} {g0 : Nat → Int} (ha : h aa = some (aJ D 1 g0)) : CH l yL_list cL_list 5 (some .int) [(0, 10, 13, 15)] rL_list D z0 h [.ref x, iv w, iv b9, .ref aa] (WPJ D o aa (cdLi w b9) (fun h9 => CS D h9 x o σ (eR b9.toNat) m od) (fun h9 => CS D h9 x o σ r m od) (w32 (((eR b9.toNat).length : Int))) h) := by
  refine CH_of RL hl (by decide) rfl (Nat.le_of_ble_eq_true rfl) (fun K X Y T hKl => ?_)
  subst hKl
  have hao := CS_oa hc ha rfl (kd_ne rfl)
  obtain ⟨fs9, hobx⟩ := CS_x' hc
  show WW K D z0 5 h 0 0 0 [(0, .ref x), (1, iv w), (2, iv b9), (3, .ref aa)] []
  refine r_aload_n 3 X dL_list_0 rfl ?_
  refine r_iconst X dL_list_1 ?_
  refine r_aload_n 0 X dL_list_2 rfl ?_
  refine r_iload_n 1 X dL_list_3 rfl ?_
  refine r_iload_n 2 X dL_list_4 rfl ?_
  refine r_callV X dL_list_5 kL_97 (hobx) (c6_list (CX_l X) D z0 h hc hp w w_ b9 b9_) [iv 0, .ref aa] rfl rfl (Nat.le_of_ble_eq_true rfl) (by decide) (by decide) (fun E9 h8 hx9 => ?_) (fun v9 h9 hv9 => ?_)
  · obtain ⟨rfl, hk9, rfl⟩ := Xn_1 hx9
    refine WX_catch X T [] ⟨0, 10, 13, 15⟩ [] rfl (fun z9 hz9 => absurd hz9 List.not_mem_nil) (by decide) (by decide) gL_15 (by decide) (fun q9 => ?_)
    show WW K D z0 5 h 2 12 13 [(0, .ref x), (1, iv w), (2, iv b9), (3, .ref aa)] [.ref q9]
    refine r_astore (L' := [(4, .ref q9), (0, .ref x), (1, iv w), (2, iv b9), (3, .ref aa)]) X dL_list_13 (by decide) rfl ?_
    refine r_iconst X dL_list_15 ?_
    refine r_iret X Y dL_list_16 (by decide) (by decide) ?_
    exact WPJ_w 1 hk9 (by decide) (by decide) hc ha
  · obtain ⟨rfl, hC9, hK9, hcd⟩ := hv9
    have ha9 := KC_a hK9 ha hao
    show WW K D z0 5 h9 2 12 8 [(0, .ref x), (1, iv w), (2, iv b9), (3, .ref aa)] [iv ((eR b9.toNat).length : Int), iv 0, .ref aa]
    refine r_i2lS X dL_list_8 ?_
    refine r_lastore X dL_list_9 ha9 ⟨by omega, by omega⟩ (by decide) ?_
    show WW K D z0 5 (hu h9 aa (aJ D 1 (up g0 (0 : Int).toNat (w32 (((eR b9.toNat).length : Int)))))) 2 12 10 [(0, .ref x), (1, iv w), (2, iv b9), (3, .ref aa)] []
    refine r_goto 17 X dL_list_10 (by decide) ?_
    refine r_iconst X dL_list_17 ?_
    refine r_iret X Y dL_list_18 (by decide) (by decide) ?_
    exact WPJ_k hcd rfl (fun e9 => CS_hu hC9 ha9 rfl (Or.inl rfl) e9) hK9
abbrev rL_listed : Room := { frames := 8, cells := 2, slots := 12, locals := 132 }
theorem c_L_listed {l : Launch} (hl : l.stackTraces = false) (D : va_G) (z0 : Nat) (h : Hp) {x o : Nat} {σ : Tg} {r : List Nat} {m : Nat} {od : Nat → Int} (hc : CS D h x o σ r m od) (hp : PI r m od) (i : Int) (i_ : I32 i) (w : Int) (w_ : I32 w) {aa : Nat} {g0 : Nat → Int} (ha : h aa = some (aJ D 1 g0)) : CH l yL_listed cL_listed 5 (some .int) [(0, 10, 13, 13)] rL_listed D z0 h [.ref x, iv i, iv w, .ref aa] (WPJ D o aa (cdLd r.length i w) (fun h9 => CS D h9 x o σ r m od) (fun h9 => CS D h9 x o σ r m od) (w32 (lnK ((nthR r i.toNat : Nat) : Int) w)) h) := by
  refine CH_of RL hl (by decide) rfl (Nat.le_of_ble_eq_true rfl) (fun K X Y T hKl => ?_)
  subst hKl
  have hao := CS_oa hc ha rfl (kd_ne rfl)
  obtain ⟨fs9, hobx⟩ := CS_x' hc
  show WW K D z0 5 h 0 0 0 [(0, .ref x), (1, iv i), (2, iv w), (3, .ref aa)] []
  refine r_aload_n 3 X dL_listed_0 rfl ?_
  refine r_iconst X dL_listed_1 ?_
  refine r_aload_n 0 X dL_listed_2 rfl ?_
  refine r_iload_n 1 X dL_listed_3 rfl ?_
  refine r_iload_n 2 X dL_listed_4 rfl ?_
  refine r_callV X dL_listed_5 kL_101 (hobx) (c6_listed (CX_l X) D z0 h hc hp i i_ w w_) [iv 0, .ref aa] rfl rfl (Nat.le_of_ble_eq_true rfl) (by decide) (by decide) (fun E9 h8 hx9 => ?_) (fun v9 h9 hv9 => ?_)
  · obtain ⟨rfl, hk9, rfl⟩ := Xn_1 hx9
    refine WX_catch X T [] ⟨0, 10, 13, 13⟩ [] rfl (fun z9 hz9 => absurd hz9 List.not_mem_nil) (by decide) (by decide) gL_13 (by decide) (fun q9 => ?_)
    show WW K D z0 5 h 2 12 13 [(0, .ref x), (1, iv i), (2, iv w), (3, .ref aa)] [.ref q9]
    refine r_astore (L' := [(4, .ref q9), (0, .ref x), (1, iv i), (2, iv w), (3, .ref aa)]) X dL_listed_13 (by decide) rfl ?_
    refine r_iconst X dL_listed_15 ?_
    refine r_iret X Y dL_listed_16 (by decide) (by decide) ?_
    exact WPJ_w 1 hk9 (by decide) (by decide) hc ha
  · obtain ⟨rfl, hC9, hK9, hcd⟩ := hv9
    have ha9 := KC_a hK9 ha hao
    show WW K D z0 5 h9 2 12 8 [(0, .ref x), (1, iv i), (2, iv w), (3, .ref aa)] [iv (lnK ((nthR r i.toNat : Nat) : Int) w), iv 0, .ref aa]
    refine r_i2lS X dL_listed_8 ?_
    refine r_lastore X dL_listed_9 ha9 ⟨by omega, by omega⟩ (by decide) ?_
    show WW K D z0 5 (hu h9 aa (aJ D 1 (up g0 (0 : Int).toNat (w32 (lnK ((nthR r i.toNat : Nat) : Int) w))))) 2 12 10 [(0, .ref x), (1, iv i), (2, iv w), (3, .ref aa)] []
    refine r_goto 17 X dL_listed_10 (by decide) ?_
    refine r_iconst X dL_listed_17 ?_
    refine r_iret X Y dL_listed_18 (by decide) (by decide) ?_
    exact WPJ_k hcd rfl (fun e9 => CS_hu hC9 ha9 rfl (Or.inl rfl) e9) hK9
abbrev rL_counts : Room := { frames := 8, cells := 2, slots := 12, locals := 132 }
theorem c_L_counts {l : Launch} (hl : l.stackTraces = false) (D : va_G) (z0 : Nat) (h : Hp) {x o : Nat} {σ : Tg} {r : List Nat} {m : Nat} {od : Nat → Int} (hc : CS D h x o σ r m od) (hp : PI r m od) (w : Int) (w_ : 0 ≤ w ∧ w ≤ 65535) (p : Int) (p_ : I32 p) {aa : Nat} {g0 : Nat → Int} (ha : h aa = some (aJ D 1 g0)) : CH l yL_counts cL_counts 5 (some .int) [(0, 10, 13, 15)] rL_counts D z0 h [.ref x, iv w, iv p, .ref aa] (WPJ D o aa (cdCn w p) (fun h9 => CS D h9 x o σ r m od) (fun h9 => CS D h9 x o σ r m od) (w32 (vCn w p)) h) := by
  refine CH_of RL hl (by decide) rfl (Nat.le_of_ble_eq_true rfl) (fun K X Y T hKl => ?_)
  subst hKl
  have hao := CS_oa hc ha rfl (kd_ne rfl)
  obtain ⟨fs9, hobx⟩ := CS_x' hc
  show WW K D z0 5 h 0 0 0 [(0, .ref x), (1, iv w), (2, iv p), (3, .ref aa)] []
  refine r_aload_n 3 X dL_counts_0 rfl ?_
  refine r_iconst X dL_counts_1 ?_
  refine r_aload_n 0 X dL_counts_2 rfl ?_
  refine r_iload_n 1 X dL_counts_3 rfl ?_
  refine r_iload_n 2 X dL_counts_4 rfl ?_
  refine r_callV X dL_counts_5 kL_104 (hobx) (c6_counts (CX_l X) D z0 h hc hp w w_ p p_) [iv 0, .ref aa] rfl rfl (Nat.le_of_ble_eq_true rfl) (by decide) (by decide) (fun E9 h8 hx9 => ?_) (fun v9 h9 hv9 => ?_)
  · obtain ⟨rfl, hk9, rfl⟩ := Xn_1 hx9
    refine WX_catch X T [] ⟨0, 10, 13, 15⟩ [] rfl (fun z9 hz9 => absurd hz9 List.not_mem_nil) (by decide) (by decide) gL_15 (by decide) (fun q9 => ?_)
    show WW K D z0 5 h 2 12 13 [(0, .ref x), (1, iv w), (2, iv p), (3, .ref aa)] [.ref q9]
    refine r_astore (L' := [(4, .ref q9), (0, .ref x), (1, iv w), (2, iv p), (3, .ref aa)]) X dL_counts_13 (by decide) rfl ?_
    refine r_iconst X dL_counts_15 ?_
    refine r_iret X Y dL_counts_16 (by decide) (by decide) ?_
    exact WPJ_w 1 hk9 (by decide) (by decide) hc ha
  · obtain ⟨rfl, hC9, hK9, hcd⟩ := hv9
    have ha9 := KC_a hK9 ha hao
    show WW K D z0 5 h9 2 12 8 [(0, .ref x), (1, iv w), (2, iv p), (3, .ref aa)] [iv (vCn w p), iv 0, .ref aa]
    refine r_i2lS X dL_counts_8 ?_
    refine r_lastore X dL_counts_9 ha9 ⟨by omega, by omega⟩ (by decide) ?_
    show WW K D z0 5 (hu h9 aa (aJ D 1 (up g0 (0 : Int).toNat (w32 (vCn w p))))) 2 12 10 [(0, .ref x), (1, iv w), (2, iv p), (3, .ref aa)] []
    refine r_goto 17 X dL_counts_10 (by decide) ?_
    refine r_iconst X dL_counts_17 ?_
    refine r_iret X Y dL_counts_18 (by decide) (by decide) ?_
    exact WPJ_k hcd rfl (fun e9 => CS_hu hC9 ha9 rfl (Or.inl rfl) e9) hK9
abbrev rL_sort : Room := { frames := 7, cells := 1, slots := 6, locals := 114 }
theorem c_L_sort {l : Launch} (hl : l.stackTraces = false) (D : va_G) (z0 : Nat) (h : Hp) {x o : Nat} {σ : Tg} {r : List Nat} {m : Nat} {od : Nat → Int} (hc : CS D h x o σ r m od) (hp : PI r m od) (w : Int) (w_ : 0 ≤ w ∧ w ≤ 65535) {aa : Nat} {g0 : Nat → Int} (ha : h aa = some (aJ D 1 g0)) : CH l yL_sort cL_sort 4 (some .int) [(0, 9, 12, 15)] rL_sort D z0 h [.ref x, iv w, .ref aa] (WPJ D o aa (cdBy w) (fun h9 => CS D h9 x o σ r ((srt σ w od 16).1) ((srt σ w od 16).2)) (fun h9 => CS D h9 x o σ r m od) (w32 (((srt σ w od 16).1 : Int))) h) := by
  refine CH_of RL hl (by decide) rfl (Nat.le_of_ble_eq_true rfl) (fun K X Y T hKl => ?_)
  subst hKl
  have hao := CS_oa hc ha rfl (kd_ne rfl)
  obtain ⟨fs9, hobx⟩ := CS_x' hc
  show WW K D z0 4 h 0 0 0 [(0, .ref x), (1, iv w), (2, .ref aa)] []
  refine r_aload_n 2 X dL_sort_0 rfl ?_
  refine r_iconst X dL_sort_1 ?_
  refine r_aload_n 0 X dL_sort_2 rfl ?_
  refine r_iload_n 1 X dL_sort_3 rfl ?_
  refine r_callV X dL_sort_4 kL_107 (hobx) (c6_sort (CX_l X) D z0 h hc hp w w_) [iv 0, .ref aa] rfl rfl (Nat.le_of_ble_eq_true rfl) (by decide) (by decide) (fun E9 h8 hx9 => ?_) (fun v9 h9 hv9 => ?_)
  · obtain ⟨rfl, hk9, rfl⟩ := Xn_1 hx9
    refine WX_catch X T [] ⟨0, 9, 12, 15⟩ [] rfl (fun z9 hz9 => absurd hz9 List.not_mem_nil) (by decide) (by decide) gL_15 (by decide) (fun q9 => ?_)
    show WW K D z0 4 h 1 6 12 [(0, .ref x), (1, iv w), (2, .ref aa)] [.ref q9]
    refine r_astore_n (L' := [(3, .ref q9), (0, .ref x), (1, iv w), (2, .ref aa)]) X dL_sort_12 (by decide) rfl ?_
    refine r_iconst X dL_sort_13 ?_
    refine r_iret X Y dL_sort_14 (by decide) (by decide) ?_
    exact WPJ_w 1 hk9 (by decide) (by decide) hc ha
  · obtain ⟨rfl, hC9, hK9, hcd⟩ := hv9
    have ha9 := KC_a hK9 ha hao
    show WW K D z0 4 h9 1 6 7 [(0, .ref x), (1, iv w), (2, .ref aa)] [iv ((srt σ w od 16).1 : Int), iv 0, .ref aa]
    refine r_i2lS X dL_sort_7 ?_
    refine r_lastore X dL_sort_8 ha9 ⟨by omega, by omega⟩ (by decide) ?_
    show WW K D z0 4 (hu h9 aa (aJ D 1 (up g0 (0 : Int).toNat (w32 (((srt σ w od 16).1 : Int)))))) 1 6 9 [(0, .ref x), (1, iv w), (2, .ref aa)] []
    refine r_goto 15 X dL_sort_9 (by decide) ?_
    refine r_iconst X dL_sort_15 ?_
    refine r_iret X Y dL_sort_16 (by decide) (by decide) ?_
    exact WPJ_k hcd rfl (fun e9 => CS_hu hC9 ha9 rfl (Or.inl rfl) e9) hK9
abbrev rL_sorted : Room := { frames := 7, cells := 1, slots := 6, locals := 111 }
theorem c_L_sorted {l : Launch} (hl : l.stackTraces = false) (D : va_G) (z0 : Nat) (h : Hp) {x o : Nat} {σ : Tg} {r : List Nat} {m : Nat} {od : Nat → Int} (hc : CS D h x o σ r m od) (hp : PI r m od) (w : Int) (w_ : I32 w) {aa : Nat} {g0 : Nat → Int} (ha : h aa = some (aJ D 1 g0)) : CH l yL_sorted cL_sorted 4 (some .int) [(0, 9, 12, 13)] rL_sorted D z0 h [.ref x, iv w, .ref aa] (WPJ D o aa (cdSo (m : Int) w) (fun h9 => CS D h9 x o σ r m od) (fun h9 => CS D h9 x o σ r m od) (w32 (od w.toNat)) h) := by
  refine CH_of RL hl (by decide) rfl (Nat.le_of_ble_eq_true rfl) (fun K X Y T hKl => ?_)
  subst hKl
  have hao := CS_oa hc ha rfl (kd_ne rfl)
  obtain ⟨fs9, hobx⟩ := CS_x' hc
  show WW K D z0 4 h 0 0 0 [(0, .ref x), (1, iv w), (2, .ref aa)] []
  refine r_aload_n 2 X dL_sorted_0 rfl ?_
  refine r_iconst X dL_sorted_1 ?_
  refine r_aload_n 0 X dL_sorted_2 rfl ?_
  refine r_iload_n 1 X dL_sorted_3 rfl ?_
  refine r_callV X dL_sorted_4 kL_111 (hobx) (c6_sorted (CX_l X) D z0 h hc hp w w_) [iv 0, .ref aa] rfl rfl (Nat.le_of_ble_eq_true rfl) (by decide) (by decide) (fun E9 h8 hx9 => ?_) (fun v9 h9 hv9 => ?_)
  · obtain ⟨rfl, hk9, rfl⟩ := Xn_1 hx9
    refine WX_catch X T [] ⟨0, 9, 12, 13⟩ [] rfl (fun z9 hz9 => absurd hz9 List.not_mem_nil) (by decide) (by decide) gL_13 (by decide) (fun q9 => ?_)
    show WW K D z0 4 h 1 6 12 [(0, .ref x), (1, iv w), (2, .ref aa)] [.ref q9]
    refine r_astore_n (L' := [(3, .ref q9), (0, .ref x), (1, iv w), (2, .ref aa)]) X dL_sorted_12 (by decide) rfl ?_
    refine r_iconst X dL_sorted_13 ?_
    refine r_iret X Y dL_sorted_14 (by decide) (by decide) ?_
    exact WPJ_w 1 hk9 (by decide) (by decide) hc ha
  · obtain ⟨rfl, hC9, hK9, hcd⟩ := hv9
    have ha9 := KC_a hK9 ha hao
    show WW K D z0 4 h9 1 6 7 [(0, .ref x), (1, iv w), (2, .ref aa)] [iv (od w.toNat), iv 0, .ref aa]
    refine r_i2lS X dL_sorted_7 ?_
    refine r_lastore X dL_sorted_8 ha9 ⟨by omega, by omega⟩ (by decide) ?_
    show WW K D z0 4 (hu h9 aa (aJ D 1 (up g0 (0 : Int).toNat (w32 (od w.toNat))))) 1 6 9 [(0, .ref x), (1, iv w), (2, .ref aa)] []
    refine r_goto 15 X dL_sorted_9 (by decide) ?_
    refine r_iconst X dL_sorted_15 ?_
    refine r_iret X Y dL_sorted_16 (by decide) (by decide) ?_
    exact WPJ_k hcd rfl (fun e9 => CS_hu hC9 ha9 rfl (Or.inl rfl) e9) hK9
abbrev rL_isTrue : Room := { frames := 9, cells := 2, slots := 12, locals := 164 }
theorem c_L_isTrue {l : Launch} (hl : l.stackTraces = false) (D : va_G) (z0 : Nat) (h : Hp) {x o : Nat} {σ : Tg} {r : List Nat} {m : Nat} {od : Nat → Int} (hc : CS D h x o σ r m od) (hp : PI r m od) (p : Int) (p_ : I32 p) {aa : Nat} {g0 : Nat → Int} (ha : h aa = some (aJ D 1 g0)) : CH l yL_isTrue cL_isTrue 4 (some .int) [(0, 16, 19, 13), (0, 16, 22, 23)] rL_isTrue D z0 h [.ref x, iv p, .ref aa] (WPJ D o aa (ms σ p 2) (fun h9 => CS D h9 x o σ r m od) (fun h9 => CS D h9 x o σ r m od) (1) h) := by
  refine CH_of RL hl (by decide) rfl (Nat.le_of_ble_eq_true rfl) (fun K X Y T hKl => ?_)
  subst hKl
  have hao := CS_oa hc ha rfl (kd_ne rfl)
  obtain ⟨fs9, hobx⟩ := CS_x' hc
  show WW K D z0 4 h 0 0 0 [(0, .ref x), (1, iv p), (2, .ref aa)] []
  refine r_aload_n 2 X dL_isTrue_0 rfl ?_
  refine r_iconst X dL_isTrue_1 ?_
  refine r_aload_n 0 X dL_isTrue_2 rfl ?_
  refine r_iload_n 1 X dL_isTrue_3 rfl ?_
  refine r_callV X dL_isTrue_4 kL_114 (hobx) (c6_isTrue (CX_l X) D z0 h hc hp p p_) [iv 0, .ref aa] rfl rfl (Nat.le_of_ble_eq_true rfl) (by decide) (by decide) (fun E9 h8 hx9 => ?_) (fun v9 h9 hv9 => ?_)
  · obtain ⟨rfl, hk9⟩ := Xn_2 hx9
    rcases hk9 with ⟨hk9, rfl⟩ | ⟨hk9, rfl⟩
    · refine WX_catch X T [] ⟨0, 16, 19, 13⟩ [⟨0, 16, 22, 23⟩] rfl (fun z9 hz9 => absurd hz9 List.not_mem_nil) (by decide) (by decide) gL_13 (by decide) (fun q9 => ?_)
      show WW K D z0 4 h 2 12 19 [(0, .ref x), (1, iv p), (2, .ref aa)] [.ref q9]
      refine r_astore_n (L' := [(3, .ref q9), (0, .ref x), (1, iv p), (2, .ref aa)]) X dL_isTrue_19 (by decide) rfl ?_
      refine r_iconst X dL_isTrue_20 ?_
      refine r_iret X Y dL_isTrue_21 (by decide) (by decide) ?_
      exact WPJ_w 1 hk9 (by decide) (by decide) hc ha
    · refine WX_catch X T [⟨0, 16, 19, 13⟩] ⟨0, 16, 22, 23⟩ [] rfl (List.forall_mem_cons.mpr ⟨⟨by decide, _, gL_13, by decide⟩, fun z9 hz9 => absurd hz9 List.not_mem_nil⟩) (by decide) (by decide) gL_23 (by decide) (fun q9 => ?_)
      show WW K D z0 4 h 2 12 22 [(0, .ref x), (1, iv p), (2, .ref aa)] [.ref q9]
      refine r_astore_n (L' := [(3, .ref q9), (0, .ref x), (1, iv p), (2, .ref aa)]) X dL_isTrue_22 (by decide) rfl ?_
      refine r_iconst X dL_isTrue_23 ?_
      refine r_iret X Y dL_isTrue_24 (by decide) (by decide) ?_
      exact WPJ_w 2 hk9 (by decide) (by decide) hc ha
  · obtain ⟨rfl, hC9, hK9, hcd⟩ := hv9
    have ha9 := KC_a hK9 ha hao
    show WW K D z0 4 h9 2 12 7 [(0, .ref x), (1, iv p), (2, .ref aa)] [iv 1, iv 0, .ref aa]
    refine r_if_eq 14 X dL_isTrue_7 (by decide) ⟨by omega, by omega⟩ (fun c7 => ?_) (fun c7 => ?_)
    · exfalso
      omega
    · refine r_lconst 1 X dL_isTrue_10 (by decide) ?_
      refine r_goto 15 X dL_isTrue_11 (by decide) ?_
      refine r_lastore X dL_isTrue_15 ha9 ⟨by omega, by omega⟩ (by decide) ?_
      show WW K D z0 4 (hu h9 aa (aJ D 1 (up g0 (0 : Int).toNat (1)))) 2 12 16 [(0, .ref x), (1, iv p), (2, .ref aa)] []
      refine r_goto 25 X dL_isTrue_16 (by decide) ?_
      refine r_iconst X dL_isTrue_25 ?_
      refine r_iret X Y dL_isTrue_26 (by decide) (by decide) ?_
      exact WPJ_k hcd rfl (fun e9 => CS_hu hC9 ha9 rfl (Or.inl rfl) e9) hK9
abbrev rL_rootIsTrue : Room := { frames := 8, cells := 1, slots := 6, locals := 133 }
theorem c_L_rootIsTrue {l : Launch} (hl : l.stackTraces = false) (D : va_G) (z0 : Nat) (h : Hp) {x o : Nat} {σ : Tg} {r : List Nat} {m : Nat} {od : Nat → Int} (hc : CS D h x o σ r m od) (hp : PI r m od) (p : Int) (p_ : I64 p) {aa : Nat} {g0 : Nat → Int} (ha : h aa = some (aJ D 1 g0)) : CH l yL_rootIsTrue cL_rootIsTrue 5 (some .int) [(0, 16, 19, 15)] rL_rootIsTrue D z0 h [.ref x, jv p, .ref aa] (WPJ D o aa (cdRo p) (fun h9 => CS D h9 x o σ r m od) (fun h9 => CS D h9 x o σ r m od) (1) h) := by
  refine CH_of RL hl (by decide) rfl (Nat.le_of_ble_eq_true rfl) (fun K X Y T hKl => ?_)
  subst hKl
  have hao := CS_oa hc ha rfl (kd_ne rfl)
  obtain ⟨fs9, hobx⟩ := CS_x' hc
  show WW K D z0 5 h 0 0 0 [(0, .ref x), (1, jv p), (3, .ref aa)] []
  refine r_aload_n 2 X dL_rootIsTrue_0 rfl ?_
  refine r_iconst X dL_rootIsTrue_1 ?_
  refine r_aload_n 0 X dL_rootIsTrue_2 rfl ?_
  refine r_lload_n 1 X dL_rootIsTrue_3 rfl ?_
  refine r_callV X dL_rootIsTrue_4 kL_117 (hobx) (c6_rootIsTrue (CX_l X) D z0 h hc hp p p_) [iv 0, .ref aa] rfl rfl (Nat.le_of_ble_eq_true rfl) (by decide) (by decide) (fun E9 h8 hx9 => ?_) (fun v9 h9 hv9 => ?_)
  · obtain ⟨rfl, hk9, rfl⟩ := Xn_1 hx9
    refine WX_catch X T [] ⟨0, 16, 19, 15⟩ [] rfl (fun z9 hz9 => absurd hz9 List.not_mem_nil) (by decide) (by decide) gL_15 (by decide) (fun q9 => ?_)
    show WW K D z0 5 h 1 6 19 [(0, .ref x), (1, jv p), (3, .ref aa)] [.ref q9]
    refine r_astore (L' := [(4, .ref q9), (0, .ref x), (1, jv p), (3, .ref aa)]) X dL_rootIsTrue_19 (by decide) rfl ?_
    refine r_iconst X dL_rootIsTrue_21 ?_
    refine r_iret X Y dL_rootIsTrue_22 (by decide) (by decide) ?_
    exact WPJ_w 1 hk9 (by decide) (by decide) hc ha
  · obtain ⟨rfl, hC9, hK9, hcd⟩ := hv9
    have ha9 := KC_a hK9 ha hao
    show WW K D z0 5 h9 1 6 7 [(0, .ref x), (1, jv p), (3, .ref aa)] [iv 1, iv 0, .ref aa]
    refine r_if_eq 14 X dL_rootIsTrue_7 (by decide) ⟨by omega, by omega⟩ (fun c7 => ?_) (fun c7 => ?_)
    · exfalso
      omega
    · refine r_lconst 1 X dL_rootIsTrue_10 (by decide) ?_
      refine r_goto 15 X dL_rootIsTrue_11 (by decide) ?_
      refine r_lastore X dL_rootIsTrue_15 ha9 ⟨by omega, by omega⟩ (by decide) ?_
      show WW K D z0 5 (hu h9 aa (aJ D 1 (up g0 (0 : Int).toNat (1)))) 1 6 16 [(0, .ref x), (1, jv p), (3, .ref aa)] []
      refine r_goto 23 X dL_rootIsTrue_16 (by decide) ?_
      refine r_iconst X dL_rootIsTrue_23 ?_
      refine r_iret X Y dL_rootIsTrue_24 (by decide) (by decide) ?_
      exact WPJ_k hcd rfl (fun e9 => CS_hu hC9 ha9 rfl (Or.inl rfl) e9) hK9
abbrev rL_hypotIsTrue : Room := { frames := 7, cells := 1, slots := 6, locals := 112 }
theorem c_L_hypotIsTrue {l : Launch} (hl : l.stackTraces = false) (D : va_G) (z0 : Nat) (h : Hp) {x o : Nat} {σ : Tg} {r : List Nat} {m : Nat} {od : Nat → Int} (hc : CS D h x o σ r m od) (hp : PI r m od) (a : Int) (a_ : I32 a) (b : Int) (b_ : I32 b) {aa : Nat} {g0 : Nat → Int} (ha : h aa = some (aJ D 1 g0)) : CH l yL_hypotIsTrue cL_hypotIsTrue 5 (some .int) [(0, 17, 20, 15)] rL_hypotIsTrue D z0 h [.ref x, iv a, iv b, .ref aa] (WPJ D o aa (cdHt a b) (fun h9 => CS D h9 x o σ r m od) (fun h9 => CS D h9 x o σ r m od) (1) h) := by
  refine CH_of RL hl (by decide) rfl (Nat.le_of_ble_eq_true rfl) (fun K X Y T hKl => ?_)
  subst hKl
  have hao := CS_oa hc ha rfl (kd_ne rfl)
  obtain ⟨fs9, hobx⟩ := CS_x' hc
  show WW K D z0 5 h 0 0 0 [(0, .ref x), (1, iv a), (2, iv b), (3, .ref aa)] []
  refine r_aload_n 3 X dL_hypotIsTrue_0 rfl ?_
  refine r_iconst X dL_hypotIsTrue_1 ?_
  refine r_aload_n 0 X dL_hypotIsTrue_2 rfl ?_
  refine r_iload_n 1 X dL_hypotIsTrue_3 rfl ?_
  refine r_iload_n 2 X dL_hypotIsTrue_4 rfl ?_
  refine r_callV X dL_hypotIsTrue_5 kL_121 (hobx) (c6_hypotIsTrue (CX_l X) D z0 h hc hp a a_ b b_) [iv 0, .ref aa] rfl rfl (Nat.le_of_ble_eq_true rfl) (by decide) (by decide) (fun E9 h8 hx9 => ?_) (fun v9 h9 hv9 => ?_)
  · obtain ⟨rfl, hk9, rfl⟩ := Xn_1 hx9
    refine WX_catch X T [] ⟨0, 17, 20, 15⟩ [] rfl (fun z9 hz9 => absurd hz9 List.not_mem_nil) (by decide) (by decide) gL_15 (by decide) (fun q9 => ?_)
    show WW K D z0 5 h 1 6 20 [(0, .ref x), (1, iv a), (2, iv b), (3, .ref aa)] [.ref q9]
    refine r_astore (L' := [(4, .ref q9), (0, .ref x), (1, iv a), (2, iv b), (3, .ref aa)]) X dL_hypotIsTrue_20 (by decide) rfl ?_
    refine r_iconst X dL_hypotIsTrue_22 ?_
    refine r_iret X Y dL_hypotIsTrue_23 (by decide) (by decide) ?_
    exact WPJ_w 1 hk9 (by decide) (by decide) hc ha
  · obtain ⟨rfl, hC9, hK9, hcd⟩ := hv9
    have ha9 := KC_a hK9 ha hao
    show WW K D z0 5 h9 1 6 8 [(0, .ref x), (1, iv a), (2, iv b), (3, .ref aa)] [iv 1, iv 0, .ref aa]
    refine r_if_eq 15 X dL_hypotIsTrue_8 (by decide) ⟨by omega, by omega⟩ (fun c8 => ?_) (fun c8 => ?_)
    · exfalso
      omega
    · refine r_lconst 1 X dL_hypotIsTrue_11 (by decide) ?_
      refine r_goto 16 X dL_hypotIsTrue_12 (by decide) ?_
      refine r_lastore X dL_hypotIsTrue_16 ha9 ⟨by omega, by omega⟩ (by decide) ?_
      show WW K D z0 5 (hu h9 aa (aJ D 1 (up g0 (0 : Int).toNat (1)))) 1 6 17 [(0, .ref x), (1, iv a), (2, iv b), (3, .ref aa)] []
      refine r_goto 24 X dL_hypotIsTrue_17 (by decide) ?_
      refine r_iconst X dL_hypotIsTrue_24 ?_
      refine r_iret X Y dL_hypotIsTrue_25 (by decide) (by decide) ?_
      exact WPJ_k hcd rfl (fun e9 => CS_hu hC9 ha9 rfl (Or.inl rfl) e9) hK9
abbrev rL_listIsTrue : Room := { frames := 8, cells := 1, slots := 6, locals := 168 }
theorem c_L_listIsTrue {l : Launch} (hl : l.stackTraces = false) (D : va_G) (z0 : Nat) (h : Hp) {x o : Nat} {σ : Tg} {r : List Nat} {m : Nat} {od : Nat → Int} (hc : CS D h x o σ r m od) (hp : PI r m od) (p : Int) (p_ : I32 p) {aa : Nat} {g0 : Nat → Int} (ha : h aa = some (aJ D 1 g0)) : CH l yL_listIsTrue cL_listIsTrue 4 (some .int) [(0, 16, 19, 15)] rL_listIsTrue D z0 h [.ref x, iv p, .ref aa] (WPJ D o aa (cdLt p) (fun h9 => CS D h9 x o σ r m od) (fun h9 => CS D h9 x o σ r m od) (1) h) := by
  refine CH_of RL hl (by decide) rfl (Nat.le_of_ble_eq_true rfl) (fun K X Y T hKl => ?_)
  subst hKl
  have hao := CS_oa hc ha rfl (kd_ne rfl)
  obtain ⟨fs9, hobx⟩ := CS_x' hc
  show WW K D z0 4 h 0 0 0 [(0, .ref x), (1, iv p), (2, .ref aa)] []
  refine r_aload_n 2 X dL_listIsTrue_0 rfl ?_
  refine r_iconst X dL_listIsTrue_1 ?_
  refine r_aload_n 0 X dL_listIsTrue_2 rfl ?_
  refine r_iload_n 1 X dL_listIsTrue_3 rfl ?_
  refine r_callV X dL_listIsTrue_4 kL_125 (hobx) (c6_listIsTrue (CX_l X) D z0 h hc hp p p_) [iv 0, .ref aa] rfl rfl (Nat.le_of_ble_eq_true rfl) (by decide) (by decide) (fun E9 h8 hx9 => ?_) (fun v9 h9 hv9 => ?_)
  · obtain ⟨rfl, hk9, rfl⟩ := Xn_1 hx9
    refine WX_catch X T [] ⟨0, 16, 19, 15⟩ [] rfl (fun z9 hz9 => absurd hz9 List.not_mem_nil) (by decide) (by decide) gL_15 (by decide) (fun q9 => ?_)
    show WW K D z0 4 h 1 6 19 [(0, .ref x), (1, iv p), (2, .ref aa)] [.ref q9]
    refine r_astore_n (L' := [(3, .ref q9), (0, .ref x), (1, iv p), (2, .ref aa)]) X dL_listIsTrue_19 (by decide) rfl ?_
    refine r_iconst X dL_listIsTrue_20 ?_
    refine r_iret X Y dL_listIsTrue_21 (by decide) (by decide) ?_
    exact WPJ_w 1 hk9 (by decide) (by decide) hc ha
  · obtain ⟨rfl, hC9, hK9, hcd⟩ := hv9
    have ha9 := KC_a hK9 ha hao
    show WW K D z0 4 h9 1 6 7 [(0, .ref x), (1, iv p), (2, .ref aa)] [iv 1, iv 0, .ref aa]
    refine r_if_eq 14 X dL_listIsTrue_7 (by decide) ⟨by omega, by omega⟩ (fun c7 => ?_) (fun c7 => ?_)
    · exfalso
      omega
    · refine r_lconst 1 X dL_listIsTrue_10 (by decide) ?_
      refine r_goto 15 X dL_listIsTrue_11 (by decide) ?_
      refine r_lastore X dL_listIsTrue_15 ha9 ⟨by omega, by omega⟩ (by decide) ?_
      show WW K D z0 4 (hu h9 aa (aJ D 1 (up g0 (0 : Int).toNat (1)))) 1 6 16 [(0, .ref x), (1, iv p), (2, .ref aa)] []
      refine r_goto 22 X dL_listIsTrue_16 (by decide) ?_
      refine r_iconst X dL_listIsTrue_22 ?_
      refine r_iret X Y dL_listIsTrue_23 (by decide) (by decide) ?_
      exact WPJ_k hcd rfl (fun e9 => CS_hu hC9 ha9 rfl (Or.inl rfl) e9) hK9
abbrev rL_countIsTrue : Room := { frames := 8, cells := 1, slots := 6, locals := 131 }
theorem c_L_countIsTrue {l : Launch} (hl : l.stackTraces = false) (D : va_G) (z0 : Nat) (h : Hp) {x o : Nat} {σ : Tg} {r : List Nat} {m : Nat} {od : Nat → Int} (hc : CS D h x o σ r m od) (hp : PI r m od) (p : Int) (p_ : I32 p) {aa : Nat} {g0 : Nat → Int} (ha : h aa = some (aJ D 1 g0)) : CH l yL_countIsTrue cL_countIsTrue 4 (some .int) [(0, 16, 19, 15)] rL_countIsTrue D z0 h [.ref x, iv p, .ref aa] (WPJ D o aa (cdCt p) (fun h9 => CS D h9 x o σ r m od) (fun h9 => CS D h9 x o σ r m od) (1) h) := by
  refine CH_of RL hl (by decide) rfl (Nat.le_of_ble_eq_true rfl) (fun K X Y T hKl => ?_)
  subst hKl
  have hao := CS_oa hc ha rfl (kd_ne rfl)
  obtain ⟨fs9, hobx⟩ := CS_x' hc
  show WW K D z0 4 h 0 0 0 [(0, .ref x), (1, iv p), (2, .ref aa)] []
  refine r_aload_n 2 X dL_countIsTrue_0 rfl ?_
  refine r_iconst X dL_countIsTrue_1 ?_
  refine r_aload_n 0 X dL_countIsTrue_2 rfl ?_
  refine r_iload_n 1 X dL_countIsTrue_3 rfl ?_
  refine r_callV X dL_countIsTrue_4 kL_128 (hobx) (c6_countIsTrue (CX_l X) D z0 h hc hp p p_) [iv 0, .ref aa] rfl rfl (Nat.le_of_ble_eq_true rfl) (by decide) (by decide) (fun E9 h8 hx9 => ?_) (fun v9 h9 hv9 => ?_)
  · obtain ⟨rfl, hk9, rfl⟩ := Xn_1 hx9
    refine WX_catch X T [] ⟨0, 16, 19, 15⟩ [] rfl (fun z9 hz9 => absurd hz9 List.not_mem_nil) (by decide) (by decide) gL_15 (by decide) (fun q9 => ?_)
    show WW K D z0 4 h 1 6 19 [(0, .ref x), (1, iv p), (2, .ref aa)] [.ref q9]
    refine r_astore_n (L' := [(3, .ref q9), (0, .ref x), (1, iv p), (2, .ref aa)]) X dL_countIsTrue_19 (by decide) rfl ?_
    refine r_iconst X dL_countIsTrue_20 ?_
    refine r_iret X Y dL_countIsTrue_21 (by decide) (by decide) ?_
    exact WPJ_w 1 hk9 (by decide) (by decide) hc ha
  · obtain ⟨rfl, hC9, hK9, hcd⟩ := hv9
    have ha9 := KC_a hK9 ha hao
    show WW K D z0 4 h9 1 6 7 [(0, .ref x), (1, iv p), (2, .ref aa)] [iv 1, iv 0, .ref aa]
    refine r_if_eq 14 X dL_countIsTrue_7 (by decide) ⟨by omega, by omega⟩ (fun c7 => ?_) (fun c7 => ?_)
    · exfalso
      omega
    · refine r_lconst 1 X dL_countIsTrue_10 (by decide) ?_
      refine r_goto 15 X dL_countIsTrue_11 (by decide) ?_
      refine r_lastore X dL_countIsTrue_15 ha9 ⟨by omega, by omega⟩ (by decide) ?_
      show WW K D z0 4 (hu h9 aa (aJ D 1 (up g0 (0 : Int).toNat (1)))) 1 6 16 [(0, .ref x), (1, iv p), (2, .ref aa)] []
      refine r_goto 22 X dL_countIsTrue_16 (by decide) ?_
      refine r_iconst X dL_countIsTrue_22 ?_
      refine r_iret X Y dL_countIsTrue_23 (by decide) (by decide) ?_
      exact WPJ_k hcd rfl (fun e9 => CS_hu hC9 ha9 rfl (Or.inl rfl) e9) hK9
