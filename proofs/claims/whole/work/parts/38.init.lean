/-! new arrays, new objects -/
section Rows3
variable {K : KT} {D : va_G} {z0 nL : Nat} {h : Hp} {kc ks pc : Nat} {L : List (Nat × Value)} {st : List Value} {cc : ByteArray} {own : String} {rm : Room}
theorem i32_nn {n : Nat} (hn : n < 100000) : ¬ Int32.ofInt (n : Int) < 0 := fun z => by
  have := (i32_lt (a := (n : Int)) (b := 0) ⟨by omega, by omega⟩ ⟨by omega, by omega⟩).mp z
  omega
theorem r_newI (X : CX K D z0 cc nL own rm) {n : Nat} (d : decode cc pc = .ok (.newarray .int, 2)) (k1 : Cond.arrayClass .int ∈ WS) (hn : n < 100000) (r1 : kc + 1 ≤ rm.cells) (r2 : ks + n ≤ rm.slots) (kk : ∀ a : Nat, h a = none → z0 ≤ a → WW K D z0 nL (hu h a (aI D n (fun _ => 0))) (kc + 1) (ks + n) (pc + 2) L (.ref a :: st)) : WW K D z0 nL h kc ks pc L (iv (n : Int) :: st) := by
  obtain ⟨p, l, e, R, s, m, args, below, meth, c, Q⟩ := K
  obtain ⟨hx, hb, hml, hown, hts, hl, hlk, hF, hR⟩ := X
  subst hR
  intro H locs cells slots ls h1 h2 h3 h4 h5
  have hz : z0 ≤ H.size := Nat.le_trans hF.2.2.2.2.2.2.1 h4.1
  refine va_newaK (N := n) (atype := .int) hx hb (hts _ k1) rfl d rfl (i32_nn hn) (i32_clamp ⟨by omega, by omega⟩) (by show n * 4 ≤ _; omega) (by omega) (by omega) rfl fun H1 cA e1 z1 o1 hAr hNm => ?_
  have hcA : cA = D.1 100 := Option.some.inj (hNm.symm.trans (hF.1.2 0 _ rfl).2)
  subst hcA
  exact kk H.size (Hd_new h3) hz H1 locs (cells + 1) (slots + n) ls (by omega) (by omega) (Hd_push h3 hz (by show H1[H.size]? = some (vp_cell _ _); rw [vp_cell_i]; exact e1) o1)
    ⟨Nat.le_trans h4.1 (by omega), fun x y1 y2 => (o1 x (Nat.lt_of_lt_of_le y1 h4.1)).trans (h4.2.1 x y1 y2), h4.2.2⟩ h5
theorem r_newJ (X : CX K D z0 cc nL own rm) {n : Nat} (d : decode cc pc = .ok (.newarray .long, 2)) (k1 : Cond.arrayClass .long ∈ WS) (hn : n < 100000) (r1 : kc + 1 ≤ rm.cells) (r2 : ks + n ≤ rm.slots) (kk : ∀ a : Nat, h a = none → z0 ≤ a → WW K D z0 nL (hu h a (aJ D n (fun _ => 0))) (kc + 1) (ks + n) (pc + 2) L (.ref a :: st)) : WW K D z0 nL h kc ks pc L (iv (n : Int) :: st) := by
  obtain ⟨p, l, e, R, s, m, args, below, meth, c, Q⟩ := K
  obtain ⟨hx, hb, hml, hown, hts, hl, hlk, hF, hR⟩ := X
  subst hR
  intro H locs cells slots ls h1 h2 h3 h4 h5
  have hz : z0 ≤ H.size := Nat.le_trans hF.2.2.2.2.2.2.1 h4.1
  refine va_newaK (N := n) (atype := .long) hx hb (hts _ k1) rfl d rfl (i32_nn hn) (i32_clamp ⟨by omega, by omega⟩) (by show n * 8 ≤ _; omega) (by omega) (by omega) rfl fun H1 cA e1 z1 o1 hAr hNm => ?_
  have hcA : cA = D.1 101 := Option.some.inj (hNm.symm.trans (hF.1.2 1 _ rfl).2)
  subst hcA
  exact kk H.size (Hd_new h3) hz H1 locs (cells + 1) (slots + n) ls (by omega) (by omega) (Hd_push h3 hz (by show H1[H.size]? = some (vp_cell _ _); rw [vp_cell_l]; exact e1) o1)
    ⟨Nat.le_trans h4.1 (by omega), fun x y1 y2 => (o1 x (Nat.lt_of_lt_of_le y1 h4.1)).trans (h4.2.1 x y1 y2), h4.2.2⟩ h5
theorem r_newD (X : CX K D z0 cc nL own rm) {n : Nat} (d : decode cc pc = .ok (.newarray .double, 2)) (k1 : Cond.arrayClass .double ∈ WS) (hn : n < 100000) (r1 : kc + 1 ≤ rm.cells) (r2 : ks + n ≤ rm.slots) (kk : ∀ a : Nat, h a = none → z0 ≤ a → WW K D z0 nL (hu h a (aD D n (fun _ => 0))) (kc + 1) (ks + n) (pc + 2) L (.ref a :: st)) : WW K D z0 nL h kc ks pc L (iv (n : Int) :: st) := by
  obtain ⟨p, l, e, R, s, m, args, below, meth, c, Q⟩ := K
  obtain ⟨hx, hb, hml, hown, hts, hl, hlk, hF, hR⟩ := X
  subst hR
  intro H locs cells slots ls h1 h2 h3 h4 h5
  have hz : z0 ≤ H.size := Nat.le_trans hF.2.2.2.2.2.2.1 h4.1
  refine va_newaK (N := n) (atype := .double) hx hb (hts _ k1) rfl d rfl (i32_nn hn) (i32_clamp ⟨by omega, by omega⟩) (by show n * 8 ≤ _; omega) (by omega) (by omega) rfl fun H1 cA e1 z1 o1 hAr hNm => ?_
  have hcA : cA = D.1 102 := Option.some.inj (hNm.symm.trans (hF.1.2 2 _ rfl).2)
  subst hcA
  exact kk H.size (Hd_new h3) hz H1 locs (cells + 1) (slots + n) ls (by omega) (by omega) (Hd_push h3 hz (by show H1[H.size]? = some (vp_cell _ _); rw [vp_cell_d]; exact e1) o1)
    ⟨Nat.le_trans h4.1 (by omega), fun x y1 y2 => (o1 x (Nat.lt_of_lt_of_le y1 h4.1)).trans (h4.2.1 x y1 y2), h4.2.2⟩ h5
theorem r_newR (X : CX K D z0 cc nL own rm) {i n : Nat} (d : decode cc pc = .ok (.anewarray i, 3)) (k1 : Cond.classLink own i RX5 ∈ WS) (hn : n < 100000) (r1 : kc + 1 ≤ rm.cells) (r2 : ks + n ≤ rm.slots) (kk : ∀ a : Nat, h a = none → z0 ≤ a → WW K D z0 nL (hu h a (aR D n (fun _ => none))) (kc + 1) (ks + n) (pc + 3) L (.ref a :: st)) : WW K D z0 nL h kc ks pc L (iv (n : Int) :: st) := by
  obtain ⟨p, l, e, R, s, m, args, below, meth, c, Q⟩ := K
  obtain ⟨hx, hb, hml, hown, hts, hl, hlk, hF, hR⟩ := X
  subst hR
  intro H locs cells slots ls h1 h2 h3 h4 h5
  have hz : z0 ≤ H.size := Nat.le_trans hF.2.2.2.2.2.2.1 h4.1
  have hnn : (Int32.ofInt (n : Int)).toNatClampNeg = n := i32_clamp ⟨by omega, by omega⟩
  refine W.anew (C := RX5) hx hb hown (hts _ k1) (va_AO.use hF.2.2.2.2.2.1) rfl d rfl (i32_nn hn) (by rw [hnn]; omega) (by omega) (by rw [hnn]; omega) fun cA kA comp f1 f2 f3 f4 => ?_
  rw [hnn]
  generalize hH1 : H.push ({ cls := cA, slots := Array.replicate n .null, vm := .none } : Cell) = H1
  have z1 : H1.size = H.size + 1 := by rw [← hH1, Array.size_push]
  have e1 : H1[H.size]? = some (arrV cA n (fun _ => .null)) := by rw [← hH1, Array.getElem?_push_size, ← arrV_new]
  have o1 : ∀ q : Nat, q < H.size → H1[q]? = H[q]? := fun q hq => by rw [← hH1, Array.getElem?_push, if_neg (Nat.ne_of_lt hq)]
  obtain ⟨kA2, comp2, g1, g2, g3, g4⟩ := (hF.1.2 3 _ rfl).2
  have hcA : cA = D.1 103 := Option.some.inj (f1.symm.trans g4)
  subst hcA
  exact kk H.size (Hd_new h3) hz H1 locs (cells + 1) (slots + n) ls (by omega) (by omega) (Hd_push h3 hz (by show H1[H.size]? = some (vp_cell _ _); rw [vp_cell_q]; exact e1) o1)
    ⟨Nat.le_trans h4.1 (by omega), fun x y1 y2 => (o1 x (Nat.lt_of_lt_of_le y1 h4.1)).trans (h4.2.1 x y1 y2), h4.2.2⟩ h5
end Rows3
/-- an object x under construction, and the cells made since, all apart -/
def Ini (h : Hp) (x : Nat) (e : va_E) (cs : List (Nat × va_E)) : Prop := h x = some e ∧ (∀ c ∈ cs, h c.1 = some c.2 ∧ c.1 ≠ x) ∧ (cs.map Prod.fst).Nodup
theorem Ini_0 {h : Hp} {x : Nat} {e : va_E} (hx : h x = some e) : Ini h x e [] := ⟨hx, fun c hc => absurd hc (List.not_mem_nil), List.nodup_nil⟩
theorem Ini_new {h : Hp} {x : Nat} {e : va_E} {cs : List (Nat × va_E)} (hi : Ini h x e cs) {q : Nat} (hq : h q = none) (e' : va_E) : Ini (hu h q e') x e ((q, e') :: cs) := by
  obtain ⟨h1, h2, h3⟩ := hi
  refine ⟨hu_new hq h1, fun c hc => ?_, ?_⟩
  · rcases List.mem_cons.mp hc with rfl | hc
    · exact ⟨hu_s _ _ _, fun z => by rw [show q = x from z, h1] at hq; cases hq⟩
    · exact ⟨hu_new hq (h2 c hc).1, (h2 c hc).2⟩
  · rw [List.map_cons, List.nodup_cons]
    refine ⟨fun z => ?_, h3⟩
    obtain ⟨c, hc, hc2⟩ := List.mem_map.mp z
    have := (h2 c hc).1
    rw [hc2, hq] at this
    cases this
theorem Ini_put {h : Hp} {x : Nat} {e : va_E} {cs : List (Nat × va_E)} (hi : Ini h x e cs) (e' : va_E) : Ini (hu h x e') x e' cs := by
  obtain ⟨h1, h2, h3⟩ := hi
  exact ⟨hu_s _ _ _, fun c hc => ⟨by rw [hu_n _ _ (h2 c hc).2]; exact (h2 c hc).1, (h2 c hc).2⟩, h3⟩
/-- the newest cell again -/
theorem Ini_upd {h : Hp} {x : Nat} {e : va_E} {cs : List (Nat × va_E)} {q : Nat} {e1 : va_E} (hi : Ini h x e ((q, e1) :: cs)) (e' : va_E) : Ini (hu h q e') x e ((q, e') :: cs) := by
  obtain ⟨h1, h2, h3⟩ := hi
  have hqx : q ≠ x := (h2 (q, e1) (List.mem_cons_self)).2
  rw [List.map_cons, List.nodup_cons] at h3
  refine ⟨by rw [hu_n _ _ (Ne.symm hqx)]; exact h1, fun c hc => ?_, by rw [List.map_cons, List.nodup_cons]; exact h3⟩
  rcases List.mem_cons.mp hc with rfl | hc
  · exact ⟨hu_s _ _ _, hqx⟩
  · have hne : c.1 ≠ q := fun z => h3.1 (List.mem_map.mpr ⟨c, hc, z⟩)
    have := h2 c (List.mem_cons_of_mem _ hc)
    exact ⟨by rw [hu_n _ _ hne]; exact this.1, this.2⟩
/-- a list's row is made before the list is done -/
theorem Ini_row {h : Hp} {x : Nat} {e : va_E} {cs : List (Nat × va_E)} {q a : Nat} {e1 : va_E} (hi : Ini h x e ((q, e1) :: cs)) (ha : h a = none) (e2 e' : va_E) : Ini (hu (hu h a e2) q e') x e ((q, e') :: (a, e2) :: cs) := by
  have hqa : q ≠ a := fun z => by
    have := (hi.2.1 (q, e1) List.mem_cons_self).1
    rw [show (q, e1).1 = a from z, ha] at this
    cases this
  have h2 := Ini_new hi ha e2
  obtain ⟨h1, h3, h4⟩ := h2
  have hqx : q ≠ x := (h3 (q, e1) (List.mem_cons_of_mem _ List.mem_cons_self)).2
  refine ⟨by rw [hu_n _ _ (Ne.symm hqx)]; exact h1, fun c hc => ?_, ?_⟩
  · rcases List.mem_cons.mp hc with rfl | hc
    · exact ⟨hu_s _ _ _, hqx⟩
    · rcases List.mem_cons.mp hc with rfl | hc
      · have := h3 (a, e2) List.mem_cons_self
        exact ⟨by rw [hu_n _ _ (Ne.symm hqa)]; exact this.1, this.2⟩
      · have h5 := h3 c (List.mem_cons_of_mem _ (List.mem_cons_of_mem _ hc))
        have h6 := hi.2.2
        rw [List.map_cons, List.nodup_cons] at h6
        have hne : c.1 ≠ q := fun z => h6.1 (List.mem_map.mpr ⟨c, hc, z⟩)
        exact ⟨by rw [hu_n _ _ hne]; exact h5.1, h5.2⟩
  · simp only [List.map_cons, List.nodup_cons, List.mem_cons, not_or] at h4 ⊢
    exact ⟨⟨hqa, h4.2.1⟩, h4.1.2, h4.2.2⟩
theorem Keep_put {h h' : Hp} {x : Nat} {e : va_E} (k : Keep (fun y => y = x) h h') : Keep (fun y => y = x) h (hu h' x e) := fun y e' hy hn => by rw [hu_n h' e hn]; exact k y e' hy hn
theorem Keep_add {h h' : Hp} {W : Nat → Prop} {q : Nat} {e : va_E} (k : Keep W h h') (hq : h' q = none) : Keep W h (hu h' q e) := fun y e' hy hn => hu_new hq (k y e' hy hn)
theorem dft1 : ∀ j, j < 2 → defaultValue (tyc 1 j) = vp_V [.null, iv 0] j
  | 0, _ => rfl
  | 1, _ => rfl
  | k + 2, h => absurd h (by omega)
abbrev rX2_init : Room := { frames := 1, cells := 1, slots := 64, locals := 20 }
theorem c_X2_init {l : Launch} (hl : l.stackTraces = false) (D : va_G) (z0 : Nat) (h : Hp) (q : Nat) (hx : h q = some (ob 1 [.null, iv 0])) : CC l yX2_init cX2_init 1 none rX2_init D z0 h [.ref q] (fun v h' => v = none ∧ ∃ a : Nat, h a = none ∧ h' = hu (hu h a (aI D 64 (fun _ => 0))) q (ob 1 [.ref a, iv 0])) NX := by
  refine CC_of RX2 hl (by decide) rfl (Nat.le_of_ble_eq_true rfl) (fun K X Y Z hmn hKl => ?_)
  subst hKl
  show WW K D z0 1 h 0 0 0 [(0, .ref q)] []
  have hi0 := Ini_0 hx
  have khi0 : Keep (fun y => y = q) h h := Keep_rf
  refine r_aload_n 0 X dX2_init_0 rfl ?_
  refine r_objInit X dX2_init_1 kX2_5 obj_i obj_c (Nat.le_of_ble_eq_true rfl) (by decide) ?_
  refine r_aload_n 0 X dX2_init_4 rfl ?_
  refine r_bipush X dX2_init_5 (by decide) ?_
  refine r_newI (n := 64) X dX2_init_7 arr_int (by decide) (Nat.le_of_ble_eq_true rfl) (Nat.le_of_ble_eq_true rfl) (fun a7 ha7 za7 => ?_)
  have hi7 := Ini_new hi0 ha7 (aI D 64 (fun _ => 0))
  have khi7 := Keep_add (e := aI D 64 (fun _ => 0)) khi0 ha7
  refine r_putfF (fs' := [.ref a7, iv 0]) X hmn dX2_init_9 fX2_11 hi7.1 rfl (Nat.le_of_ble_eq_true rfl) rfl rfl rfl ?_
  have hi9 := Ini_put hi7 (ob 1 [.ref a7, iv 0])
  have khi9 := Keep_put (e := ob 1 [.ref a7, iv 0]) khi7
  refine r_aload_n 0 X dX2_init_12 rfl ?_
  refine r_iconst X dX2_init_13 ?_
  refine r_putf (fs' := [.ref a7, iv 0]) X dX2_init_14 fX2_15 hi9.1 rfl (Nat.le_of_ble_eq_true rfl) rfl rfl rfl ?_
  have hi14 := Ini_put hi9 (ob 1 [.ref a7, iv 0])
  have khi14 := Keep_put (e := ob 1 [.ref a7, iv 0]) khi9
  refine r_vret X Y dX2_init_17 (by decide) (by decide) ?_
  exact ⟨rfl, a7, ha7, hu_hu _ _ _ _⟩
theorem Keep_hn {h h' : Hp} {W : Nat → Prop} {q : Nat} {e : va_E} (k : Keep W h h') (hq : h q = none) : Keep W h (hu h' q e) := fun y e' hy hn => by
  rw [hu_n h' e (fun z => by rw [z, hq] at hy; cases hy)]
  exact k y e' hy hn
theorem Keep_none {h h' : Hp} {x : Nat} {e : va_E} (k : Keep (fun y => y = x) h h') (hx : h x = some e) {q : Nat} (hq : h' q = none) (hqx : h' x ≠ none) : h q = none := by
  cases z : h q with
  | none => rfl
  | some e' =>
    by_cases w : q = x
    · rw [w] at hq
      exact absurd hq hqx
    · have := k q e' z w
      rw [hq] at this
      cases this
abbrev rX6_init : Room := { frames := 2, cells := 8, slots := 230, locals := 40 }
theorem c_X6_init {l : Launch} (hl : l.stackTraces = false) (D : va_G) (z0 : Nat) (h : Hp) (x : Nat) (hx : h x = some (ob 0 [.null, .null, .null, .null, .null, iv 0])) : CC l yX6_init cX6_init 1 none rX6_init D z0 h [.ref x] (fun w0 h' => w0 = none ∧ ∃ T f u v o kf ku kv : Nat, Ini h' x (ob 0 [.ref T, .ref f, .ref u, .ref v, .ref o, iv 0]) [(o, aI D 16 (fun _ => 0)), (v, ob 1 [.ref kv, iv 0]), (kv, aI D 64 (fun _ => 0)), (u, ob 1 [.ref ku, iv 0]), (ku, aI D 64 (fun _ => 0)), (f, ob 1 [.ref kf, iv 0]), (kf, aI D 64 (fun _ => 0)), (T, aR D 16 (fun _ => none))] ∧ Keep (fun y => y = x) h h') NX := by
  refine CC_of RX6 hl (by decide) rfl (Nat.le_of_ble_eq_true rfl) (fun K X Y Z hmn hKl => ?_)
  subst hKl
  show WW K D z0 1 h 0 0 0 [(0, .ref x)] []
  have hi0 := Ini_0 hx
  have khi0 : Keep (fun y => y = x) h h := Keep_rf
  refine r_aload_n 0 X dX6_init_0 rfl ?_
  refine r_objInit X dX6_init_1 kX6_1 obj_i obj_c (Nat.le_of_ble_eq_true rfl) (by decide) ?_
  refine r_aload_n 0 X dX6_init_4 rfl ?_
  refine r_bipush X dX6_init_5 (by decide) ?_
  refine r_newR (n := 16) X dX6_init_7 gX6_9 (by decide) (Nat.le_of_ble_eq_true rfl) (Nat.le_of_ble_eq_true rfl) (fun a7 ha7 za7 => ?_)
  have hi7 := Ini_new hi0 ha7 (aR D 16 (fun _ => none))
  have khi7 := Keep_add (e := aR D 16 (fun _ => none)) khi0 ha7
  refine r_putfF (fs' := [.ref a7, .null, .null, .null, .null, iv 0]) X hmn dX6_init_10 fX6_11 hi7.1 rfl (Nat.le_of_ble_eq_true rfl) rfl rfl rfl ?_
  have hi10 := Ini_put hi7 (ob 0 [.ref a7, .null, .null, .null, .null, iv 0])
  have khi10 := Keep_put (e := ob 0 [.ref a7, .null, .null, .null, .null, iv 0]) khi7
  refine r_aload_n 0 X dX6_init_13 rfl ?_
  refine r_new (ci := 1) (fs := [.null, iv 0]) X dX6_init_14 _ rfl gX6_15 inst_X2 init_X2 dft1 (Nat.le_of_ble_eq_true rfl) (Nat.le_of_ble_eq_true rfl) (fun q14 hq14 _ => ?_)
  have hi14 := Ini_new hi10 hq14 (ob 1 [.null, iv 0])
  have hf14 := Keep_none khi10 hx hq14 (by rw [hi10.1]; exact Option.some_ne_none _)
  have khi14 := Keep_add (e := ob 1 [.null, iv 0]) khi10 hq14
  show WW K D z0 1 (hu (hu (hu h a7 (aR D 16 (fun _ => none))) x (ob 0 [.ref a7, .null, .null, .null, .null, iv 0])) q14 (ob 1 [.null, iv 0])) 2 18 17 [(0, .ref x)] [.ref q14, .ref x]
  refine r_dup X dX6_init_17 rfl ?_
  refine r_callI X dX6_init_18 kX6_17 (c_X2_init (CX_l X) D z0 (hu (hu (hu h a7 (aR D 16 (fun _ => none))) x (ob 0 [.ref a7, .null, .null, .null, .null, iv 0])) q14 (ob 1 [.null, iv 0])) q14 (hi14.2.1 _ List.mem_cons_self).1) [.ref q14, .ref x] rfl rfl (Nat.le_of_ble_eq_true rfl) (by decide) (by decide) (fun v9 h9 hv9 => ?_)
  obtain ⟨rfl, k18, hk18, rfl⟩ := hv9
  have hi18 := Ini_row hi14 hk18 (aI D 64 (fun _ => 0)) (ob 1 [.ref k18, iv 0])
  have khi18 := Keep_hn (e := ob 1 [.ref k18, iv 0]) (Keep_add (e := aI D 64 (fun _ => 0)) khi14 hk18) hf14
  show WW K D z0 1 (hu (hu (hu (hu (hu h a7 (aR D 16 (fun _ => none))) x (ob 0 [.ref a7, .null, .null, .null, .null, iv 0])) q14 (ob 1 [.null, iv 0])) k18 (aI D 64 (fun _ => 0))) q14 (ob 1 [.ref k18, iv 0])) 3 82 21 [(0, .ref x)] [.ref q14, .ref x]
  refine r_putfF (fs' := [.ref a7, .ref q14, .null, .null, .null, iv 0]) X hmn dX6_init_21 fX6_18 hi18.1 rfl (Nat.le_of_ble_eq_true rfl) rfl rfl rfl ?_
  have hi21 := Ini_put hi18 (ob 0 [.ref a7, .ref q14, .null, .null, .null, iv 0])
  have khi21 := Keep_put (e := ob 0 [.ref a7, .ref q14, .null, .null, .null, iv 0]) khi18
  refine r_aload_n 0 X dX6_init_24 rfl ?_
  refine r_new (ci := 1) (fs := [.null, iv 0]) X dX6_init_25 _ rfl gX6_15 inst_X2 init_X2 dft1 (Nat.le_of_ble_eq_true rfl) (Nat.le_of_ble_eq_true rfl) (fun q25 hq25 _ => ?_)
  have hi25 := Ini_new hi21 hq25 (ob 1 [.null, iv 0])
  have hf25 := Keep_none khi21 hx hq25 (by rw [hi21.1]; exact Option.some_ne_none _)
  have khi25 := Keep_add (e := ob 1 [.null, iv 0]) khi21 hq25
  show WW K D z0 1 (hu (hu (hu (hu (hu (hu (hu h a7 (aR D 16 (fun _ => none))) x (ob 0 [.ref a7, .null, .null, .null, .null, iv 0])) q14 (ob 1 [.null, iv 0])) k18 (aI D 64 (fun _ => 0))) q14 (ob 1 [.ref k18, iv 0])) x (ob 0 [.ref a7, .ref q14, .null, .null, .null, iv 0])) q25 (ob 1 [.null, iv 0])) 4 84 28 [(0, .ref x)] [.ref q25, .ref x]
  refine r_dup X dX6_init_28 rfl ?_
  refine r_callI X dX6_init_29 kX6_17 (c_X2_init (CX_l X) D z0 (hu (hu (hu (hu (hu (hu (hu h a7 (aR D 16 (fun _ => none))) x (ob 0 [.ref a7, .null, .null, .null, .null, iv 0])) q14 (ob 1 [.null, iv 0])) k18 (aI D 64 (fun _ => 0))) q14 (ob 1 [.ref k18, iv 0])) x (ob 0 [.ref a7, .ref q14, .null, .null, .null, iv 0])) q25 (ob 1 [.null, iv 0])) q25 (hi25.2.1 _ List.mem_cons_self).1) [.ref q25, .ref x] rfl rfl (Nat.le_of_ble_eq_true rfl) (by decide) (by decide) (fun v9 h9 hv9 => ?_)
  obtain ⟨rfl, k29, hk29, rfl⟩ := hv9
  have hi29 := Ini_row hi25 hk29 (aI D 64 (fun _ => 0)) (ob 1 [.ref k29, iv 0])
  have khi29 := Keep_hn (e := ob 1 [.ref k29, iv 0]) (Keep_add (e := aI D 64 (fun _ => 0)) khi25 hk29) hf25
  show WW K D z0 1 (hu (hu (hu (hu (hu (hu (hu (hu (hu h a7 (aR D 16 (fun _ => none))) x (ob 0 [.ref a7, .null, .null, .null, .null, iv 0])) q14 (ob 1 [.null, iv 0])) k18 (aI D 64 (fun _ => 0))) q14 (ob 1 [.ref k18, iv 0])) x (ob 0 [.ref a7, .ref q14, .null, .null, .null, iv 0])) q25 (ob 1 [.null, iv 0])) k29 (aI D 64 (fun _ => 0))) q25 (ob 1 [.ref k29, iv 0])) 5 148 32 [(0, .ref x)] [.ref q25, .ref x]
  refine r_putfF (fs' := [.ref a7, .ref q14, .ref q25, .null, .null, iv 0]) X hmn dX6_init_32 fX6_22 hi29.1 rfl (Nat.le_of_ble_eq_true rfl) rfl rfl rfl ?_
  have hi32 := Ini_put hi29 (ob 0 [.ref a7, .ref q14, .ref q25, .null, .null, iv 0])
  have khi32 := Keep_put (e := ob 0 [.ref a7, .ref q14, .ref q25, .null, .null, iv 0]) khi29
  refine r_aload_n 0 X dX6_init_35 rfl ?_
  refine r_new (ci := 1) (fs := [.null, iv 0]) X dX6_init_36 _ rfl gX6_15 inst_X2 init_X2 dft1 (Nat.le_of_ble_eq_true rfl) (Nat.le_of_ble_eq_true rfl) (fun q36 hq36 _ => ?_)
  have hi36 := Ini_new hi32 hq36 (ob 1 [.null, iv 0])
  have hf36 := Keep_none khi32 hx hq36 (by rw [hi32.1]; exact Option.some_ne_none _)
  have khi36 := Keep_add (e := ob 1 [.null, iv 0]) khi32 hq36
  show WW K D z0 1 (hu (hu (hu (hu (hu (hu (hu (hu (hu (hu (hu h a7 (aR D 16 (fun _ => none))) x (ob 0 [.ref a7, .null, .null, .null, .null, iv 0])) q14 (ob 1 [.null, iv 0])) k18 (aI D 64 (fun _ => 0))) q14 (ob 1 [.ref k18, iv 0])) x (ob 0 [.ref a7, .ref q14, .null, .null, .null, iv 0])) q25 (ob 1 [.null, iv 0])) k29 (aI D 64 (fun _ => 0))) q25 (ob 1 [.ref k29, iv 0])) x (ob 0 [.ref a7, .ref q14, .ref q25, .null, .null, iv 0])) q36 (ob 1 [.null, iv 0])) 6 150 39 [(0, .ref x)] [.ref q36, .ref x]
  refine r_dup X dX6_init_39 rfl ?_
  refine r_callI X dX6_init_40 kX6_17 (c_X2_init (CX_l X) D z0 (hu (hu (hu (hu (hu (hu (hu (hu (hu (hu (hu h a7 (aR D 16 (fun _ => none))) x (ob 0 [.ref a7, .null, .null, .null, .null, iv 0])) q14 (ob 1 [.null, iv 0])) k18 (aI D 64 (fun _ => 0))) q14 (ob 1 [.ref k18, iv 0])) x (ob 0 [.ref a7, .ref q14, .null, .null, .null, iv 0])) q25 (ob 1 [.null, iv 0])) k29 (aI D 64 (fun _ => 0))) q25 (ob 1 [.ref k29, iv 0])) x (ob 0 [.ref a7, .ref q14, .ref q25, .null, .null, iv 0])) q36 (ob 1 [.null, iv 0])) q36 (hi36.2.1 _ List.mem_cons_self).1) [.ref q36, .ref x] rfl rfl (Nat.le_of_ble_eq_true rfl) (by decide) (by decide) (fun v9 h9 hv9 => ?_)
  obtain ⟨rfl, k40, hk40, rfl⟩ := hv9
  have hi40 := Ini_row hi36 hk40 (aI D 64 (fun _ => 0)) (ob 1 [.ref k40, iv 0])
  have khi40 := Keep_hn (e := ob 1 [.ref k40, iv 0]) (Keep_add (e := aI D 64 (fun _ => 0)) khi36 hk40) hf36
  show WW K D z0 1 (hu (hu (hu (hu (hu (hu (hu (hu (hu (hu (hu (hu (hu h a7 (aR D 16 (fun _ => none))) x (ob 0 [.ref a7, .null, .null, .null, .null, iv 0])) q14 (ob 1 [.null, iv 0])) k18 (aI D 64 (fun _ => 0))) q14 (ob 1 [.ref k18, iv 0])) x (ob 0 [.ref a7, .ref q14, .null, .null, .null, iv 0])) q25 (ob 1 [.null, iv 0])) k29 (aI D 64 (fun _ => 0))) q25 (ob 1 [.ref k29, iv 0])) x (ob 0 [.ref a7, .ref q14, .ref q25, .null, .null, iv 0])) q36 (ob 1 [.null, iv 0])) k40 (aI D 64 (fun _ => 0))) q36 (ob 1 [.ref k40, iv 0])) 7 214 43 [(0, .ref x)] [.ref q36, .ref x]
  refine r_putfF (fs' := [.ref a7, .ref q14, .ref q25, .ref q36, .null, iv 0]) X hmn dX6_init_43 fX6_25 hi40.1 rfl (Nat.le_of_ble_eq_true rfl) rfl rfl rfl ?_
  have hi43 := Ini_put hi40 (ob 0 [.ref a7, .ref q14, .ref q25, .ref q36, .null, iv 0])
  have khi43 := Keep_put (e := ob 0 [.ref a7, .ref q14, .ref q25, .ref q36, .null, iv 0]) khi40
  refine r_aload_n 0 X dX6_init_46 rfl ?_
  refine r_bipush X dX6_init_47 (by decide) ?_
  refine r_newI (n := 16) X dX6_init_49 arr_int (by decide) (Nat.le_of_ble_eq_true rfl) (Nat.le_of_ble_eq_true rfl) (fun a49 ha49 za49 => ?_)
  have hi49 := Ini_new hi43 ha49 (aI D 16 (fun _ => 0))
  have khi49 := Keep_add (e := aI D 16 (fun _ => 0)) khi43 ha49
  refine r_putfF (fs' := [.ref a7, .ref q14, .ref q25, .ref q36, .ref a49, iv 0]) X hmn dX6_init_51 fX6_28 hi49.1 rfl (Nat.le_of_ble_eq_true rfl) rfl rfl rfl ?_
  have hi51 := Ini_put hi49 (ob 0 [.ref a7, .ref q14, .ref q25, .ref q36, .ref a49, iv 0])
  have khi51 := Keep_put (e := ob 0 [.ref a7, .ref q14, .ref q25, .ref q36, .ref a49, iv 0]) khi49
  refine r_aload_n 0 X dX6_init_54 rfl ?_
  refine r_iconst X dX6_init_55 ?_
  refine r_putf (fs' := [.ref a7, .ref q14, .ref q25, .ref q36, .ref a49, iv 0]) X dX6_init_56 fX6_32 hi51.1 rfl (Nat.le_of_ble_eq_true rfl) rfl rfl rfl ?_
  have hi56 := Ini_put hi51 (ob 0 [.ref a7, .ref q14, .ref q25, .ref q36, .ref a49, iv 0])
  have khi56 := Keep_put (e := ob 0 [.ref a7, .ref q14, .ref q25, .ref q36, .ref a49, iv 0]) khi51
  refine r_vret X Y dX6_init_59 (by decide) (by decide) ?_
  exact ⟨rfl, a7, q14, q25, q36, a49, k18, k29, k40, hi56, khi56⟩
