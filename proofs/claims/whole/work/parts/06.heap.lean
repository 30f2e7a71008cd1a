/-! the tracked heap: fields, arrays, new cells; calls; ends; what is thrown -/
def hu (h : Hp) (q : Nat) (e : va_E) : Hp := fun x => if x = q then some e else h x
theorem hu_s (h : Hp) (q : Nat) (e : va_E) : hu h q e q = some e := by simp [hu]
theorem hu_n (h : Hp) {q x : Nat} (e : va_E) (n : x ≠ q) : hu h q e x = h x := by simp [hu, n]
/-- an int array, a long array, a double array, an array of triangles; an object -/
def aI (D : va_G) (n : Nat) (g : Nat → Int) : va_E := .inl (D.1 100, n, .inl (fun j => Int32.ofInt (g j)))
def aJ (D : va_G) (n : Nat) (g : Nat → Int) : va_E := .inl (D.1 101, n, .inr (.inl (fun j => Int64.ofInt (g j))))
def aD (D : va_G) (n : Nat) (g : Nat → UInt64) : va_E := .inl (D.1 102, n, .inr (.inr (.inr (.inl g))))
def aR (D : va_G) (n : Nat) (g : Nat → Option Nat) : va_E := .inl (D.1 103, n, .inr (.inr (.inr (.inr g))))
def ob (ci : Nat) (fs : List Value) : va_E := .inr (ci, fs)
def up {α : Type} (g : Nat → α) (k : Nat) (x : α) : Nat → α := fun j => if j = k then x else g j
theorem up_s {α : Type} (g : Nat → α) (k : Nat) (x : α) : up g k x k = x := by simp [up]
theorem up_n {α : Type} (g : Nat → α) {k j : Nat} (x : α) (n : j ≠ k) : up g k x j = g j := by simp [up, n]
theorem Hd_get {D : va_G} {z0 : Nat} {h : Hp} {H : Heap} (hd : Hd D z0 h H) {a : Nat} {e : va_E} (ha : h a = some e) : va_P D cls4 [(a, e)] H := by
  intro k q hk
  have hz : k < 1 := (List.getElem?_eq_some_iff.mp hk).1
  rw [show k = 0 by omega] at hk
  cases hk
  exact (hd a e ha).2
theorem Hd_set {D : va_G} {z0 : Nat} {h : Hp} {H H1 : Heap} (hd : Hd D z0 h H) {a : Nat} {e : va_E} (ha : z0 ≤ a) (he : va_at D cls4 (a, e) H1) (oq : ∀ q : Nat, q ≠ a → H1[q]? = H[q]?) : Hd D z0 (hu h a e) H1 := by
  intro q e' hq
  by_cases hqa : q = a
  · subst hqa
    rw [hu_s] at hq
    cases hq
    exact ⟨ha, he⟩
  · rw [hu_n h e hqa] at hq
    obtain ⟨h1, h2⟩ := hd q e' hq
    exact ⟨h1, h2.kept (oq q hqa)⟩
theorem Hd_lt {D : va_G} {z0 : Nat} {h : Hp} {H : Heap} (hd : Hd D z0 h H) {a : Nat} {e : va_E} (ha : h a = some e) : a < H.size := (hd a e ha).2.lt
theorem Hd_new {D : va_G} {z0 : Nat} {h : Hp} {H : Heap} (hd : Hd D z0 h H) : h H.size = none := by
  cases hn : h H.size with
  | none => rfl
  | some e => exact absurd (Hd_lt hd hn) (Nat.lt_irrefl _)
theorem Hd_grow {D : va_G} {z0 : Nat} {h : Hp} {H H1 : Heap} (hd : Hd D z0 h H) (oq : ∀ q : Nat, q < H.size → H1[q]? = H[q]?) : Hd D z0 h H1 := fun q e hq => ⟨(hd q e hq).1, (hd q e hq).2.kept (oq q (Hd_lt hd hq))⟩
theorem Hd_push {D : va_G} {z0 : Nat} {h : Hp} {H H1 : Heap} (hd : Hd D z0 h H) {e : va_E} (hz : z0 ≤ H.size) (he : va_at D cls4 (H.size, e) H1) (oq : ∀ q : Nat, q < H.size → H1[q]? = H[q]?) : Hd D z0 (hu h H.size e) H1 := by
  intro q e' hq
  by_cases hqa : q = H.size
  · subst hqa
    rw [hu_s] at hq
    cases hq
    exact ⟨hz, he⟩
  · rw [hu_n h e hqa] at hq
    exact Hd_grow hd oq q e' hq
theorem in_cls4 : ∀ (ci : Nat) (q : vw_C), cls4[ci]? = some q → ∀ w ∈ u_ws q.1 q.2.1 q.2.2, w ∈ WS := by
  have key : ∀ (l : List Cond), l.all (fun w => decide (w ∈ lw_tbl) && goodWord w) = true → ∀ w ∈ l, w ∈ WS := by
    intro l h w hw
    have h1 := List.all_eq_true.mp h w hw
    simp only [Bool.and_eq_true, decide_eq_true_eq] at h1
    exact List.mem_filter.mpr h1
  intro ci q hq
  match ci, hq with
  | 0, hq => cases hq; exact key _ (by decide +kernel)
  | 1, hq => cases hq; exact key _ (by decide +kernel)
  | 2, hq => cases hq; exact key _ (by decide +kernel)
  | 3, hq => cases hq; exact key _ (by decide +kernel)
  | k + 4, hq => simp [cls4] at hq
def tyc : Nat → Nat → FieldType
  | 0 => tyX6
  | 1 => tyX2
  | 2 => tyX5
  | _ => tyX7
theorem ty_cls4 : ∀ (ci : Nat) (q : vw_C), cls4[ci]? = some q → ∀ k, k < q.2.2 → parseFieldDescriptor (q.2.1 k).2.2.1 = some (tyc ci k) := by
  intro ci q hq
  match ci, hq with
  | 0, hq => cases hq; exact tyX6_ok
  | 1, hq => cases hq; exact tyX2_ok
  | 2, hq => cases hq; exact tyX5_ok
  | 3, hq => cases hq; exact tyX7_ok
  | k + 4, hq => simp [cls4] at hq
theorem nm_cls4 : ∀ (ci : Nat) (q : vw_C), cls4[ci]? = some q → ∀ a, a < q.2.2 → ∀ b, b < q.2.2 → a ≠ b → (q.2.1 a).2.1 ≠ (q.2.1 b).2.1 := by
  intro ci q hq
  match ci, hq with
  | 0, hq => cases hq; exact nmX6
  | 1, hq => cases hq; exact nmX2
  | 2, hq => cases hq; exact nmX5
  | 3, hq => cases hq; exact nmX7
  | k + 4, hq => simp [cls4] at hq
/-- a field's link: own's constant i is field k of class ci -/
def fdl (own : String) (i ci k : Nat) : Prop := ∃ q : vw_C, cls4[ci]? = some q ∧ k < q.2.2 ∧ Cond.fieldLink own i (q.2.1 k).1 (q.2.1 k).2.1 (q.2.1 k).2.2.1 ∈ WS
section Rows2
variable {K : KT} {D : va_G} {z0 nL : Nat} {h : Hp} {kc ks pc : Nat} {L : List (Nat × Value)} {st : List Value} {cc : ByteArray} {own : String} {rm : Room}
theorem r_getf (X : CX K D z0 cc nL own rm) {i : Nat} (d : decode cc pc = .ok (.getfield i, 3)) {ci k : Nat} (F : fdl own i ci k) {a : Nat} {fs : List Value} (he : h a = some (ob ci fs)) {v : Value} (hv : fs[k]? = some v) (kk : WW K D z0 nL h kc ks (pc + 3) L (v :: st)) : WW K D z0 nL h kc ks pc L (.ref a :: st) := by
  obtain ⟨p, l, e, R, s, m, args, below, meth, c, Q⟩ := K
  obtain ⟨hx, hb, hml, hown, hts, hl, hlk, hF, hR⟩ := X
  obtain ⟨q, hc, hk, hlink⟩ := F
  intro H locs cells slots ls h1 h2 h3 h4 h5
  exact va_get (C := q.1) (T := q.2.1) (N := q.2.2) hx hb hts (in_cls4 ci q hc) hown hF.1 (Hd_get h3 he) 0 (fs := fs) rfl hc k hk (hts _ hlink) (fun _ z => z) hv d (kk H locs cells slots ls h1 h2 h3 h4 h5)
theorem r_putf (X : CX K D z0 cc nL own rm) {i : Nat} (d : decode cc pc = .ok (.putfield i, 3)) {ci k : Nat} (F : fdl own i ci k) {a : Nat} {fs fs' : List Value} (he : h a = some (ob ci fs)) {v : Value} (hfs : fs.set k v = fs') (hl0 : k < fs.length)
    (hfin : ((cls4[ci]?.map fun q => (q.2.1 k).2.2.2) = some false)) (hn : narrow (tyc ci k) v = v) (hfit : fits (tyc ci k) v = true) (kk : WW K D z0 nL (hu h a (ob ci fs')) kc ks (pc + 3) L st) : WW K D z0 nL h kc ks pc L (v :: .ref a :: st) := by
  obtain ⟨p, l, e, R, s, m, args, below, meth, c, Q⟩ := K
  obtain ⟨hx, hb, hml, hown, hts, hl, hlk, hF, hR⟩ := X
  obtain ⟨q, hc, hk, hlink⟩ := F
  rw [hc] at hfin
  have hfin : (q.2.1 k).2.2.2 = false := Option.some.inj hfin
  intro H locs cells slots ls h1 h2 h3 h4 h5
  have hin := in_cls4 ci q hc
  have hap := va_apart (own := own) hts hin (tyc ci) (ty_cls4 ci q hc) (nm_cls4 ci q hc) hF.1 hc
  obtain ⟨r, g1, cell, q1, q2, q3, q4⟩ := (h3 a _ he).2
  have hr : r = q := Option.some.inj (g1.symm.trans hc)
  subst hr
  obtain ⟨hS, hfc, kC, hkC, hkind⟩ := hF.1.1 ci _ hc
  obtain ⟨cf, kf, fi, f, hi, hsl⟩ := hS k hk
  have hlay := hts _ (hin _ (u_in_lay hk))
  unfold u_lay at hlay
  rw [if_neg (by rw [hfin]; decide)] at hlay
  have hst := (u_facts hfc hkC (u_lays hts hin hk) hi).1
  have h6 := u_store hfc hkC hkind hlay hi (ty_cls4 ci r hc k hk) hn hfit
  refine W.putK hx hb (f := f) ⟨hown, hts _ hlink, ⟨_, _, _, hi⟩, hst⟩ (by rw [q2]; exact h6) q1 q3 (by rw [hsl]; exact k2_hasslot (q4 k hk)) rfl rfl d fun H' e1 e2 e3 => ?_
  rw [hsl] at e1 ⊢
  subst hfs
  exact kk H' _ cells slots ls h1 h2 (Hd_set h3 (h3 a _ he).1 ⟨_, hc, t_OB.to (V := updV (vp_V fs) k v) ⟨_, e1, q2, q3, t_set q4 hap hk v⟩ (fun j _ => vp_updV_set hl0 v j)⟩ e3) (h4.put e2 e3 (h3 a _ he).1) h5
theorem r_putfF (X : CX K D z0 cc nL own rm) (hmn : MN K "<init>") {i : Nat} (d : decode cc pc = .ok (.putfield i, 3)) {ci k : Nat} (F : fdl own i ci k) {a : Nat} {fs fs' : List Value} (he : h a = some (ob ci fs)) {v : Value} (hfs : fs.set k v = fs') (hl0 : k < fs.length)
    (hfin : ((cls4[ci]?.map fun q => ((q.2.1 k).2.2.2, (q.2.1 k).1)) = some (true, own))) (hn : narrow (tyc ci k) v = v) (hfit : fits (tyc ci k) v = true) (kk : WW K D z0 nL (hu h a (ob ci fs')) kc ks (pc + 3) L st) : WW K D z0 nL h kc ks pc L (v :: .ref a :: st) := by
  obtain ⟨p, l, e, R, s, m, args, below, meth, c, Q⟩ := K
  obtain ⟨hx, hb, hml, hown, hts, hl, hlk, hF, hR⟩ := X
  obtain ⟨q, hc, hk, hlink⟩ := F
  rw [hc] at hfin
  have hf2 := Option.some.inj hfin
  have hfin : (q.2.1 k).2.2.2 = true := congrArg Prod.fst hf2
  have hdecl : (q.2.1 k).1 = own := congrArg Prod.snd hf2
  intro H locs cells slots ls h1 h2 h3 h4 h5
  have hin := in_cls4 ci q hc
  have hap := va_apart (own := own) hts hin (tyc ci) (ty_cls4 ci q hc) (nm_cls4 ci q hc) hF.1 hc
  obtain ⟨r, g1, cell, q1, q2, q3, q4⟩ := (h3 a _ he).2
  have hr : r = q := Option.some.inj (g1.symm.trans hc)
  subst hr
  obtain ⟨hS, hfc, kC, hkC, hkind⟩ := hF.1.1 ci _ hc
  obtain ⟨cf, kf, fi, f, hi, hsl⟩ := hS k hk
  have hlay := hts _ (hin _ (u_in_lay hk))
  unfold u_lay at hlay
  rw [if_pos hfin] at hlay
  have hst := (u_facts hfc hkC (u_lays hts hin hk) hi).1
  have hcf : m.cls = cf := by
    obtain ⟨_, _, c', _, _, _, -, -, hf', -, -, -, hown2, -⟩ := Cond.laysFinal_spec hlay
    have e1 : c' = cf := by have := hi.symm.trans hf'; simp at this; exact this.1.symm
    rw [hdecl] at hown2
    rw [← e1]; exact Option.some.inj (hown.symm.trans hown2)
  have h6 := u_fits hfc hkC hkind (Or.inr hlay) hi (ty_cls4 ci r hc k hk) hn hfit
  refine W.putFinK hx hb hown (hts _ hlink) hi hst hcf hmn (by rw [q2]; exact h6) q1 q3 (by rw [hsl]; exact k2_hasslot (q4 k hk)) rfl rfl d fun H' e1 e2 e3 => ?_
  rw [hsl] at e1 ⊢
  subst hfs
  exact kk H' _ cells slots ls h1 h2 (Hd_set h3 (h3 a _ he).1 ⟨_, hc, t_OB.to (V := updV (vp_V fs) k v) ⟨_, e1, q2, q3, t_set q4 hap hk v⟩ (fun j _ => vp_updV_set hl0 v j)⟩ e3) (h4.put e2 e3 (h3 a _ he).1) h5
theorem i32_clamp {i : Int} (h : 0 ≤ i ∧ i < 2147483648) : (Int32.ofInt i).toNatClampNeg = i.toNat := Int32.toNatClampNeg_ofInt_of_le (by omega) (by omega)
theorem i32_in {i : Int} {n : Nat} (h : 0 ≤ i ∧ i < n) (hn : n < 2147483648) : vp_in (Int32.ofInt i) n := by
  intro z
  rcases z with z | z
  · have := (i32_lt (a := i) (b := 0) ⟨by omega, by omega⟩ ⟨by omega, by omega⟩).mp z
    omega
  · rw [i32_clamp ⟨by omega, by omega⟩] at z
    omega
theorem r_iaload (X : CX K D z0 cc nL own rm) (d : decode cc pc = .ok (.iaload, 1)) {a n : Nat} {g : Nat → Int} {i : Int} (he : h a = some (aI D n g)) (hi : 0 ≤ i ∧ i < n) (hn : n < 2147483648) (kk : WW K D z0 nL h kc ks (pc + 1) L (iv (g i.toNat) :: st)) : WW K D z0 nL h kc ks pc L (iv i :: .ref a :: st) := by
  obtain ⟨p, l, e, R, s, m, args, below, meth, c, Q⟩ := K
  obtain ⟨hx, hb, hml, hown, hts, hl, hlk, hF, hR⟩ := X
  intro H locs cells slots ls h1 h2 h3 h4 h5
  refine va_iald hx hb hF.1 (Hd_get h3 he) 0 0 (cA := D.1 100) (n := n) (f := fun j => Int32.ofInt (g j)) rfl rfl (i32_in hi hn) d ?_
  rw [i32_clamp ⟨hi.1, by omega⟩]
  exact kk H locs cells slots ls h1 h2 h3 h4 h5
theorem r_laload (X : CX K D z0 cc nL own rm) (d : decode cc pc = .ok (.laload, 1)) {a n : Nat} {g : Nat → Int} {i : Int} (he : h a = some (aJ D n g)) (hi : 0 ≤ i ∧ i < n) (hn : n < 2147483648) (kk : WW K D z0 nL h kc ks (pc + 1) L (jv (g i.toNat) :: st)) : WW K D z0 nL h kc ks pc L (iv i :: .ref a :: st) := by
  obtain ⟨p, l, e, R, s, m, args, below, meth, c, Q⟩ := K
  obtain ⟨hx, hb, hml, hown, hts, hl, hlk, hF, hR⟩ := X
  intro H locs cells slots ls h1 h2 h3 h4 h5
  refine va_lald hx hb hF.1 (Hd_get h3 he) 0 1 (cA := D.1 101) (n := n) (f := fun j => Int64.ofInt (g j)) rfl rfl (i32_in hi hn) d ?_
  rw [i32_clamp ⟨hi.1, by omega⟩]
  exact kk H locs cells slots ls h1 h2 h3 h4 h5
theorem r_daload (X : CX K D z0 cc nL own rm) (d : decode cc pc = .ok (.daload, 1)) {a n : Nat} {g : Nat → UInt64} {i : Int} (he : h a = some (aD D n g)) (hi : 0 ≤ i ∧ i < n) (hn : n < 2147483648) (kk : WW K D z0 nL h kc ks (pc + 1) L (.double (g i.toNat) :: st)) : WW K D z0 nL h kc ks pc L (iv i :: .ref a :: st) := by
  obtain ⟨p, l, e, R, s, m, args, below, meth, c, Q⟩ := K
  obtain ⟨hx, hb, hml, hown, hts, hl, hlk, hF, hR⟩ := X
  intro H locs cells slots ls h1 h2 h3 h4 h5
  refine va_dald hx hb hF.1 (Hd_get h3 he) 0 2 (cA := D.1 102) (n := n) (f := g) rfl rfl (i32_in hi hn) d ?_
  rw [i32_clamp ⟨hi.1, by omega⟩]
  exact kk H locs cells slots ls h1 h2 h3 h4 h5
theorem r_aaload (X : CX K D z0 cc nL own rm) (d : decode cc pc = .ok (.aaload, 1)) {a n : Nat} {g : Nat → Option Nat} {i : Int} (he : h a = some (aR D n g)) (hi : 0 ≤ i ∧ i < n) (hn : n < 2147483648) (kk : WW K D z0 nL h kc ks (pc + 1) L (va_rf (g i.toNat) :: st)) : WW K D z0 nL h kc ks pc L (iv i :: .ref a :: st) := by
  obtain ⟨p, l, e, R, s, m, args, below, meth, c, Q⟩ := K
  obtain ⟨hx, hb, hml, hown, hts, hl, hlk, hF, hR⟩ := X
  intro H locs cells slots ls h1 h2 h3 h4 h5
  refine va_aldq hx hb hF.1 (Hd_get h3 he) 0 3 (cA := D.1 103) (C := RX5) (n := n) (f := g) rfl rfl (i32_in hi hn) d ?_
  rw [i32_clamp ⟨hi.1, by omega⟩]
  exact kk H locs cells slots ls h1 h2 h3 h4 h5
theorem r_iastore (X : CX K D z0 cc nL own rm) (d : decode cc pc = .ok (.iastore, 1)) {a n : Nat} {g : Nat → Int} {i : Int} {x : Int} (he : h a = some (aI D n g)) (hi : 0 ≤ i ∧ i < n) (hn : n < 2147483648) (kk : WW K D z0 nL (hu h a (aI D n (up g i.toNat x))) kc ks (pc + 1) L st) : WW K D z0 nL h kc ks pc L (iv x :: iv i :: .ref a :: st) := by
  obtain ⟨p, l, e, R, s, m, args, below, meth, c, Q⟩ := K
  obtain ⟨hx, hb, hml, hown, hts, hl, hlk, hF, hR⟩ := X
  intro H locs cells slots ls h1 h2 h3 h4 h5
  have hin := i32_in hi hn
  refine W.iast hx hb (h3 a _ he).2 ((hF.1.2 0 _ rfl).1 n (fun j => .int (Int32.ofInt (g j)))) (fun q => by cases q) (by show ¬ (_ ∨ (arrV _ _ _).slots.size ≤ _); rw [arrV_size]; exact hin) rfl rfl d fun H1 e1 z oq => ?_
  refine kk H1 _ cells slots ls h1 h2 (Hd_set h3 (h3 a _ he).1 ?_ oq) (h4.put z oq (h3 a _ he).1) h5
  show H1[a]? = some (vp_cell _ _)
  rw [e1]
  show some ((vp_cell _ _).setSlot _ _) = _
  rw [vp_cell_i, vp_cell_i, arrV_store, i32_clamp ⟨hi.1, by omega⟩]
  congr 2
  funext q
  by_cases hq : q = i.toNat
  · simp [updV, up, hq]
  · simp [updV, up, hq]
theorem r_lastore (X : CX K D z0 cc nL own rm) (d : decode cc pc = .ok (.lastore, 1)) {a n : Nat} {g : Nat → Int} {i : Int} {x : Int} (he : h a = some (aJ D n g)) (hi : 0 ≤ i ∧ i < n) (hn : n < 2147483648) (kk : WW K D z0 nL (hu h a (aJ D n (up g i.toNat x))) kc ks (pc + 1) L st) : WW K D z0 nL h kc ks pc L (jv x :: iv i :: .ref a :: st) := by
  obtain ⟨p, l, e, R, s, m, args, below, meth, c, Q⟩ := K
  obtain ⟨hx, hb, hml, hown, hts, hl, hlk, hF, hR⟩ := X
  intro H locs cells slots ls h1 h2 h3 h4 h5
  have hin := i32_in hi hn
  refine W.last hx hb (h3 a _ he).2 ((hF.1.2 1 _ rfl).1 n (fun j => .long (Int64.ofInt (g j)))) (fun q => by cases q) (by show ¬ (_ ∨ (arrV _ _ _).slots.size ≤ _); rw [arrV_size]; exact hin) rfl rfl d fun H1 e1 z oq => ?_
  refine kk H1 _ cells slots ls h1 h2 (Hd_set h3 (h3 a _ he).1 ?_ oq) (h4.put z oq (h3 a _ he).1) h5
  show H1[a]? = some (vp_cell _ _)
  rw [e1]
  show some ((vp_cell _ _).setSlot _ _) = _
  rw [vp_cell_l, vp_cell_l, arrV_store, i32_clamp ⟨hi.1, by omega⟩]
  congr 2
  funext q
  by_cases hq : q = i.toNat
  · simp [updV, up, hq]
  · simp [updV, up, hq]
theorem r_dastore (X : CX K D z0 cc nL own rm) (d : decode cc pc = .ok (.dastore, 1)) {a n : Nat} {g : Nat → UInt64} {i : Int} {x : UInt64} (he : h a = some (aD D n g)) (hi : 0 ≤ i ∧ i < n) (hn : n < 2147483648) (kk : WW K D z0 nL (hu h a (aD D n (up g i.toNat x))) kc ks (pc + 1) L st) : WW K D z0 nL h kc ks pc L (.double x :: iv i :: .ref a :: st) := by
  obtain ⟨p, l, e, R, s, m, args, below, meth, c, Q⟩ := K
  obtain ⟨hx, hb, hml, hown, hts, hl, hlk, hF, hR⟩ := X
  intro H locs cells slots ls h1 h2 h3 h4 h5
  have hin := i32_in hi hn
  refine W.dast hx hb (h3 a _ he).2 ((hF.1.2 2 _ rfl).1 n (fun j => .double (g j))) (fun q => by cases q) (by show ¬ (_ ∨ (arrV _ _ _).slots.size ≤ _); rw [arrV_size]; exact hin) rfl rfl d fun H1 e1 z oq => ?_
  refine kk H1 _ cells slots ls h1 h2 (Hd_set h3 (h3 a _ he).1 ?_ oq) (h4.put z oq (h3 a _ he).1) h5
  show H1[a]? = some (vp_cell _ _)
  rw [e1]
  show some ((vp_cell _ _).setSlot _ _) = _
  rw [vp_cell_d, vp_cell_d, arrV_store, i32_clamp ⟨hi.1, by omega⟩]
  congr 2
  funext q
  by_cases hq : q = i.toNat
  · simp [updV, up, hq]
  · simp [updV, up, hq]
/-- a triangle laid into the array of triangles -/
theorem r_aastore (X : CX K D z0 cc nL own rm) (d : decode cc pc = .ok (.aastore, 1)) {a n v : Nat} {g : Nat → Option Nat} {i : Int} {fs : List Value} (he : h a = some (aR D n g)) (hv : h v = some (ob 2 fs)) (hi : 0 ≤ i ∧ i < n) (hn : n < 2147483648) (kk : WW K D z0 nL (hu h a (aR D n (up g i.toNat (some v)))) kc ks (pc + 1) L st) : WW K D z0 nL h kc ks pc L (.ref v :: iv i :: .ref a :: st) := by
  obtain ⟨p, l, e, R, s, m, args, below, meth, c, Q⟩ := K
  obtain ⟨hx, hb, hml, hown, hts, hl, hlk, hF, hR⟩ := X
  intro H locs cells slots ls h1 h2 h3 h4 h5
  have hin := i32_in hi hn
  obtain ⟨r', hr', cellV, g1, g2, g3, -⟩ := (h3 v _ hv).2
  have hcls := (hF.1.1 2 (RX5, TX5, 5) rfl).2
  obtain ⟨kA, comp, k1, k2, k3, -⟩ := (hF.1.2 3 _ rfl).2
  have hcomp : comp = D.1 2 := Option.some.inj (k3.symm.trans hcls.1)
  subst hcomp
  obtain ⟨kC, hkC, -⟩ := hcls.2
  refine W.aast hx hb (h3 a _ he).2 (fun q h => by cases h) (fun h => by cases h) k1 k2 rfl hkC ⟨fun z => hin (Or.inl z), by show _ < (arrV _ _ _).slots.size; rw [arrV_size]; exact Nat.not_le.mp fun z => hin (Or.inr z)⟩ g1 (fun q h => by rw [g3] at h; cases h) (by rw [g2]; exact hkC) (by rw [g2]; exact va_assign hcls) rfl rfl d fun H1 e1 z oq => ?_
  refine kk H1 _ cells slots ls h1 h2 (Hd_set h3 (h3 a _ he).1 ?_ oq) (h4.put z oq (h3 a _ he).1) h5
  show H1[a]? = some (vp_cell _ _)
  rw [e1]
  show some ((vp_cell _ _).setSlot _ _) = _
  rw [vp_cell_q, vp_cell_q, arrV_store, i32_clamp ⟨hi.1, by omega⟩]
  congr 2
  funext q
  by_cases hq : q = i.toNat
  · simp [updV, up, va_rf, hq]
  · simp [updV, up, hq]
theorem r_aastoreN (X : CX K D z0 cc nL own rm) (d : decode cc pc = .ok (.aastore, 1)) {a n : Nat} {g : Nat → Option Nat} {i : Int} (he : h a = some (aR D n g)) (hi : 0 ≤ i ∧ i < n) (hn : n < 2147483648) (kk : WW K D z0 nL (hu h a (aR D n (up g i.toNat none))) kc ks (pc + 1) L st) : WW K D z0 nL h kc ks pc L (.null :: iv i :: .ref a :: st) := by
  obtain ⟨p, l, e, R, s, m, args, below, meth, c, Q⟩ := K
  obtain ⟨hx, hb, hml, hown, hts, hl, hlk, hF, hR⟩ := X
  intro H locs cells slots ls h1 h2 h3 h4 h5
  have hin := i32_in hi hn
  refine va_WaastN (C := RX5) hx hb (h3 a _ he).2 ((hF.1.2 3 _ rfl).1 n (fun j => va_rf (g j))) (fun h => by cases h) (by show ¬ (_ ∨ (arrV _ _ _).slots.size ≤ _); rw [arrV_size]; exact hin) rfl rfl d fun H1 e1 z oq => ?_
  refine kk H1 _ cells slots ls h1 h2 (Hd_set h3 (h3 a _ he).1 ?_ oq) (h4.put z oq (h3 a _ he).1) h5
  show H1[a]? = some (vp_cell _ _)
  rw [e1]
  show some ((vp_cell _ _).setSlot _ _) = _
  rw [vp_cell_q, vp_cell_q, arrV_store, i32_clamp ⟨hi.1, by omega⟩]
  congr 2
  funext q
  by_cases hq : q = i.toNat
  · simp [updV, up, va_rf, hq]
  · simp [updV, up, hq]
/-- a new object -/
theorem r_new (X : CX K D z0 cc nL own rm) {i : Nat} (d : decode cc pc = .ok (.new i, 3)) {ci : Nat} {fs : List Value} (q : vw_C) (hc : cls4[ci]? = some q) (k1 : Cond.classLink own i q.1 ∈ WS) (k2 : Cond.instantiable q.1 q.2.2 ∈ WS) (k3 : Cond.initialized q.1 ∈ WS)
    (hfs : ∀ j, j < q.2.2 → defaultValue (tyc ci j) = vp_V fs j) (r1 : kc + 1 ≤ rm.cells) (r2 : ks + q.2.2 ≤ rm.slots) (kk : ∀ a : Nat, h a = none → z0 ≤ a → WW K D z0 nL (hu h a (ob ci fs)) (kc + 1) (ks + q.2.2) (pc + 3) L (.ref a :: st)) : WW K D z0 nL h kc ks pc L st := by
  obtain ⟨p, l, e, R, s, m, args, below, meth, c, Q⟩ := K
  obtain ⟨hx, hb, hml, hown, hts, hl, hlk, hF, hR⟩ := X
  subst hR
  intro H locs cells slots ls h1 h2 h3 h4 h5
  have hKn := hF.1.1 ci _ hc
  have hz : z0 ≤ H.size := Nat.le_trans hF.2.2.2.2.2.2.1 h4.1
  refine W.newcK hx hb hown (hts _ k1) (hts _ k2) (hts _ k3) rfl d (by omega) (by omega) hKn.2.1 rfl fun H1 kC hkC e1 z1 o1 => ?_
  exact kk H.size (Hd_new h3) hz H1 locs (cells + 1) (slots + q.2.2) ls (by omega) (by omega) (Hd_push h3 hz ⟨_, hc, (u_born (tyc ci) hts (in_cls4 ci q hc) hKn hkC e1 (ty_cls4 ci q hc)).to hfs⟩ o1)
    ⟨Nat.le_trans h4.1 (by omega), fun x y1 y2 => (o1 x (Nat.lt_of_lt_of_le y1 h4.1)).trans (h4.2.1 x y1 y2), h4.2.2⟩ h5
/-! ends -/
theorem r_iret {Φ : Option Value → Hp → Prop} {Ψ : String → Hp → Prop} {mc ms : Nat} (X : CX K D z0 cc nL own rm) (Y : EX K D z0 (some .int) Φ Ψ mc ms) {a : Int} (d : decode cc pc = .ok (.ireturn, 1)) (r1 : kc ≤ mc) (r2 : ks ≤ ms) (hq : Φ (some (iv a)) h) : WW K D z0 nL h kc ks pc L [iv a] := by
  obtain ⟨p, l, e, R, s, m, args, below, meth, c, Q⟩ := K
  obtain ⟨hx, hb, hml, hown, hts, hl, hlk, hF, hR⟩ := X
  obtain ⟨hr, rfl⟩ := Y
  intro H locs cells slots ls h1 h2 h3 h4 h5
  exact W.widen (Nat.le_trans h1 r1) (Nat.le_trans h2 r2) (vx_ret (W.iret hx hb hr (fun t ht hW => ⟨⟨_, h, rfl, hq, by rw [ht]; exact h3⟩, h4.F ht⟩) h4.2.2 d))
theorem r_zret {Φ : Option Value → Hp → Prop} {Ψ : String → Hp → Prop} {mc ms : Nat} (X : CX K D z0 cc nL own rm) (Y : EX K D z0 (some .boolean) Φ Ψ mc ms) {a : Int} (d : decode cc pc = .ok (.ireturn, 1)) (ha : a = 0 ∨ a = 1) (r1 : kc ≤ mc) (r2 : ks ≤ ms) (hq : Φ (some (iv a)) h) : WW K D z0 nL h kc ks pc L [iv a] := by
  obtain ⟨p, l, e, R, s, m, args, below, meth, c, Q⟩ := K
  obtain ⟨hx, hb, hml, hown, hts, hl, hlk, hF, hR⟩ := X
  obtain ⟨hr, rfl⟩ := Y
  intro H locs cells slots ls h1 h2 h3 h4 h5
  exact W.widen (Nat.le_trans h1 r1) (Nat.le_trans h2 r2) (vx_ret (W.zret hx hb hr (by rcases ha with rfl | rfl <;> decide) (fun t ht hW => ⟨⟨_, h, rfl, hq, by rw [ht]; exact h3⟩, h4.F ht⟩) h4.2.2 d))
theorem r_lret {Φ : Option Value → Hp → Prop} {Ψ : String → Hp → Prop} {mc ms : Nat} (X : CX K D z0 cc nL own rm) (Y : EX K D z0 (some .long) Φ Ψ mc ms) {a : Int} (d : decode cc pc = .ok (.lreturn, 1)) (r1 : kc ≤ mc) (r2 : ks ≤ ms) (hq : Φ (some (jv a)) h) : WW K D z0 nL h kc ks pc L [jv a] := by
  obtain ⟨p, l, e, R, s, m, args, below, meth, c, Q⟩ := K
  obtain ⟨hx, hb, hml, hown, hts, hl, hlk, hF, hR⟩ := X
  obtain ⟨hr, rfl⟩ := Y
  intro H locs cells slots ls h1 h2 h3 h4 h5
  exact W.widen (Nat.le_trans h1 r1) (Nat.le_trans h2 r2) (vx_ret (W.lret hx hb hr (fun t ht hW => ⟨⟨_, h, rfl, hq, by rw [ht]; exact h3⟩, h4.F ht⟩) h4.2.2 d))
theorem r_dret {Φ : Option Value → Hp → Prop} {Ψ : String → Hp → Prop} {mc ms : Nat} (X : CX K D z0 cc nL own rm) (Y : EX K D z0 (some .double) Φ Ψ mc ms) {a : UInt64} (d : decode cc pc = .ok (.dreturn, 1)) (r1 : kc ≤ mc) (r2 : ks ≤ ms) (hq : Φ (some (.double a)) h) : WW K D z0 nL h kc ks pc L [.double a] := by
  obtain ⟨p, l, e, R, s, m, args, below, meth, c, Q⟩ := K
  obtain ⟨hx, hb, hml, hown, hts, hl, hlk, hF, hR⟩ := X
  obtain ⟨hr, rfl⟩ := Y
  intro H locs cells slots ls h1 h2 h3 h4 h5
  exact W.widen (Nat.le_trans h1 r1) (Nat.le_trans h2 r2) (vx_ret (W.dret hx hb hr (fun t ht hW => ⟨⟨_, h, rfl, hq, by rw [ht]; exact h3⟩, h4.F ht⟩) h4.2.2 d))
theorem r_fret {Φ : Option Value → Hp → Prop} {Ψ : String → Hp → Prop} {mc ms : Nat} (X : CX K D z0 cc nL own rm) (Y : EX K D z0 (some .float) Φ Ψ mc ms) {a : UInt32} (d : decode cc pc = .ok (.freturn, 1)) (r1 : kc ≤ mc) (r2 : ks ≤ ms) (hq : Φ (some (.float a)) h) : WW K D z0 nL h kc ks pc L [.float a] := by
  obtain ⟨p, l, e, R, s, m, args, below, meth, c, Q⟩ := K
  obtain ⟨hx, hb, hml, hown, hts, hl, hlk, hF, hR⟩ := X
  obtain ⟨hr, rfl⟩ := Y
  intro H locs cells slots ls h1 h2 h3 h4 h5
  exact W.widen (Nat.le_trans h1 r1) (Nat.le_trans h2 r2) (vx_ret (W.fret hx hb hr (fun t ht hW => ⟨⟨_, h, rfl, hq, by rw [ht]; exact h3⟩, h4.F ht⟩) h4.2.2 d))
theorem r_aret {Φ : Option Value → Hp → Prop} {Ψ : String → Hp → Prop} {mc ms : Nat} {o : String} (X : CX K D z0 cc nL own rm) (Y : EX K D z0 (some (.object o)) Φ Ψ mc ms) {v : Value} (d : decode cc pc = .ok (.areturn, 1)) (hv : v = .null ∨ ∃ a, v = .ref a) (r1 : kc ≤ mc) (r2 : ks ≤ ms) (hq : Φ (some v) h) : WW K D z0 nL h kc ks pc L [v] := by
  obtain ⟨p, l, e, R, s, m, args, below, meth, c, Q⟩ := K
  obtain ⟨hx, hb, hml, hown, hts, hl, hlk, hF, hR⟩ := X
  obtain ⟨hr, rfl⟩ := Y
  intro H locs cells slots ls h1 h2 h3 h4 h5
  exact W.widen (Nat.le_trans h1 r1) (Nat.le_trans h2 r2) (vx_ret (W.aret hx hb hr (Or.inl ⟨_, rfl⟩) hv (fun t ht hW => ⟨⟨_, h, rfl, hq, by rw [ht]; exact h3⟩, h4.F ht⟩) h4.2.2 d))
theorem r_vret {Φ : Option Value → Hp → Prop} {Ψ : String → Hp → Prop} {mc ms : Nat} (X : CX K D z0 cc nL own rm) (Y : EX K D z0 none Φ Ψ mc ms) (d : decode cc pc = .ok (.return_, 1)) (r1 : kc ≤ mc) (r2 : ks ≤ ms) (hq : Φ none h) : WW K D z0 nL h kc ks pc L [] := by
  obtain ⟨p, l, e, R, s, m, args, below, meth, c, Q⟩ := K
  obtain ⟨hx, hb, hml, hown, hts, hl, hlk, hF, hR⟩ := X
  obtain ⟨hr, rfl⟩ := Y
  intro H locs cells slots ls h1 h2 h3 h4 h5
  exact W.widen (Nat.le_trans h1 r1) (Nat.le_trans h2 r2) (vx_ret (W.vret hx hb hr (fun t ht hW => ⟨⟨_, h, rfl, hq, by rw [ht]; exact h3⟩, h4.F ht⟩) h4.2.2 d))
/-! calls -/
/-- thrown in a callee: what the caller owes -/
def WX : KT → va_G → Nat → Nat → Hp → Nat → Nat → Nat → List (Nat × Value) → List Value → String → Prop
  | (p, l, e, R, s, m, args, below, meth, c, Q), D, z0, nL, h, kc, ks, pc, L, st, E => ∀ (H : Heap) (locs : List Loc) (cells slots : Nat) (ls : Array Slot) (q : Addr) (ce : Cell), cells ≤ kc → slots ≤ ks → Hd D z0 h H → va_S (Fr z0) s.heap H locs → lv_has ls nL L → H[q]? = some ce → ce.vm = .none → s.vm.findClass E = some ce.cls → vx_W p l e R s m args below meth c H locs cells slots Q (F0 m pc ls st) q
theorem WX_out {Φ : Option Value → Hp → Prop} {Ψ : String → Hp → Prop} {mc ms : Nat} {ret : Option FieldType} {E : String} (X : CX K D z0 cc nL own rm) (Y : EX K D z0 ret Φ Ψ mc ms) (Z : NT K) (r1 : kc ≤ mc) (r2 : ks ≤ ms) (hq : Ψ E h) : WX K D z0 nL h kc ks pc L st E := by
  obtain ⟨p, l, e, R, s, m, args, below, meth, c, Q⟩ := K
  obtain ⟨hx, hb, hml, hown, hts, hl, hlk, hF, hR⟩ := X
  obtain ⟨hr, rfl⟩ := Y
  intro H locs cells slots ls q ce h1 h2 h3 h4 h5 h6 h7 h8
  exact vx_out (fun x hx => (Z x hx).elim) hlk h6 h7 h8 (fun t ht _ => ⟨⟨h, hq, by rw [ht]; exact h3⟩, h4.F ht⟩) h4.2.2 (Nat.le_trans h1 r1) (Nat.le_trans h2 r2)
/-- what is known of a callee: static, or found by its receiver's class -/
def lkS (own : String) (i : Nat) (y : MethodName) (cc' : ByteArray) (nL' : Nat) (ret : Option FieldType) (n : Nat) : Prop :=
  Cond.methodLink own i y ∈ WS ∧ Cond.static y ∈ WS ∧ Cond.initialized y.cls ∈ WS ∧ Cond.code y cc' nL' ret ∈ WS ∧ (y.cls ≠ "java/lang/invoke/MethodHandle" ∧ y.cls ≠ "java/lang/invoke/VarHandle") ∧ (parseMethodDescriptor y.desc).map (fun d => d.parameters.length) = some n
def lkV (own : String) (i ci : Nat) (y : MethodName) (cc' : ByteArray) (nL' : Nat) (ret : Option FieldType) (n : Nat) : Prop :=
  Cond.methodLink own i y ∈ WS ∧ Cond.instanceMethod y ∈ WS ∧ (∃ q : vw_C, cls4[ci]? = some q ∧ q.1 = y.cls) ∧ Cond.selects y.cls y y ∈ WS ∧ Cond.initialized y.cls ∈ WS ∧ Cond.code y cc' nL' ret ∈ WS ∧ (y.cls ≠ "java/lang/invoke/MethodHandle" ∧ y.cls ≠ "java/lang/invoke/VarHandle") ∧ (parseMethodDescriptor y.desc).map (fun d => d.parameters.length) = some n
def lkI (own : String) (i : Nat) (y : MethodName) (cc' : ByteArray) (nL' : Nat) (n : Nat) : Prop :=
  Cond.methodLink own i y ∈ WS ∧ Cond.instanceMethod y ∈ WS ∧ y.name = "<init>" ∧ Cond.initialized y.cls ∈ WS ∧ Cond.code y cc' nL' none ∈ WS ∧ (y.cls ≠ "java/lang/invoke/MethodHandle" ∧ y.cls ≠ "java/lang/invoke/VarHandle") ∧ (parseMethodDescriptor y.desc).map (fun d => d.parameters.length) = some n
theorem WS_pay {args : Array Value} {s : State} {c : Cond} (h : ∀ w ∈ WS, w.before args s = true) (hc : c ∈ WS) : ∀ w ∈ c :: WS, ∀ (a' : Array Value) (U : State), s.WarmedH U.vm → w.before a' U = true := by
  intro w hw a' U hW
  have hm : w ∈ WS := by
    rcases List.mem_cons.mp hw with e | e
    · rw [e]; exact hc
    · exact e
  exact word_at hW (good_of_word (List.mem_filter.mp hm).2) (h w hm)
theorem Pw_blind {D : va_G} {z0 : Nat} {h : Hp} {As : List Value} : FrameBlind (va_Pc As (Pw D z0 h)) := by
  rintro a U g mk ⟨h1, h2, h3⟩
  exact ⟨h1, h2, Fx_calling h3 g mk a⟩
/-- behind a call -/
theorem r_run {mc ms : Nat} {rest : List Value} {Φ : Option Value → Hp → Prop} {Ψ : String → Hp → Prop} {a : Array Value}
    {p : Program} {l : Launch} {e : Env} {R : Room} {s : State} {m : MethodId} {args : Array Value} {below : List Frame} {meth : Method} {c : Code} {Q : State → Prop} {H : Heap} {locs : List Loc} {cells slots : Nat} {ls : Array Slot}
    (hr : vx_Run p l e R s m args below meth c H locs cells slots mc ms (F0 m pc ls st) rest (QQ D z0 Φ a) (XX D z0 Ψ) (Fr z0))
    (h1 : cells ≤ kc) (h2 : slots ≤ ks) (h4 : va_S (Fr z0) s.heap H locs) (h5 : lv_has ls nL L)
    (kk : ∀ (v : Option Value) (h' : Hp), Φ v h' → WW (p, l, e, R, s, m, args, below, meth, c, Q) D z0 nL h' (kc + mc) (ks + ms) (pc + 3) L (v.toList ++ rest))
    (kx : ∀ (E : String) (h' : Hp), Ψ E h' → WX (p, l, e, R, s, m, args, below, meth, c, Q) D z0 nL h' (kc + mc) (ks + ms) pc L rest E) : W p l e R s m args below meth c H locs cells slots Q (F0 m pc ls st) := by
  intro T hT X
  rcases hr T hT X with ⟨v, st₀, t, T', L1, h0, X', hL, e1, e2, ⟨⟨v', h', hv, hp, hb⟩, hF⟩, st⟩ | ⟨q, st₀, t, T', L1, E, ce, h0, X', hL, e1, e2, ⟨⟨h', hp, hb⟩, hF⟩, hce, hcv, hcl, st⟩
  · cases hv
    obtain ⟨k1, k2, k3⟩ := vx_keep (A0 := Fr z0) (free := Fr z0) h0 e1 h4 (fun _ _ z => z) (fun _ z => z) hL hF
    obtain ⟨t2, a1, b1⟩ := kk v h' hp T'.heap (locs ++ L1) (cells + mc) (slots + ms) ls (by omega) (by omega) (by rw [e1]; exact hb) k3 h5 T' rfl X'
    exact ⟨t2, st t2 a1, b1⟩
  · obtain ⟨k1, k2, k3⟩ := vx_keep (A0 := Fr z0) (free := Fr z0) h0 e1 h4 (fun _ _ z => z) (fun _ z => z) hL hF
    obtain ⟨t2, a1, b1⟩ := kx E h' hp T'.heap (locs ++ L1) (cells + mc) (slots + ms) ls q ce (by omega) (by omega) (by rw [e1]; exact hb) k3 h5 (by rw [e1]; exact hce) hcv hcl T' rfl X'
    exact ⟨t2, st.trans a1, b1⟩
theorem r_callS {y : MethodName} {cc' : ByteArray} {nL' n : Nat} {ret : Option FieldType} {rm' : Room} {As : List Value} {Φ : Option Value → Hp → Prop} {Ψ : String → Hp → Prop} (X : CX K D z0 cc nL own rm) {i : Nat} (d : decode cc pc = .ok (.invokestatic i, 3)) (lk : lkS own i y cc' nL' ret n)
    (C : CC K.2.1 y cc' nL' ret rm' D z0 h As Φ Ψ) (rest : List Value) (hst : st = As.reverse ++ rest) (hn : As.length = n) (hw : (rest.map fun v => v.category).sum ≤ 8) (hroom : rm'.frames + 1 ≤ rm.frames ∧ 8 + (nL' + 11) + rm'.locals ≤ rm.locals) (hf : kc + rm'.cells ≤ rm.cells ∧ ks + rm'.slots ≤ rm.slots)
    (kx : ∀ (E : String) (h' : Hp), Ψ E h' → WX K D z0 nL h' (kc + rm'.cells) (ks + rm'.slots) pc L rest E)
    (kk : ∀ (v : Option Value) (h' : Hp), Φ v h' → WW K D z0 nL h' (kc + rm'.cells) (ks + rm'.slots) (pc + 3) L (v.toList ++ rest)) : WW K D z0 nL h kc ks pc L st := by
  obtain ⟨p, l, e, R, s, m, args, below, meth, c, Q⟩ := K
  obtain ⟨hx, hb, hml, hown, hts, hl, hlk, hF, hR⟩ := X
  subst hR
  obtain ⟨l1, l2, l3, l4, l5, l6⟩ := lk
  intro H locs cells slots ls h1 h2 h3 h4 h5
  refine r_run (vx_runS (nL := nL) (Ts := WS) (own := own) (n := n) ⟨hx, hb, hml, hown, hts⟩ C ⟨⟨rfl, rfl, hroom.1, hroom.2, WS_pay hts l4, List.mem_cons_self, hts _ l4, hts _ l3, l5, fun sig hs => ?_, hts _ l1⟩, hts _ l2⟩
    ⟨Pw_blind, fun U hU hW => ⟨rfl, by rw [hU]; exact h3, Fx_call hF h4 hU hW⟩⟩ rfl hn h5.1 hst (lv_room hw) d ⟨by omega, by omega⟩) h1 h2 h4 h5 kk kx
  rw [hs] at l6
  exact (Option.some.inj l6).symm
theorem r_callV {y : MethodName} {cc' : ByteArray} {nL' n : Nat} {ret : Option FieldType} {rm' : Room} {As : List Value} {Φ : Option Value → Hp → Prop} {Ψ : String → Hp → Prop} (X : CX K D z0 cc nL own rm) {i ci : Nat} (d : decode cc pc = .ok (.invokevirtual i, 3)) (lk : lkV own i ci y cc' nL' ret n)
    {b : Nat} {fs : List Value} (hb0 : h b = some (ob ci fs)) (C : CC K.2.1 y cc' nL' ret rm' D z0 h (.ref b :: As) Φ Ψ) (rest : List Value) (hst : st = As.reverse ++ .ref b :: rest) (hn : As.length = n) (hw : (rest.map fun v => v.category).sum ≤ 8) (hroom : rm'.frames + 1 ≤ rm.frames ∧ 8 + (nL' + 11) + rm'.locals ≤ rm.locals) (hf : kc + rm'.cells ≤ rm.cells ∧ ks + rm'.slots ≤ rm.slots)
    (kx : ∀ (E : String) (h' : Hp), Ψ E h' → WX K D z0 nL h' (kc + rm'.cells) (ks + rm'.slots) pc L rest E)
    (kk : ∀ (v : Option Value) (h' : Hp), Φ v h' → WW K D z0 nL h' (kc + rm'.cells) (ks + rm'.slots) (pc + 3) L (v.toList ++ rest)) : WW K D z0 nL h kc ks pc L st := by
  obtain ⟨p, l, e, R, s, m, args, below, meth, c, Q⟩ := K
  obtain ⟨hx, hb, hml, hown, hts, hl, hlk, hF, hR⟩ := X
  subst hR
  obtain ⟨l1, l2, ⟨q, hq1, hq2⟩, l3, l4, l5, l6, l7⟩ := lk
  intro H locs cells slots ls h1 h2 h3 h4 h5
  have hrecv := va_recv hF.1 (Hd_get h3 hb0) (ci := ci) (q0 := 0) (fs := fs) hq1 rfl
  rw [hq2] at hrecv
  refine r_run (vx_runV (nL := nL) (Ts := WS) (own := own) (C := y.cls) (n := n) ⟨hx, hb, hml, hown, hts⟩ C ⟨⟨rfl, rfl, hroom.1, hroom.2, WS_pay hts l5, List.mem_cons_self, hts _ l5, hts _ l4, l6, fun sig hs => ?_, hts _ l1⟩, hts _ l2, hts _ l3⟩
    ⟨Pw_blind, hrecv, fun U hU hW => ⟨rfl, by rw [hU]; exact h3, Fx_call hF h4 hU hW⟩⟩ rfl hn h5.1 hst (lv_room hw) d ⟨by omega, by omega⟩) h1 h2 h4 h5 kk kx
  rw [hs] at l7
  exact (Option.some.inj l7).symm
theorem vx_runI0 {p : Program} {l : Launch} {e : Env} {R : Room} {s : State} {m : MethodId} {args : Array Value} {below : List Frame} {meth : Method} {c : Code} {H : Heap} {locs : List Loc} {cells slots : Nat}
    {y : MethodName} {bytes cc : ByteArray} {maxL nL mc ms n index : Nat} {ws : List Cond} {rm : Room} {Pc : Array Value → State → Prop} {Qc : Array Value → State → Outcome → State → Prop} {XC : String → State → State → Prop} {free : Addr → Prop} {Ts : List Cond} {own : String} {b : Addr} {As rest : List Value} {g : JFrame} (hM : Met l y ws rm Pc Qc mc ms free)
    (S : CallFix p m c cc nL s args Ts own) (cw : CallB R s args own index y bytes maxL none ws rm mc ms n ∧ y.name = "<init>" ∧ (Cond.instanceMethod y).before args s = true) (hp : PreS s H Pc (.ref b :: As))
    (hg : g.method = m) (hn : As.length = n) (hsize : g.locals.size = nL) (hstack : g.stack = As.reverse ++ .ref b :: rest) (hW : 2 * g.monitorRoom + (rest.map fun v => v.category).sum ≤ 8) (hdg : decode cc g.pc = .ok (.invokespecial index, 3)) (hf : cells + mc ≤ R.cells ∧ slots + ms ≤ R.slots) :
    vx_Run p l e R s m args below meth c H locs cells slots mc ms g rest (Qc (Value.ref b :: As).toArray) XC free := by
  intro T hT X
  exact Or.inl (va_runI S hM cw hp hg hn hsize hstack hW hdg hf T hT X)
/-- a contract without a throw, as the kit has it -/
theorem CC_met {l : Launch} {y : MethodName} {cc : ByteArray} {nL : Nat} {ret : Option FieldType} {rm : Room} {D : va_G} {z0 : Nat} {h : Hp} {As : List Value} {Φ : Option Value → Hp → Prop}
    (C : CC l y cc nL ret rm D z0 h As Φ (fun _ _ => False)) : Met l y (Cond.code y cc nL ret :: WS) rm (va_Pc As (Pw D z0 h)) (QQ D z0 Φ) rm.cells rm.slots (Fr z0) := by
  have key : ∀ a st o t, vx_Q (QQ D z0 Φ) (XX D z0 fun _ _ => False) rm.cells rm.slots (Fr z0) a st o t → (QQ D z0 Φ a st o t ∧ ∃ L, FrameEnd st o t L rm.cells rm.slots ∧ ∀ q ∈ L, Fr z0 q.base) := by
    intro a st o t hq
    rcases hq with hq | ⟨q, ho, E, ce, L, ⟨⟨h', hh, -⟩, -⟩, -⟩
    · exact hq
    · exact hh.elim
  have e : vx_Q (QQ D z0 Φ) (XX D z0 fun _ _ => False) rm.cells rm.slots (Fr z0) = fun a st o t => (QQ D z0 Φ a st o t ∧ ∃ L, FrameEnd st o t L rm.cells rm.slots ∧ ∀ q ∈ L, Fr z0 q.base) := by
    funext a st o t
    exact propext ⟨key a st o t, Or.inl⟩
  unfold CC vx_Met at C
  unfold Met
  rw [e] at C
  exact C
theorem r_callI {y : MethodName} {cc' : ByteArray} {nL' n : Nat} {rm' : Room} {As : List Value} {Φ : Option Value → Hp → Prop} (X : CX K D z0 cc nL own rm) {i : Nat} (d : decode cc pc = .ok (.invokespecial i, 3)) (lk : lkI own i y cc' nL' n)
    {b : Nat} (C : CC K.2.1 y cc' nL' none rm' D z0 h (.ref b :: As) Φ (fun _ _ => False)) (rest : List Value) (hst : st = As.reverse ++ .ref b :: rest) (hn : As.length = n) (hw : (rest.map fun v => v.category).sum ≤ 8) (hroom : rm'.frames + 1 ≤ rm.frames ∧ 8 + (nL' + 11) + rm'.locals ≤ rm.locals) (hf : kc + rm'.cells ≤ rm.cells ∧ ks + rm'.slots ≤ rm.slots)
    (kk : ∀ (v : Option Value) (h' : Hp), Φ v h' → WW K D z0 nL h' (kc + rm'.cells) (ks + rm'.slots) (pc + 3) L (v.toList ++ rest)) : WW K D z0 nL h kc ks pc L st := by
  obtain ⟨p, l, e, R, s, m, args, below, meth, c, Q⟩ := K
  obtain ⟨hx, hb, hml, hown, hts, hl, hlk, hF, hR⟩ := X
  subst hR
  obtain ⟨l1, l2, l3, l4, l5, l6, l7⟩ := lk
  intro H locs cells slots ls h1 h2 h3 h4 h5
  refine r_run (Ψ := fun _ _ => False) (vx_runI0 (nL := nL) (Ts := WS) (own := own) (n := n) (CC_met C) ⟨hx, hb, hml, hown, hts⟩ ⟨⟨rfl, rfl, hroom.1, hroom.2, WS_pay hts l5, List.mem_cons_self, hts _ l5, hts _ l4, l6, fun sig hs => ?_, hts _ l1⟩, l3, hts _ l2⟩
    ⟨Pw_blind, fun U hU hW => ⟨rfl, by rw [hU]; exact h3, Fx_call hF h4 hU hW⟩⟩ rfl hn h5.1 hst (lv_room hw) d ⟨by omega, by omega⟩) h1 h2 h4 h5 kk (fun _ _ z => z.elim)
  rw [hs] at l7
  exact (Option.some.inj l7).symm
/-- Object's own constructor -/
theorem r_objInit (X : CX K D z0 cc nL own rm) {i : Nat} (d : decode cc pc = .ok (.invokespecial i, 3)) (k1 : Cond.methodLink own i objectInit ∈ WS) (k2 : Cond.instanceMethod objectInit ∈ WS) (k3 : Cond.code objectInit ⟨#[0xb1]⟩ 1 none ∈ WS) {a : Nat} (hw : (st.map fun v => v.category).sum ≤ 8) (hroom : 1 ≤ rm.frames ∧ 20 ≤ rm.locals) (kk : WW K D z0 nL h kc ks (pc + 3) L st) : WW K D z0 nL h kc ks pc L (.ref a :: st) := by
  obtain ⟨p, l, e, R, s, m, args, below, meth, c, Q⟩ := K
  obtain ⟨hx, hb, hml, hown, hts, hl, hlk, hF, hR⟩ := X
  subst hR
  intro H locs cells slots ls h1 h2 h3 h4 h5
  exact W.objInit hx hb hown (hts _ k1) (hts _ k2) (hts _ k3) (g := F0 m pc ls (.ref a :: st)) rfl (by rw [hml]; exact h5.1) rfl d hroom.1 (by show 2 * 0 + _ + 12 ≤ _; omega) (kk H locs cells slots ls h1 h2 h3 h4 h5)
/-! what is thrown: 'throw new E(text)' -/
abbrev xns : List String := ["java/lang/RuntimeException", "java/lang/Exception"]
theorem r_throwS {Φ : Option Value → Hp → Prop} {Ψ : String → Hp → Prop} {mc ms : Nat} {ret : Option FieldType} (X : CX K D z0 cc nL own rm) (Y : EX K D z0 ret Φ Ψ mc ms) (Z : NT K) {ik is ic : Nat} {E text : String}
    (d0 : decode cc pc = .ok (.new ik, 3)) (d3 : decode cc (pc + 3) = .ok (.dup, 1)) (d4 : decode cc (pc + 4) = .ok (.ldc is, 2)) (d6 : decode cc (pc + 6) = .ok (.invokespecial ic, 3)) (d9 : decode cc (pc + 9) = .ok (.athrow, 1))
    (hE : Bundle.fit E = true) (k1 : Cond.classLink own ik E ∈ WS) (k2 : Cond.initialized E ∈ WS) (hs : (own, is, text) ∈ strs) (hat : ∀ w ∈ vx_atS own ic E xns, w ∈ WS ∨ (∃ q ∈ nwC, w = .castable q.1 q.2) ∨ (∃ q ∈ nwD, w = .declares q))
    (hw : (st.map fun v => v.category).sum ≤ 8) (hr : 6 ≤ rm.frames ∧ 90 ≤ rm.locals ∧ kc + 1 ≤ rm.cells ∧ ks + 6 ≤ rm.slots) (r1 : kc + 1 ≤ mc) (r2 : ks + 6 ≤ ms) (hq : Ψ E h) : WW K D z0 nL h kc ks pc L st := by
  obtain ⟨p, l, e, R, s, m, args, below, meth, c, Q⟩ := K
  obtain ⟨hx, hb, hml, hown, hts, hl, hlk, hF, hR⟩ := X
  obtain ⟨hret, rfl⟩ := Y
  subst hR
  obtain ⟨sa, hsa⟩ := hF.2.2.2.1 _ hs
  intro H locs cells slots ls h1 h2 h3 h4 h5
  have hat1 : ∀ w ∈ vx_atS own ic E xns, w.before args s = true := by
    intro w hw9
    rcases hat w hw9 with z | ⟨q, hq9, rfl⟩ | ⟨q, hq9, rfl⟩
    · exact hts w z
    · exact va_Nw.use rfl (hF.2.2.2.2.2.2.2.1 q hq9)
    · exact va_Nw.use rfl (hF.2.2.2.2.2.2.2.2 q hq9)
  have hot : ∀ w ∈ vx_atS own ic E xns, vx_ot w = true := by
    intro w hw9
    rcases hat w hw9 with z | ⟨q, hq9, rfl⟩ | ⟨q, hq9, rfl⟩
    · unfold vx_ot; rw [(List.mem_filter.mp z).2]; simp
    · rfl
    · rfl
  refine vx_throwS (A := Fr z0) (names := xns) hx hb hl hown hE (by decide) (hts _ k1) (hts _ k2) hsa hat1 (fun w hw9 => ?_) hF.2.1 hF.2.2.1 h4 (by rw [hml]; exact h5.1) d0 d3 d4 d6 d9 (fun x hx9 => (Z x hx9).elim)
    (by show 2 + 3 < _; omega) (by show _ + (13 * (2 + 1) + 43) ≤ _; omega) (by omega) (by omega) hlk (fun t hvm hsz hk => ⟨⟨h, hq, Hd_grow h3 (fun q hq9 => hk q hq9)⟩, ?_⟩) h4.2.2 (by omega) (by omega)
  · rcases List.mem_cons.mp hw9 with rfl | hw9
    · rfl
    · rcases List.mem_cons.mp hw9 with rfl | hw9
      · rfl
      · exact hot w hw9
  · exact ⟨Nat.le_trans h4.1 hsz, fun q y1 y2 => (hk q (Nat.lt_of_lt_of_le y1 h4.1)).trans (h4.2.1 q y1 y2)⟩
/-! the commonest callee: an answer, the heap as it was -/
def PV (r : Value) (h : Hp) : Option Value → Hp → Prop := fun v h' => v = some r ∧ h' = h
def NX : String → Hp → Prop := fun _ _ => False
theorem r_callS_v {y : MethodName} {cc' : ByteArray} {nL' n kc' ks' : Nat} {ret : Option FieldType} {rm' : Room} {As : List Value} {r : Value} (X : CX K D z0 cc nL own rm) {i : Nat} (d : decode cc pc = .ok (.invokestatic i, 3)) (lk : lkS own i y cc' nL' ret n)
    (C : CC K.2.1 y cc' nL' ret rm' D z0 h As (PV r h) NX) (rest : List Value) (hst : st = As.reverse ++ rest) (hn : As.length = n) (hw : (rest.map fun v => v.category).sum ≤ 8) (hroom : rm'.frames + 1 ≤ rm.frames ∧ 8 + (nL' + 11) + rm'.locals ≤ rm.locals) (e1 : kc + rm'.cells = kc') (e2 : ks + rm'.slots = ks') (hf : kc' ≤ rm.cells ∧ ks' ≤ rm.slots)
    (kk : WW K D z0 nL h kc' ks' (pc + 3) L (r :: rest)) : WW K D z0 nL h kc ks pc L st := by
  subst e1; subst e2
  refine r_callS X d lk C rest hst hn hw hroom hf (fun _ _ z => z.elim) (fun v h' hv => ?_)
  obtain ⟨rfl, rfl⟩ := hv
  exact kk
theorem r_callV_v {y : MethodName} {cc' : ByteArray} {nL' n kc' ks' : Nat} {ret : Option FieldType} {rm' : Room} {As : List Value} {r : Value} (X : CX K D z0 cc nL own rm) {i ci : Nat} (d : decode cc pc = .ok (.invokevirtual i, 3)) (lk : lkV own i ci y cc' nL' ret n)
    {b : Nat} {fs : List Value} (hb0 : h b = some (ob ci fs)) (C : CC K.2.1 y cc' nL' ret rm' D z0 h (.ref b :: As) (PV r h) NX) (rest : List Value) (hst : st = As.reverse ++ .ref b :: rest) (hn : As.length = n) (hw : (rest.map fun v => v.category).sum ≤ 8) (hroom : rm'.frames + 1 ≤ rm.frames ∧ 8 + (nL' + 11) + rm'.locals ≤ rm.locals) (e1 : kc + rm'.cells = kc') (e2 : ks + rm'.slots = ks') (hf : kc' ≤ rm.cells ∧ ks' ≤ rm.slots)
    (kk : WW K D z0 nL h kc' ks' (pc + 3) L (r :: rest)) : WW K D z0 nL h kc ks pc L st := by
  subst e1; subst e2
  refine r_callV X d lk hb0 C rest hst hn hw hroom hf (fun _ _ z => z.elim) (fun v h' hv => ?_)
  obtain ⟨rfl, rfl⟩ := hv
  exact kk
theorem CX_l (X : CX K D z0 cc nL own rm) : K.2.1.stackTraces = false := by
  obtain ⟨p, l, e, R, s, m, args, below, meth, c, Q⟩ := K
  exact X.2.2.2.2.2.1
theorem r_throwSW {Φ : Option Value → Hp → Prop} {Ψ : String → Hp → Prop} {mc ms : Nat} {ret : Option FieldType} (X : CX K D z0 cc nL own rm) (Y : EX K D z0 ret Φ Ψ mc ms) (Z : NT K) {ik is ic : Nat} {E text : String}
    (d0 : decode cc pc = .ok (.new ik, 3)) (d3 : decode cc (pc + 3) = .ok (.dup, 1)) (d4 : decode cc (pc + 4) = .ok (.ldc_w is, 3)) (d6 : decode cc (pc + 7) = .ok (.invokespecial ic, 3)) (d9 : decode cc (pc + 10) = .ok (.athrow, 1))
    (hE : Bundle.fit E = true) (k1 : Cond.classLink own ik E ∈ WS) (k2 : Cond.initialized E ∈ WS) (hs : (own, is, text) ∈ strs) (hat : ∀ w ∈ vx_atS own ic E xns, w ∈ WS ∨ (∃ q ∈ nwC, w = .castable q.1 q.2) ∨ (∃ q ∈ nwD, w = .declares q))
    (hw : (st.map fun v => v.category).sum ≤ 8) (hr : 6 ≤ rm.frames ∧ 90 ≤ rm.locals ∧ kc + 1 ≤ rm.cells ∧ ks + 6 ≤ rm.slots) (r1 : kc + 1 ≤ mc) (r2 : ks + 6 ≤ ms) (hq : Ψ E h) : WW K D z0 nL h kc ks pc L st := by
  obtain ⟨p, l, e, R, s, m, args, below, meth, c, Q⟩ := K
  obtain ⟨hx, hb, hml, hown, hts, hl, hlk, hF, hR⟩ := X
  obtain ⟨hret, rfl⟩ := Y
  subst hR
  obtain ⟨sa, hsa⟩ := hF.2.2.2.1 _ hs
  intro H locs cells slots ls h1 h2 h3 h4 h5
  have hat1 : ∀ w ∈ vx_atS own ic E xns, w.before args s = true := by
    intro w hw9
    rcases hat w hw9 with z | ⟨q, hq9, rfl⟩ | ⟨q, hq9, rfl⟩
    · exact hts w z
    · exact va_Nw.use rfl (hF.2.2.2.2.2.2.2.1 q hq9)
    · exact va_Nw.use rfl (hF.2.2.2.2.2.2.2.2 q hq9)
  have hot : ∀ w ∈ vx_atS own ic E xns, vx_ot w = true := by
    intro w hw9
    rcases hat w hw9 with z | ⟨q, hq9, rfl⟩ | ⟨q, hq9, rfl⟩
    · unfold vx_ot; rw [(List.mem_filter.mp z).2]; simp
    · rfl
    · rfl
  refine vx_throwSW (A := Fr z0) (names := xns) hx hb hl hown hE (by decide) (hts _ k1) (hts _ k2) hsa hat1 (fun w hw9 => ?_) hF.2.1 hF.2.2.1 h4 (by rw [hml]; exact h5.1) d0 d3 d4 d6 d9 (fun x hx9 => (Z x hx9).elim)
    (by show 2 + 3 < _; omega) (by show _ + (13 * (2 + 1) + 43) ≤ _; omega) (by omega) (by omega) hlk (fun t hvm hsz hk => ⟨⟨h, hq, Hd_grow h3 (fun q hq9 => hk q hq9)⟩, ?_⟩) h4.2.2 (by omega) (by omega)
  · rcases List.mem_cons.mp hw9 with rfl | hw9
    · rfl
    · rcases List.mem_cons.mp hw9 with rfl | hw9
      · rfl
      · exact hot w hw9
  · exact ⟨Nat.le_trans h4.1 hsz, fun q y1 y2 => (hk q (Nat.lt_of_lt_of_le y1 h4.1)).trans (h4.2.1 q y1 y2)⟩
end Rows2
