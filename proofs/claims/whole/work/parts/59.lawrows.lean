/-! methods with handlers of their own; the law's own body -/
theorem CC_mono {l : Launch} {y : MethodName} {cc : ByteArray} {nL : Nat} {ret : Option FieldType} {rm : Room} {D : va_G} {z0 : Nat} {h : Hp} {As : List Value} {Φ Φ' : Option Value → Hp → Prop} {Ψ Ψ' : String → Hp → Prop} (C : CC l y cc nL ret rm D z0 h As Φ Ψ) (h1 : ∀ v h', Φ v h' → Φ' v h') (h2 : ∀ E h', Ψ E h' → Ψ' E h') : CC l y cc nL ret rm D z0 h As Φ' Ψ' := by
  unfold CC vx_Met at C ⊢
  refine MetFree.mono C (fun _ _ z => z) (fun _ _ _ _ _ z => z) (fun a s o t _ z => ?_)
  rcases z with ⟨⟨⟨v, h', e1, e2, e3⟩, e4⟩, e5⟩ | ⟨q, e1, E, ce, L, ⟨⟨h', e2, e3⟩, e4⟩, e5⟩
  · exact Or.inl ⟨⟨⟨v, h', e1, h1 v h' e2, e3⟩, e4⟩, e5⟩
  · exact Or.inr ⟨q, e1, E, ce, L, ⟨⟨h', h2 E h' e2, e3⟩, e4⟩, e5⟩
/-- a contract of a method with handlers of its own: it always answers -/
def CH (l : Launch) (y : MethodName) (cc : ByteArray) (nL : Nat) (ret : Option FieldType) (hh : List (Nat × Nat × Nat × Nat)) (rm : Room) (D : va_G) (z0 : Nat) (h : Hp) (As : List Value) (Φ : Option Value → Hp → Prop) : Prop :=
  vx_Met l y (Cond.codeWith y cc nL ret hh :: WS) rm (va_Pc As (Pw D z0 h)) (QQ D z0 Φ) (XX D z0 NX) rm.cells rm.slots (Fr z0)
/-- the method's table -/
def TB : KT → List ExceptionTableEntry → Prop
  | (_, _, _, _, _, _, _, _, _, c, _), tb => c.exceptionTable.toList = tb
theorem CH_of {l : Launch} {y : MethodName} {cc : ByteArray} {nL : Nat} {ret : Option FieldType} {hh : List (Nat × Nat × Nat × Nat)} {rm : Room} {D : va_G} {z0 : Nat} {h : Hp} {As : List Value} {Φ : Option Value → Hp → Prop}
    (own : String) (hl : l.stackTraces = false) (hy : plainName y.cls = true) (ho : y.cls = own) (hn : (lg_sl As).length ≤ nL)
    (body : ∀ K : KT, CX K D z0 cc nL own rm → EX K D z0 ret Φ NX rm.cells rm.slots → TB K (tableOf hh) → K.2.1 = l → WW K D z0 nL h 0 0 0 (lv_args 0 As) []) : CH l y cc nL ret hh rm D z0 h As Φ := by
  subst ho
  refine vx_ofWH (cc := cc) (maxL := nL) (ret := ret) (hh := hh) hy rfl ?_
  intro p e s m args below meth c s₁ B hml hv
  obtain ⟨rfl, hH, hF⟩ := hv
  have hts : ∀ w ∈ WS, w.before As.toArray s = true := fun w hw => atoms_spec (ws := Cond.codeWith y cc nL ret hh :: WS) B.pre w (List.mem_cons_of_mem _ hw)
  have htb : c.exceptionTable.toList = tableOf hh := vx_table (x := y) B (atoms_spec (ws := Cond.codeWith y cc nL ret hh :: WS) B.pre _ List.mem_cons_self)
  have key := body (p, l, e, rm, s, m, As.toArray, below, meth, c, vx_MQ below (QQ D z0 Φ) (XX D z0 NX) As.toArray s rm.cells rm.slots (Fr z0))
    ⟨B.exec, B.bytes, hml, findClass_of_methodNamed B.named, hts, hl, B.notSynchronized, hF, rfl⟩ ⟨B.returns, rfl⟩ htb rfl
  rw [lg_entry_eq]
  exact key s.heap [] 0 0 _ (Nat.le_refl 0) (Nat.le_refl 0) hH va_S.rf (lv_entry As hn)
section Rows4
variable {K : KT} {D : va_G} {z0 nL : Nat} {h : Hp} {kc ks pc : Nat} {L : List (Nat × Value)} {st : List Value} {cc : ByteArray} {own : String} {rm : Room}
/-- caught by the row x of the table -/
theorem WX_catch (X : CX K D z0 cc nL own rm) {tb : List ExceptionTableEntry} (T : TB K tb) {E : String} (pre : List ExceptionTableEntry) (x : ExceptionTableEntry) (suf : List ExceptionTableEntry) (hs : tb = pre ++ x :: suf)
    (hpass : ∀ z ∈ pre, z.catchType ≠ 0 ∧ ∃ nm : String, Cond.classLink own z.catchType nm ∈ WS ∧ (E, nm) ∈ ncs) (hx : covers x pc = true) (h0 : x.catchType ≠ 0) (hl : Cond.classLink own x.catchType E ∈ WS) (hc : (E, E) ∈ nwC)
    (kk : ∀ q : Nat, WW K D z0 nL h kc ks x.handlerPc L [.ref q]) : WX K D z0 nL h kc ks pc L st E := by
  obtain ⟨p, l, e, R, s, m, args, below, meth, c, Q⟩ := K
  obtain ⟨hx9, hb, hml, hown, hts, hl9, hlk, hF, hR⟩ := X
  intro H locs cells slots ls q ce h1 h2 h3 h4 h5 h6 h7 h8
  exact vx_catch hown pre x suf ((show c.exceptionTable.toList = tb from T).trans hs) (fun z hz => Or.inr ⟨(hpass z hz).1, by
    obtain ⟨nm, y1, y2⟩ := (hpass z hz).2
    exact ⟨nm, hts _ y1, hF.2.2.2.2.1 _ y2⟩⟩) hx h0 (hts _ hl) (va_Nw.use rfl (hF.2.2.2.2.2.2.2.1 _ hc)) h6 h7 h8 (kk q H locs cells slots ls h1 h2 h3 h4 h5)
/-- a call of a static method with handlers of its own -/
theorem r_callH {y : MethodName} {cc' : ByteArray} {nL' n : Nat} {ret : Option FieldType} {hh : List (Nat × Nat × Nat × Nat)} {rm' : Room} {As : List Value} {Φ : Option Value → Hp → Prop} (X : CX K D z0 cc nL own rm) {i : Nat} (d : decode cc pc = .ok (.invokestatic i, 3)) (lk : lkH own i y cc' nL' ret hh n)
    (C : CH K.2.1 y cc' nL' ret hh rm' D z0 h As Φ) (rest : List Value) (hst : st = As.reverse ++ rest) (hn : As.length = n) (hw : (rest.map fun v => v.category).sum ≤ 8) (hroom : rm'.frames + 1 ≤ rm.frames ∧ 8 + (nL' + 11) + rm'.locals ≤ rm.locals) (hf : kc + rm'.cells ≤ rm.cells ∧ ks + rm'.slots ≤ rm.slots)
    (kk : ∀ (v : Option Value) (h' : Hp), Φ v h' → WW K D z0 nL h' (kc + rm'.cells) (ks + rm'.slots) (pc + 3) L (v.toList ++ rest)) : WW K D z0 nL h kc ks pc L st := by
  obtain ⟨p, l, e, R, s, m, args, below, meth, c, Q⟩ := K
  obtain ⟨hx, hb, hml, hown, hts, hl, hlk, hF, hR⟩ := X
  subst hR
  obtain ⟨l1, l2, l3, l4, l5, l6⟩ := lk
  intro H locs cells slots ls h1 h2 h3 h4 h5
  refine r_run (Ψ := NX) (vx_runSX (hh := hh) (nL := nL) (Ts := WS) (own := own) (n := n) ⟨hx, hb, hml, hown, hts⟩ C ⟨⟨rfl, rfl, hroom.1, hroom.2, WS_pay hts l4, List.mem_cons_self⟩, hts _ l4, hts _ l3, l5, fun sig hs => ?_, hts _ l1, hts _ l2⟩
    ⟨Pw_blind, fun U hU hW => ⟨rfl, by rw [hU]; exact h3, Fx_call hF h4 hU hW⟩⟩ rfl hn h5.1 hst (lv_room hw) d ⟨by omega, by omega⟩) h1 h2 h4 h5 kk (fun _ _ z => z.elim)
  rw [hs] at l6
  exact (Option.some.inj l6).symm
/-- a double beside itself -/
def cm64 (x : UInt64) : Int := (Op.cmpValue (FP.dcmp x x) CmpOp.l).toInt
def cm32 (x : UInt32) : Int := (Op.cmpValue (FP.fcmp x x) CmpOp.l).toInt
theorem i32_toI (a : Int32) : I32 a.toInt := ⟨Int32.le_toInt a, Int32.toInt_lt a⟩
theorem iv_toI (a : Int32) : iv a.toInt = .int a := by
  unfold iv
  rw [Int32.ofInt_toInt]
theorem r_dcmpS (X : CX K D z0 cc nL own rm) (d : decode cc pc = .ok (.dcmp .l, 1)) {x : UInt64} (kk : WW K D z0 nL h kc ks (pc + 1) L (iv (cm64 x) :: st)) : WW K D z0 nL h kc ks pc L (.double x :: .double x :: st) := by
  obtain ⟨p, l, e, R, s, m, args, below, meth, c, Q⟩ := K
  obtain ⟨hx, hb, hml, hown, hts, hl, hlk, hF, hR⟩ := X
  intro H locs cells slots ls h1 h2 h3 h4 h5
  unfold cm64 at kk
  rw [iv_toI] at kk
  exact lv_dcmp hx hb d (kk H locs cells slots ls h1 h2 h3 h4 h5)
theorem r_fcmpS (X : CX K D z0 cc nL own rm) (d : decode cc pc = .ok (.fcmp .l, 1)) {x : UInt32} (kk : WW K D z0 nL h kc ks (pc + 1) L (iv (cm32 x) :: st)) : WW K D z0 nL h kc ks pc L (.float x :: .float x :: st) := by
  obtain ⟨p, l, e, R, s, m, args, below, meth, c, Q⟩ := K
  obtain ⟨hx, hb, hml, hown, hts, hl, hlk, hF, hR⟩ := X
  intro H locs cells slots ls h1 h2 h3 h4 h5
  unfold cm32 at kk
  rw [iv_toI] at kk
  exact lv_fcmp hx hb d (kk H locs cells slots ls h1 h2 h3 h4 h5)
/-- the script: N whole numbers xs at the cell b, older than z0 -/
def SX : KT → Nat → Nat → Nat → (Nat → Int32) → Prop
  | (_, _, _, _, s, _, _, _, _, _, _), z0, b, N, xs => va_X b N xs s s.heap ∧ b < s.heap.size ∧ z0 = s.heap.size ∧ N < 100000
theorem r_slen (X : CX K D z0 cc nL own rm) {b N : Nat} {xs : Nat → Int32} (S : SX K z0 b N xs) (d : decode cc pc = .ok (.arraylength, 1)) (kk : WW K D z0 nL h kc ks (pc + 1) L (iv (N : Int) :: st)) : WW K D z0 nL h kc ks pc L (.ref b :: st) := by
  obtain ⟨p, l, e, R, s, m, args, below, meth, c, Q⟩ := K
  obtain ⟨hx, hb, hml, hown, hts, hl, hlk, hF, hR⟩ := X
  obtain ⟨s1, s2, s3, s4⟩ := S
  subst s3
  intro H locs cells slots ls h1 h2 h3 h4 h5
  have e9 : iv (N : Int) = .int (Int32.ofNat N) := rfl
  rw [e9] at kk
  exact va_slen hx hb s1 s2 (fun z => absurd z (Nat.not_le.mpr s2)) h4 d (kk H locs cells slots ls h1 h2 h3 h4 h5)
theorem r_sld (X : CX K D z0 cc nL own rm) {b N : Nat} {xs : Nat → Int32} (S : SX K z0 b N xs) (d : decode cc pc = .ok (.iaload, 1)) {i v : Int} (hi : 0 ≤ i ∧ i < N) (hv : v = (xs i.toNat).toInt) (kk : WW K D z0 nL h kc ks (pc + 1) L (iv v :: st)) : WW K D z0 nL h kc ks pc L (iv i :: .ref b :: st) := by
  obtain ⟨p, l, e, R, s, m, args, below, meth, c, Q⟩ := K
  obtain ⟨hx, hb, hml, hown, hts, hl, hlk, hF, hR⟩ := X
  obtain ⟨s1, s2, s3, s4⟩ := S
  subst s3
  intro H locs cells slots ls h1 h2 h3 h4 h5
  rw [hv, iv_toI] at kk
  refine va_sld hx hb s1 s2 (fun z => absurd z (Nat.not_le.mpr s2)) h4 (i32_in hi (by omega)) d ?_
  rw [i32_clamp ⟨hi.1, by omega⟩]
  exact kk H locs cells slots ls h1 h2 h3 h4 h5
theorem r_swIn (X : CX K D z0 cc nL own rm) {dflt lo hi : Int} {offs : Array Int} {len : Nat} {a : Int} (off : Int) (tgt : Nat) (d : decode cc pc = .ok (.tableswitch dflt lo hi offs, len)) (ha : I32 a) (h1 : lo ≤ a) (h2 : a ≤ hi) (ho : offs[(a - lo).toNat]? = some off) (ht : (pc : Int) + off = (tgt : Int)) (kk : WW K D z0 nL h kc ks tgt L st) : WW K D z0 nL h kc ks pc L (iv a :: st) := by
  obtain ⟨p, l, e, R, s, m, args, below, meth, c, Q⟩ := K
  obtain ⟨hx, hb, hml, hown, hts, hl, hlk, hF, hR⟩ := X
  intro H locs cells slots ls z1 z2 z3 z4 z5
  exact lv_tableIn hx hb d (by rw [i32_toInt ha]; omega) (by rw [i32_toInt ha]; omega) (by rw [i32_toInt ha]; exact ho) ht (kk H locs cells slots ls z1 z2 z3 z4 z5)
theorem r_swOut (X : CX K D z0 cc nL own rm) {dflt lo hi : Int} {offs : Array Int} {len : Nat} {a : Int} (tgt : Nat) (d : decode cc pc = .ok (.tableswitch dflt lo hi offs, len)) (ha : I32 a) (h1 : a < lo ∨ hi < a) (ht : (pc : Int) + dflt = (tgt : Int)) (kk : WW K D z0 nL h kc ks tgt L st) : WW K D z0 nL h kc ks pc L (iv a :: st) := by
  obtain ⟨p, l, e, R, s, m, args, below, meth, c, Q⟩ := K
  obtain ⟨hx, hb, hml, hown, hts, hl, hlk, hF, hR⟩ := X
  intro H locs cells slots ls z1 z2 z3 z4 z5
  exact lv_tableOut hx hb d (by rw [i32_toInt ha]; exact h1) ht (kk H locs cells slots ls z1 z2 z3 z4 z5)
end Rows4
