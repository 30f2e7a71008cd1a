/-! THE CLAIM OUT OF ONE WALK OF THE LAW'S BODY. Your part is whole_start (and what it stands on); all else here is the same for every law, but numbers. -/
def R_law : String := "TrigonyardLaw"
def lw_P (b : Addr) (xs : List Int32) (args : Array Value) (s : State) : Prop := args = #[.ref b] ∧ s.IntsAt b xs ∧ xs.length ≤ 2560 ∧ (Jvm.Cond.and given_1 narrow_1).before args s = true
/-- what a walk over the start with the record d0 says of its end, said of the start itself -/
theorem lw_closed {s t : State} {o : Outcome} {d0 : Drawn} {L : List Loc} {k n : Nat} (hd0 : s.drawn.sameBut d0 lw_cs) (hv : ∃ v, o = .returned v) (hW : (s.setDrawn d0).WarmedH t.vm) (hs : (s.setDrawn d0).sameButNew ({ t with vm := s.vm } : State) L k n) : State.butDraws s t lw_cs (fun t1 => Framed s o t1 L k n) := by
  have h2 : t.drawn = d0 := congrArg State.drawn hs.1
  refine ⟨⟨hv, hW, State.sameButNew.setDrawn hs s.drawn⟩, ?_, by decide⟩
  rw [h2]
  exact hd0
def lw_Q (_ : Array Value) (s : State) (o : Outcome) (t : State) : Prop := o = .returned (some (.int 1)) ∧ State.butDraws s t lw_cs (fun t1 => Framed s o t1 [] 601024 7293034)
def lw_Z (below : List Frame) (a : Array Value) (s : State) : State → Prop := fun t => ∃ o, t.status = .running ∧ Ended t below o ∧ lw_Q a s o t
/-- the law's own end, with 1 on the stack, nothing written that was there before, its room as the claim has it; d0: the record of draws at this point (at the entry s.drawn: begin with 'refine W.base ?_' and 'have hd0 := Drawn.sameBut.refl s.drawn lw_cs') -/
theorem lw_ret {p : Program} {l : Launch} {e : Env} {s : State} {m : MethodId} {below : List Frame} {meth : Method} {c : Code} {b : Nat} {d0 : Drawn} (hd0 : s.drawn.sameBut d0 lw_cs) (hx : p.tables.exec = Jvm.exec) (hb : c.code = code) (hr : meth.sig.returnType = ret) (hlocks : meth.locks = false) {pc : Nat} {H : Heap} {ls : Array Slot} (hdg : decode code pc = .ok (.ireturn, 1)) : W p l e room_1 (s.setDrawn d0) m #[Value.ref b] below meth c H [] 601024 7293034 (lw_Z below #[Value.ref b] s) (F0 m pc ls [.int 1]) := by
  intro T hT X
  obtain ⟨fs, hret, hrun, hended, hW, hframe⟩ := X.leave (v := some (.int 1)) (hlocks := hlocks) (fun h => by rw [hr] at h; cases h)
  have hmeth' : T.vm.method? m = some meth := X.method'
  refine ⟨T.setFrames fs, ?_, .returned (some (.int 1)), hrun, hended, rfl, lw_closed hd0 ⟨_, rfl⟩ hW hframe⟩
  jvm_step X.here [X.here.top, hx, hb, hdg, hmeth', hr, ret, narrow_b1]
  (try refine ⟨rfl, ?_⟩); (try refine ⟨rfl, ?_⟩)
  first | (intro acts; rw [hret _ acts rfl rfl rfl]) | rw [hret _ _ rfl rfl rfl]
  exact Steps.refl _
/-- what holds at the law's entry: the machine, the code, the tables' words (any of lw_tbl by 'hts w (by decide +kernel)'), the script of L ints xs at the cell b, what the Statement gives of the start (any of its parts by flat_of_before) -/
def lw_At (p : Program) (s : State) (m : MethodId) (meth : Method) (c : Code) (b L : Nat) (xs : Nat → Int32) : Prop :=
  p.tables.exec = Jvm.exec ∧ c.code = code ∧ meth.sig.returnType = ret ∧ c.maxLocals = 10 ∧ s.vm.findClass R_law = some m.cls ∧ (∀ w ∈ lw_tbl, w.before #[Value.ref b] s = true) ∧ va_X b L xs s s.heap ∧ b < s.heap.size ∧ meth.locks = false ∧ (Jvm.Cond.and given_1 narrow_1).before #[Value.ref b] s = true
theorem kdT_y {D : va_G} {h : Hp} {x o my : Nat} {σ : Tg} {r : List Nat} {m : Nat} {od : Nat → Int} (hc : CS D h x o σ r m od) {fs : List Value} (hy : h my = some (ob 3 fs)) {q : Nat} {e : va_E} (hq : h q = some e) (hk : kdT e ∨ q = o) : q ≠ my := by
  intro z
  rw [z, hy] at hq
  cases hq
  rcases hk with (hk | hk) | hk
  · rcases hk with hk | hk | hk | hk <;> cases hk
  · cases hk
  · have := CS_o hc
    rw [← hk, z, hy] at this
    cases this
theorem law_start {K : KT} {D : va_G} {z0 : Nat} (X : CX K D z0 cL_law 10 RL room_1) {sb N : Nat} {xs : Nat → Int32} (S : SX K z0 sb N xs) (hN : N ≤ 2560) (fin : ∀ (h : Hp) (kc ks : Nat) (L : List (Nat × Value)), kc ≤ 601024 ∧ ks ≤ 7293034 → WW K D z0 10 h kc ks 2547 L []) : WW K D z0 10 (fun _ => none) 0 0 0 [(0, .ref sb)] [] := by
  refine r_new (ci := 0) (fs := [.null, .null, .null, .null, .null, iv 0]) X dL_law_0 _ rfl gL_8 inst_X6 init_X6 dft0 (Nat.le_of_ble_eq_true rfl) (Nat.le_of_ble_eq_true rfl) (fun ox hox _ => ?_)
  show WW K D z0 10 (hu (fun _ => none) ox (ob 0 [.null, .null, .null, .null, .null, iv 0])) 1 6 3 [(0, .ref sb)] [.ref ox]
  refine r_dup X dL_law_3 rfl ?_
  refine r_callI X dL_law_4 kL_131 (c_X6_init (CX_l X) D z0 (hu (fun _ => none) ox (ob 0 [.null, .null, .null, .null, .null, iv 0])) ox (hu_s _ _ _)) [.ref ox] rfl rfl (Nat.le_of_ble_eq_true rfl) (by decide) (by decide) (fun v9 h1 hv9 => ?_)
  obtain ⟨rfl, T, f, u, v, o, kf, ku, kv, hi1, hk1⟩ := hv9
  have hC := CS_ini hi1
  show WW K D z0 10 h1 9 236 7 [(0, .ref sb)] [.ref ox]
  refine r_astore_n (L' := [(1, .ref ox), (0, .ref sb)]) X dL_law_7 (by decide) rfl ?_
  refine r_new (ci := 3) (fs := [.null, .null, .null, .null, .null, .null, .null, iv 0, iv 0, iv 0, jv 0, jv 0, jv 0, iv 0]) X dL_law_8 _ rfl gL_132 inst_X7 init_X7 dft3 (Nat.le_of_ble_eq_true rfl) (Nat.le_of_ble_eq_true rfl) (fun my hmy _ => ?_)
  show WW K D z0 10 (hu h1 my (ob 3 [.null, .null, .null, .null, .null, .null, .null, iv 0, iv 0, iv 0, jv 0, jv 0, jv 0, iv 0])) 10 250 11 [(1, .ref ox), (0, .ref sb)] [.ref my]
  have hC1 := CS_ext hC (Ext_hu (e := ob 3 [.null, .null, .null, .null, .null, .null, .null, iv 0, iv 0, iv 0, jv 0, jv 0, jv 0, iv 0]) hmy)
  refine r_dup X dL_law_11 rfl ?_
  refine r_callI X dL_law_12 kL_134 (c_X7_init (CX_l X) D z0 (hu h1 my (ob 3 [.null, .null, .null, .null, .null, .null, .null, iv 0, iv 0, iv 0, jv 0, jv 0, jv 0, iv 0])) my (hu_s _ _ _)) [.ref my] rfl rfl (Nat.le_of_ble_eq_true rfl) (by decide) (by decide) (fun v9 h2 hv9 => ?_)
  obtain ⟨rfl, b0, b1, b2, b3, b4, b5, b6, hi2, hk2, n0, n1, n2, n3, n4, n5, n6⟩ := hv9
  have hM := MS_ini hi2
  have hC2 : CS D h2 ox o (fun _ => none) [] 0 (fun _ => 0) := CS_fr hC1 (fun q e hq hk => hk2 q e hq (kdT_y hC1 (hu_s _ _ _) hq hk))
  have hoo := CS_o hC1
  have ho : ∀ i, i < 7 → o ≠ (fun i => [b6, b5, b4, b3, b2, b1, b0].getD (6 - i) 0) i := by
    intro i hi z
    rw [z] at hoo
    match i, hi with
    | 0, _ => exact absurd (hoo.symm.trans n0) (Option.some_ne_none _)
    | 1, _ => exact absurd (hoo.symm.trans n1) (Option.some_ne_none _)
    | 2, _ => exact absurd (hoo.symm.trans n2) (Option.some_ne_none _)
    | 3, _ => exact absurd (hoo.symm.trans n3) (Option.some_ne_none _)
    | 4, _ => exact absurd (hoo.symm.trans n4) (Option.some_ne_none _)
    | 5, _ => exact absurd (hoo.symm.trans n5) (Option.some_ne_none _)
    | 6, _ => exact absurd (hoo.symm.trans n6) (Option.some_ne_none _)
    | k + 7, hk => omega
  show WW K D z0 10 h2 17 554 15 [(1, .ref ox), (0, .ref sb)] [.ref my]
  refine r_astore_n (L' := [(2, .ref my), (1, .ref ox), (0, .ref sb)]) X dL_law_15 (by decide) rfl ?_
  refine r_iconst X dL_law_16 ?_
  refine r_newJ (n := 1) X dL_law_17 arr_long (by decide) (Nat.le_of_ble_eq_true rfl) (Nat.le_of_ble_eq_true rfl) (fun ra hra _ => ?_)
  show WW K D z0 10 (hu h2 ra (aJ D 1 (fun _ => 0))) 18 555 19 [(2, .ref my), (1, .ref ox), (0, .ref sb)] [.ref ra]
  refine r_astore_n (L' := [(3, .ref ra), (2, .ref my), (1, .ref ox), (0, .ref sb)]) X dL_law_19 (by decide) rfl ?_
  refine r_iconst X dL_law_20 ?_
  refine r_newD (n := 1) X dL_law_21 arr_double (by decide) (Nat.le_of_ble_eq_true rfl) (Nat.le_of_ble_eq_true rfl) (fun rd hrd _ => ?_)
  show WW K D z0 10 (hu (hu h2 ra (aJ D 1 (fun _ => 0))) rd (aD D 1 (fun _ => 0))) 19 556 23 [(3, .ref ra), (2, .ref my), (1, .ref ox), (0, .ref sb)] [.ref rd]
  refine r_astore (L' := [(4, .ref rd), (3, .ref ra), (2, .ref my), (1, .ref ox), (0, .ref sb)]) X dL_law_23 (by decide) rfl ?_
  refine r_iconst X dL_law_25 ?_
  refine r_istore (L' := [(5, iv 0), (4, .ref rd), (3, .ref ra), (2, .ref my), (1, .ref ox), (0, .ref sb)]) X dL_law_26 (by decide) rfl ?_
  refine WW_sub (L' := [(5, iv 0), (0, .ref sb), (1, .ref ox), (2, .ref my), (3, .ref ra), (4, .ref rd)]) [0, 5, 4, 3, 2, 1] rfl ?_
  refine WW_room (show 19 ≤ 100 * 0 + 100 by omega) (show 556 ≤ 1000 * 0 + 1000 by omega) ?_
  exact law_loop X S hN fin 513 0 _ _ _ _ _ rfl ⟨CS_ext (CS_ext hC2 (Ext_hu hra)) (Ext_hu hrd), ⟨0, MSt_ext (MSt_ext hM (Ext_hu hra)) (Ext_hu hrd)⟩, ho, ⟨_, hu_new hrd (hu_s _ _ _)⟩, ⟨_, hu_s _ _ _⟩⟩ ⟨⟨Nat.zero_le _, fun a ha => absurd ha List.not_mem_nil⟩, Nat.zero_le _, fun i hi => absurd hi (Nat.not_lt_zero i)⟩
theorem whole_start {p : Program} {e : Env} {s : State} {m : MethodId} {below : List Frame} {meth : Method} {c : Code} (l : Launch) (hflags : l.flags = flags0) {b L : Nat} {xs : Nat → Int32} (hL : L ≤ 2560) (C0 : lw_At p s m meth c b L xs) : W p l e room_1 s m #[Value.ref b] below meth c s.heap [] 0 0 (lw_Z below #[Value.ref b] s) (entryFrame m ([Value.ref b] : List Value).toArray 10) := by
  obtain ⟨hx, hb, hr, hml, hown, hts, hX, hbl, hlocks, hgv⟩ := id C0
  have hst : l.stackTraces = false := by
    unfold Launch.stackTraces
    rw [hflags]
    decide +kernel
  obtain ⟨D, hF⟩ := Fx_start hts hgv
  have X : CX (p, l, e, room_1, s, m, #[Value.ref b], below, meth, c, lw_Z below #[Value.ref b] s) D s.heap.size cL_law 10 RL room_1 := ⟨hx, hb, hml, hown, fun w hw => hts w (List.mem_filter.mp hw).1, hst, hlocks, hF, rfl⟩
  have S : SX (p, l, e, room_1, s, m, #[Value.ref b], below, meth, c, lw_Z below #[Value.ref b] s) s.heap.size b L xs := ⟨hX, hbl, rfl, by omega⟩
  have key := law_start X S hL (fun h kc ks L9 hb9 => by
    intro H locs cells slots ls h1 h2 h3 h4 h5
    refine lv_iconst (v := 1) hx hb dL_law_2547 (by decide) ?_
    refine va_forget (fun q hq => h4.2.2 q hq) ?_
    refine W.widen (k := 601024) (n := 7293034) (by omega) (by omega) ?_
    refine W.base ?_
    exact lw_ret (Drawn.sameBut.refl s.drawn lw_cs) hx hb hr hlocks dL_law_2548)
  rw [lg_entry_eq]
  exact key s.heap [] 0 0 _ (Nat.le_refl 0) (Nat.le_refl 0) (fun q e h => by cases h) va_S.rf (lv_entry ([.ref b]) (Nat.le_of_ble_eq_true rfl))
set_option maxHeartbeats 4000000 in
theorem lw_walk (l : Launch) (hflags : l.flags = flags0) (b : Addr) (xs : List Int32) : MetFree l x (headSpec (Jvm.Cond.code x code maxLocals ret :: tables_1) room_1) (lw_P b xs) (fun _ _ _ _ _ => True) lw_Q := by
  refine MetFree.of_bodyS (code := code) (maxLocals := maxLocals) (ret := ret) (by decide) ?_ ?_
  · intro args s m h hn
    obtain ⟨meth, c, h1, h2, h3, h4, h5, h6, -, -⟩ := Cond.code_spec hn (atoms_spec (ws := Jvm.Cond.code x code maxLocals ret :: tables_1) h _ List.mem_cons_self)
    exact ⟨meth, c, h1, h2, h3, h4, h5, h6⟩
  · intro p e s m args below meth c s₁ B hml0 hP _
    obtain ⟨rfl, hx, hbd, hgv⟩ := hP
    obtain ⟨scr, harrAt, hlist, hof, hsmall⟩ := hx
    obtain ⟨hcb, hkn, -, -⟩ := State.arrayAt?_spec harrAt
    have hown : s.vm.findClass R_law = some m.cls := findClass_of_methodNamed B.named
    have hts0 : ∀ c ∈ (Jvm.Cond.code x code maxLocals ret :: tables_1), c.before #[Value.ref b] s = true := atoms_spec (ws := Jvm.Cond.code x code maxLocals ret :: tables_1) B.pre
    have hts : ∀ w ∈ lw_tbl, w.before #[Value.ref b] s = true := k2_hts_sels lw_privs (fun w hw => hts0 w (List.mem_cons_of_mem _ hw)) lw_privs_ok
    have hml : c.maxLocals = 10 := B.maxLocals_eq (hts0 _ List.mem_cons_self)
    have X₀ : Stand p l e room_1 s m #[Value.ref b] below meth c s₁ [] 0 0 := Stand.of_body B
    have hh0 : s₁.heap = s.heap := by rw [B.state]; rfl
    have hsz : scr.slots.size = xs.length := by rw [← Array.length_toList, hlist, List.length_map]
    have hval : ∀ j : Nat, j < xs.length → scr.slots[j]? = some (.int (xs.getD j 0)) := fun j hj => by
      rw [← Array.getElem?_toList, hlist]
      simp [hj]
    have hbl : b < s.heap.size := (Array.getElem?_eq_some_iff.mp hcb).1
    have hX : va_X b xs.length (fun j => xs.getD j 0) s s.heap := ⟨scr, hcb, hof, hkn, hsz, hval⟩
    have K : W p l e room_1 s m #[Value.ref b] below meth c s₁.heap [] 0 0 (lw_Z below #[Value.ref b] s) (entryFrame m ([Value.ref b] : List Value).toArray 10) := by
      rw [hh0]
      exact whole_start l hflags hbd ⟨B.exec, B.bytes, B.returns, hml, hown, hts, hX, hbl, B.notSynchronized, hgv⟩
    obtain ⟨t, a1, o, b1, b2, b3⟩ := K s₁ rfl X₀
    exact ⟨t, o, a1, b1, b2, b3⟩
theorem lw_pre_spec {args : Array Value} {s : State} (h : (Jvm.Cond.and given_1 narrow_1).before args s = true) (hr : rest_1_c.before args s = true) : ∃ (b : Addr) (xs : List Int32), lw_P b xs args s := by
  have hs := flat_of_before _ h
  have hq := flat_of_before _ hr
  have hc : (Cond.count 1).before args s = true := hs _ (by decide +kernel)
  have harr : (Cond.arrayOf (.arg 0) .int).before args s = true := hs _ (by decide +kernel)
  have hle : (Cond.le (.length (.arg 0)) (.int 2560)).before args s = true := hs _ (by decide +kernel)
  have hlen : (Cond.isInt (.length (.arg 0))).before args s = true := hq _ (by decide +kernel)
  have hall : (Cond.all (.arg 0) (.isInt (.elem (.arg 0) (.index 0)))).before args s = true := hq _ (by decide +kernel)
  obtain ⟨b, xs, hb, hx⟩ := State.ints_of_pre rfl harr hlen hall
  have hsm : xs.length < 2 ^ 31 := hx.choose_spec.2.2.2
  have hev : (Term.length (.arg 0)).eval args s none [] s = some (.int xs.length.toInt32) := hx.length_eval hb
  have hv := Cond.le_ints hev (show (Term.int 2560).eval args s none [] s = some (.int 2560) from rfl)
  have hd : xs.length.toInt32 ≤ 2560 := by
    simpa [Cond.before, Cond.holds, hv] using hle
  have hN : xs.length ≤ 2560 := (Int32.ofNat_le_ofNat hsm (by decide)).mp (show Int32.ofNat xs.length ≤ Int32.ofNat 2560 from hd)
  exact ⟨b, xs, Cond.one_arg hc (show args[0]? = some (.ref b) from hb), hx, hN, h⟩
theorem lw_comes (l : Launch) (hflags : l.flags = flags0) : Comes l x (Jvm.Cond.code x code maxLocals ret :: tables_1) room_1 (fun tb e args s => Calls_1 tb e args s ∧ rest_1 tb e args s ∧ Pre_1 tb e args s)
    (fun _ _ args s o t => lw_Q args s o t) := by
  intro p e ha hc hk s m args below hf hfit hheap happ hpre
  obtain ⟨b, xs, hP⟩ := lw_pre_spec hpre.2.2 hpre.2.1
  obtain ⟨k, o, h1, h2, h3, hQ⟩ := lw_walk l hflags b xs p e ha hc hk s m args below hf ((Spec.applies_iff_loose hf).mp happ).1 hP trivial
  exact ⟨k, o, h1, h2, h3, hQ⟩
theorem lw_frame {s t : State} {o : Outcome} {args : Array Value} (h : State.butDraws s t lw_cs (fun t1 => Framed s o t1 [] 601024 7293034)) :
    State.butDraws s t [Jvm.Choice.named "NaN.bits"] (fun t1 => Framed s o t1 (fieldLocs frame_1_writes args s ++ arrayLocs frame_1_arrays args s ++ staticLocs frame_1_statics s) 601024 7293034) := h
theorem lw_limb (L : Cond) (hL : ∀ (args : Array Value) (s t : State), L.after args s (.returned (some (.int 1))) t = true) :
    ArmFor flags0 classFile x code maxLocals ret World_1 tables_1 room_1 Calls_1 rest_1 Pre_1
      (fun tb e a s o t => postC L tb e a s o t ∧ State.butDraws s t [Jvm.Choice.named "NaN.bits"] (fun t1 => Framed s o t1 (fieldLocs frame_1_writes a s ++ arrayLocs frame_1_arrays a s ++ staticLocs frame_1_statics s) 601024 7293034)) := by
  intro l hflags _ _ p e ha hc hk s m args below hf hfit hheap happ hpre
  obtain ⟨k, o, h1, h2, h3, rfl, hF⟩ := lw_comes l hflags p e ha hc hk s m args below hf hfit hheap happ hpre
  exact ⟨k, _, h1, h2, h3, hL args s _, lw_frame hF⟩
theorem i_vc : Claimed_1_1 ∧ Claimed_1_2 := ⟨lw_limb limb_1_1 (fun args s t => by simp [limb_1_1, Cond.after, Cond.holds, Cond.value]), lw_limb limb_1_2 (fun args s t => Cond.after_iff.mpr (by
  first | (rw [show limb_1_2 = Cond.eq .result (.int 1) from rfl, Cond.eq_ints (x := 1) (y := 1) rfl rfl]; simp; done) | (simp [limb_1_2, Cond.value, Term.eval]; done)))⟩
