/-! the law's cases -/
/-- class and model hold the same; the rows of the answers -/
def JS (D : va_G) (h : Hp) (ox my ra rd oo : Nat) (mv : Nat → Nat) (σ : Tg) (r : List Nat) (m : Nat) (od : Nat → Int) : Prop :=
  CS D h ox oo σ r m od ∧ (∃ tc : Int, MSt D h my mv σ r m od tc) ∧ (∀ i, i < 7 → oo ≠ mv i) ∧ (∃ ga : Nat → Int, h ra = some (aJ D 1 ga)) ∧ ∃ gd : Nat → UInt64, h rd = some (aD D 1 gd)
theorem CS_o {D : va_G} {h : Hp} {x o : Nat} {σ : Tg} {r : List Nat} {m : Nat} {od : Nat → Int} (hc : CS D h x o σ r m od) : h o = some (aI D 16 od) := by
  obtain ⟨T, f, u, v, k, ku, kv, g, r1, r2, h1, h2, h3, h4, h5, h6⟩ := hc
  exact h5
theorem KA_d {D : va_G} {h h' : Hp} {oo ra rd : Nat} {od : Nat → Int} {ga : Nat → Int} {gd : Nat → UInt64} (k : KA oo ra h h') (ho : h oo = some (aI D 16 od)) (ha : h ra = some (aJ D 1 ga)) (hd : h rd = some (aD D 1 gd)) : h' rd = some (aD D 1 gd) := k rd _ hd (ne_kd hd ho rfl) (ne_kd hd ha rfl) (by unfold kdC; rintro (z | z | z | z) <;> cases z)
theorem KA_j {D : va_G} {h h' : Hp} {oo ra rd : Nat} {od : Nat → Int} {ga : Nat → Int} {gd : Nat → UInt64} (k : KA oo rd h h') (ho : h oo = some (aI D 16 od)) (ha : h ra = some (aJ D 1 ga)) (hd : h rd = some (aD D 1 gd)) : h' ra = some (aJ D 1 ga) := k ra _ ha (ne_kd ha ho rfl) (ne_kd ha hd rfl) (by unfold kdC; rintro (z | z | z | z) <;> cases z)
theorem SO_MW {D : va_G} {y : Nat} {v : Nat → Nat} {σ : Tg} {e1 e2 e3 od : Nat → Int} {r : List Nat} {m : Nat} {w : Int} {h h' : Hp} {w0 : Option Value} (hE : EL e1 e2 e3 r) (k : w0 = some (iv (if cdBy w = 0 then ((srt σ w od 16).1 : Int) else 0)) ∧ (∃ hi lo rf sq : Int, Mz D h' y v (fA σ) (fB σ) (fC σ) e1 e2 e3 (if cdBy w = 0 then (srt σ w od 16).2 else od) (r.length : Int) (if cdBy w = 0 then ((srt σ w od 16).1 : Int) else (m : Int)) (cdBy w) hi lo rf sq) ∧ Keep (WM y v) h h') : MW y v (cdBy w) (fun h9 => MSt D h9 y v σ r (srt σ w od 16).1 (srt σ w od 16).2 (cdBy w)) (fun h9 => MSt D h9 y v σ r m od (cdBy w)) (iv ((srt σ w od 16).1 : Int)) (iv 0) h w0 h' := by
  obtain ⟨k1, ⟨hi, lo, rf, sq, k2⟩, k3⟩ := k
  refine ⟨fun hc => ?_, fun hc => ?_, k3⟩
  · rw [if_pos hc] at k1
    rw [if_pos hc, if_pos hc] at k2
    exact ⟨k1, e1, e2, e3, hi, lo, rf, sq, k2, hE⟩
  · rw [if_neg hc] at k1
    rw [if_neg hc, if_neg hc] at k2
    exact ⟨k1, e1, e2, e3, hi, lo, rf, sq, k2, hE⟩
theorem LI_MW {D : va_G} {y : Nat} {v : Nat → Nat} {σ : Tg} {e1 e2 e3 od : Nat → Int} {r : List Nat} {m : Nat} {w k : Int} {h h' : Hp} {w0 : Option Value} (hE : EL e1 e2 e3 r) (z : w0 = some (iv (if cdLi w k = 0 then ((eR k.toNat).length : Int) else 0)) ∧ (cdLi w k = 0 → ∃ (f1 f2 f3 : Nat → Int) (hi lo rf sq : Int), Mz D h' y v (fA σ) (fB σ) (fC σ) f1 f2 f3 od ((eR k.toNat).length : Int) (m : Int) 0 hi lo rf sq ∧ EL f1 f2 f3 (eR k.toNat)) ∧ (cdLi w k ≠ 0 → ∃ hi lo rf sq : Int, Mz D h' y v (fA σ) (fB σ) (fC σ) e1 e2 e3 od (r.length : Int) (m : Int) 1 hi lo rf sq) ∧ Keep (WM y v) h h') : MW y v (cdLi w k) (fun h9 => MSt D h9 y v σ (eR k.toNat) m od (cdLi w k)) (fun h9 => MSt D h9 y v σ r m od (cdLi w k)) (iv ((eR k.toNat).length : Int)) (iv 0) h w0 h' := by
  obtain ⟨k1, k2, k3, k4⟩ := z
  refine ⟨fun hc => ?_, fun hc => ?_, k4⟩
  · rw [if_pos hc] at k1
    obtain ⟨f1, f2, f3, hi, lo, rf, sq, q1, q2⟩ := k2 hc
    rw [hc]
    exact ⟨k1, f1, f2, f3, hi, lo, rf, sq, q1, q2⟩
  · rw [if_neg hc] at k1
    obtain ⟨hi, lo, rf, sq, q1⟩ := k3 hc
    have h1 : cdLi w k = 1 := by
      unfold cdLi at hc ⊢
      split at hc
      · exact absurd rfl hc
      · rw [if_neg ‹_›]
    rw [h1]
    exact ⟨k1, e1, e2, e3, hi, lo, rf, sq, q1, hE⟩
theorem PI_S {σ : Tg} {r : List Nat} {m : Nat} {od : Nat → Int} (hp : PI r m od) (w : Int) : PI r (srt σ w od 16).1 (srt σ w od 16).2 := by
  have h := srt_ok σ w od 16 (Nat.le_refl _)
  exact ⟨hp.1, h.1, fun i hi => (h.2 i hi).1⟩
theorem PI_L {r : List Nat} {m : Nat} {od : Nat → Int} (hp : PI r m od) {w k : Int} (h : cdLi w k = 0) : PI (eR k.toNat) m od := by
  have hb : 0 ≤ k ∧ k ≤ 400 := by
    unfold cdLi at h
    split at h
    · next z => exact z.2
    · exact absurd h (by decide)
  exact ⟨⟨(et_at (by omega)).2.1, eR_lt (by omega)⟩, hp.2⟩
section Rows6
variable {K : KT} {D : va_G} {z0 nL : Nat} {h : Hp} {kc ks pc : Nat} {L : List (Nat × Value)} {st : List Value} {cc : ByteArray} {own : String} {rm : Room}
theorem r_icmp_eqS {a off : Int} (tgt : Nat) (X : CX K D z0 cc nL own rm) (d : decode cc pc = .ok (.if_icmp .eq off, 3)) (ht : (pc : Int) + off = (tgt : Int)) (kt : WW K D z0 nL h kc ks tgt L st) : WW K D z0 nL h kc ks pc L (iv a :: iv a :: st) := by
  rw [← w32_iv a]
  exact r_icmp_eq tgt X d ht (i32_toI _) (i32_toI _) (fun _ => kt) (fun z => absurd rfl z)
theorem r_lcmp_eqS {a off : Int} (tgt : Nat) (X : CX K D z0 cc nL own rm) (d : decode cc pc = .ok (.lcmp, 1)) (d2 : decode cc (pc + 1) = .ok (.ifCond .eq off, 3)) (ht : ((pc + 1 : Nat) : Int) + off = (tgt : Int)) (kt : WW K D z0 nL h kc ks tgt L st) : WW K D z0 nL h kc ks pc L (jv a :: jv a :: st) := by
  have e : jv a = jv (Int64.ofInt a).toInt := by
    unfold jv
    rw [Int64.ofInt_toInt]
  have hr : I64 (Int64.ofInt a).toInt := ⟨Int64.le_toInt _, Int64.toInt_lt _⟩
  rw [e]
  exact r_lcmp_eq tgt X d d2 ht hr hr (fun _ => kt) (fun z => absurd rfl z)
end Rows6
theorem case_put {K : KT} {D : va_G} {z0 : Nat} {h : Hp} {kc ks : Nat} (X : CX K D z0 cL_law 10 RL room_1) {sb N : Nat} {xs : Nat → Int32} (S : SX K z0 sb N xs) {ox my ra rd oo : Nat} {mv : Nat → Nat} {σ : Tg} {r : List Nat} {m : Nat} {od : Nat → Int} (J : JS D h ox my ra rd oo mv σ r m od) (hp : PI r m od) (n5 : Int) (hn5 : 0 ≤ n5 ∧ n5 + 5 ≤ (N : Int)) (hkc : kc + 100 ≤ 601024 ∧ ks + 1000 ≤ 7293034) (kk : ∀ (h' : Hp) (σ' : Tg) (r' : List Nat) (m' : Nat) (od' : Nat → Int), JS D h' ox my ra rd oo mv σ' r' m' od' → PI r' m' od' → WW K D z0 10 h' (kc + 100) (ks + 1000) 2541 [(5, iv n5), (0, .ref sb), (1, .ref ox), (2, .ref my), (3, .ref ra), (4, .ref rd)] []) : WW K D z0 10 h kc ks 200 [(5, iv n5), (0, .ref sb), (1, .ref ox), (2, .ref my), (3, .ref ra), (4, .ref rd)] [] := by
  obtain ⟨hC, ⟨tc, e1, e2, e3, hi9, lo9, rf9, sq9, hm, hE⟩, ho, ⟨ga, hga⟩, gd, hgd⟩ := J
  have hoo := CS_o hC
  have ht := CS_TVs hC
  obtain ⟨p, pd⟩ : ∃ u, u = (xs (n5 + 1).toNat).toInt := ⟨_, rfl⟩
  have p_ : I32 p := by rw [pd]; exact i32_toI _
  obtain ⟨a, ad⟩ : ∃ u, u = (xs (n5 + 2).toNat).toInt := ⟨_, rfl⟩
  have a_ : I32 a := by rw [ad]; exact i32_toI _
  obtain ⟨b, bd⟩ : ∃ u, u = (xs (n5 + 3).toNat).toInt := ⟨_, rfl⟩
  have b_ : I32 b := by rw [bd]; exact i32_toI _
  obtain ⟨c, cd⟩ : ∃ u, u = (xs (n5 + 4).toNat).toInt := ⟨_, rfl⟩
  have c_ : I32 c := by rw [cd]; exact i32_toI _
  show WW K D z0 10 h (kc + 0) (ks + 0) 200 [(5, iv n5), (0, .ref sb), (1, .ref ox), (2, .ref my), (3, .ref ra), (4, .ref rd)] []
  refine r_aload_n 2 X dL_law_200 rfl ?_
  refine r_aload_n 1 X dL_law_201 rfl ?_
  refine r_iload 0 X dL_law_202 rfl ?_
  refine r_iconst X dL_law_204 ?_
  refine r_iadd X dL_law_205 ?_
  refine r_sld (v := p) X S dL_law_206 ⟨by omega, by omega⟩ pd ?_
  refine r_aload_n 1 X dL_law_207 rfl ?_
  refine r_iload 0 X dL_law_208 rfl ?_
  refine r_iconst X dL_law_210 ?_
  refine r_iadd X dL_law_211 ?_
  refine r_sld (v := a) X S dL_law_212 ⟨by omega, by omega⟩ ad ?_
  refine r_aload_n 1 X dL_law_213 rfl ?_
  refine r_iload 0 X dL_law_214 rfl ?_
  refine r_iconst X dL_law_216 ?_
  refine r_iadd X dL_law_217 ?_
  refine r_sld (v := b) X S dL_law_218 ⟨by omega, by omega⟩ bd ?_
  refine r_aload_n 1 X dL_law_219 rfl ?_
  refine r_iload 0 X dL_law_220 rfl ?_
  refine r_iconst X dL_law_222 ?_
  refine r_iadd X dL_law_223 ?_
  refine r_sld (v := c) X S dL_law_224 ⟨by omega, by omega⟩ cd ?_
  refine r_aload_n 4 X dL_law_225 rfl ?_
  refine r_callH X dL_law_226 kL_135 (c_L_put (CX_l X) D z0 h hC hp p p_ a a_ b b_ c c_ hga) [] rfl rfl (Nat.le_of_ble_eq_true rfl) (by decide) (show kc + 4 ≤ 601024 ∧ ks + 23 ≤ 7293034 by omega) (fun w9 h1 hw9 => ?_)
  obtain ⟨rfl, hcdb, hA1, hB1, hKA⟩ := hw9
  have hm1 := Mz_fr hm hKA ho ⟨_, hoo⟩ hga rfl (Or.inl rfl)
  have hj1 := KA_d hKA hoo hga hgd
  show WW K D z0 10 h1 (kc + 4) (ks + 23) 229 [(5, iv n5), (0, .ref sb), (1, .ref ox), (2, .ref my), (3, .ref ra), (4, .ref rd)] [iv (cdPu p a b c)]
  refine r_istore (L' := [(6, iv (cdPu p a b c)), (5, iv n5), (0, .ref sb), (1, .ref ox), (2, .ref my), (3, .ref ra), (4, .ref rd)]) X dL_law_229 (by decide) rfl ?_
  refine r_aload_n 4 X dL_law_231 rfl ?_
  refine r_aload_n 2 X dL_law_232 rfl ?_
  refine r_iload 1 X dL_law_233 rfl ?_
  refine r_iconst X dL_law_235 ?_
  refine r_iadd X dL_law_236 ?_
  refine r_sld (v := p) X S dL_law_237 ⟨by omega, by omega⟩ pd ?_
  refine r_aload_n 2 X dL_law_238 rfl ?_
  refine r_iload 1 X dL_law_239 rfl ?_
  refine r_iconst X dL_law_241 ?_
  refine r_iadd X dL_law_242 ?_
  refine r_sld (v := a) X S dL_law_243 ⟨by omega, by omega⟩ ad ?_
  refine r_aload_n 2 X dL_law_244 rfl ?_
  refine r_iload 1 X dL_law_245 rfl ?_
  refine r_iconst X dL_law_247 ?_
  refine r_iadd X dL_law_248 ?_
  refine r_sld (v := b) X S dL_law_249 ⟨by omega, by omega⟩ bd ?_
  refine r_aload_n 2 X dL_law_250 rfl ?_
  refine r_iload 1 X dL_law_251 rfl ?_
  refine r_iconst X dL_law_253 ?_
  refine r_iadd X dL_law_254 ?_
  refine r_sld (v := c) X S dL_law_255 ⟨by omega, by omega⟩ cd ?_
  refine r_callV X dL_law_256 kL_140 hm1.1 (c_X7_put (CX_l X) D z0 h1 hm1 ht p p_ a b c a_ b_ c_) [] rfl rfl (Nat.le_of_ble_eq_true rfl) (by decide) (show kc + 4 ≤ 601024 ∧ ks + 23 ≤ 7293034 by omega) (fun _ _ z => z.elim) (fun w8 h2 hw8 => ?_)
  obtain ⟨hM1, hM2, hKW⟩ := MO_MW hE hw8
  by_cases hcd : cdPu p a b c = 0
  · obtain ⟨rfl, e19, e29, e39, hi2, lo2, rf2, sq2, hm2, hE2⟩ := hM1 hcd
    obtain ⟨hC1, g1, hg1, hgE⟩ := hA1 hcd
    have ht2 := CS_TVs hC1
    show WW K D z0 10 h2 (kc + 4) (ks + 23) 259 [(6, iv (cdPu p a b c)), (5, iv n5), (0, .ref sb), (1, .ref ox), (2, .ref my), (3, .ref ra), (4, .ref rd)] [iv (cntT (up σ p.toNat (st3 a b c)) 16)]
    have hg2 := WM_a hm1 hKW hg1 rfl (Or.inl rfl)
    refine r_istore (L' := [(7, iv (cntT (up σ p.toNat (st3 a b c)) 16)), (6, iv (cdPu p a b c)), (5, iv n5), (0, .ref sb), (1, .ref ox), (2, .ref my), (3, .ref ra), (4, .ref rd)]) X dL_law_259 (by decide) rfl ?_
    refine r_aload_n 5 X dL_law_261 rfl ?_
    refine r_callV_v X dL_law_262 kL_141 hm2.1 (c_X7_thrown (CX_l X) D z0 h2 hm2 ht2) [] rfl rfl (Nat.le_of_ble_eq_true rfl) (by decide) rfl rfl (show kc + 4 ≤ 601024 ∧ ks + 23 ≤ 7293034 by omega) ?_
    show WW K D z0 10 h2 (kc + 4) (ks + 23) 265 [(7, iv (cntT (up σ p.toNat (st3 a b c)) 16)), (6, iv (cdPu p a b c)), (5, iv n5), (0, .ref sb), (1, .ref ox), (2, .ref my), (3, .ref ra), (4, .ref rd)] [iv (cdPu p a b c)]
    refine r_iload 1 X dL_law_265 rfl ?_
    refine r_icmp_eqS 272 X dL_law_267 (by decide) ?_
    refine r_iload 1 X dL_law_272 rfl ?_
    refine r_if_ne 289 X dL_law_274 (by decide) ⟨by omega, by omega⟩ (fun c9 => absurd hcd c9) (fun c9 => ?_)
    refine r_aload_n 6 X dL_law_277 rfl ?_
    refine r_iconst X dL_law_278 ?_
    refine r_laload X dL_law_279 hg2 ⟨by omega, by omega⟩ (by decide) ?_
    refine WW_e (congrArg (fun z => z :: []) (show jv (g1 (0 : Int).toNat) = jv (w32 (cntT (up σ p.toNat (st3 a b c)) 16)) from hgE)) ?_
    show WW K D z0 10 h2 (kc + 4) (ks + 23) 280 [(7, iv (cntT (up σ p.toNat (st3 a b c)) 16)), (6, iv (cdPu p a b c)), (5, iv n5), (0, .ref sb), (1, .ref ox), (2, .ref my), (3, .ref ra), (4, .ref rd)] [jv (w32 (cntT (up σ p.toNat (st3 a b c)) 16))]
    refine r_iload 0 X dL_law_280 rfl ?_
    refine r_i2lS X dL_law_282 ?_
    refine r_lcmp_eqS 289 X dL_law_283 dL_law_284 (by decide) ?_
    refine r_goto 2541 X dL_law_289 (by decide) ?_
    refine WW_sub (L' := [(5, iv n5), (0, .ref sb), (1, .ref ox), (2, .ref my), (3, .ref ra), (4, .ref rd)]) [2, 3, 4, 5, 6, 7] rfl ?_
    refine WW_room (show kc + 4 ≤ kc + 100 by omega) (show ks + 23 ≤ ks + 1000 by omega) ?_
    exact kk _ _ _ _ _ ⟨CS_WM hC1 hm1 ho hKW, ⟨_, e19, e29, e39, hi2, lo2, rf2, sq2, hm2, hE2⟩, ho, ⟨_, WM_a hm1 hKW hg1 rfl (Or.inl rfl)⟩, ⟨_, WM_a hm1 hKW hj1 rfl (Or.inr rfl)⟩⟩ hp
  · obtain ⟨rfl, e19, e29, e39, hi2, lo2, rf2, sq2, hm2, hE2⟩ := hM2 hcd
    obtain ⟨hC1, g1, hg1⟩ := hB1 hcd
    have ht2 := CS_TVs hC1
    show WW K D z0 10 h2 (kc + 4) (ks + 23) 259 [(6, iv (cdPu p a b c)), (5, iv n5), (0, .ref sb), (1, .ref ox), (2, .ref my), (3, .ref ra), (4, .ref rd)] [iv 0]
    have hg2 := WM_a hm1 hKW hg1 rfl (Or.inl rfl)
    refine r_istore (L' := [(7, iv 0), (6, iv (cdPu p a b c)), (5, iv n5), (0, .ref sb), (1, .ref ox), (2, .ref my), (3, .ref ra), (4, .ref rd)]) X dL_law_259 (by decide) rfl ?_
    refine r_aload_n 5 X dL_law_261 rfl ?_
    refine r_callV_v X dL_law_262 kL_141 hm2.1 (c_X7_thrown (CX_l X) D z0 h2 hm2 ht2) [] rfl rfl (Nat.le_of_ble_eq_true rfl) (by decide) rfl rfl (show kc + 4 ≤ 601024 ∧ ks + 23 ≤ 7293034 by omega) ?_
    show WW K D z0 10 h2 (kc + 4) (ks + 23) 265 [(7, iv 0), (6, iv (cdPu p a b c)), (5, iv n5), (0, .ref sb), (1, .ref ox), (2, .ref my), (3, .ref ra), (4, .ref rd)] [iv (cdPu p a b c)]
    refine r_iload 1 X dL_law_265 rfl ?_
    refine r_icmp_eqS 272 X dL_law_267 (by decide) ?_
    refine r_iload 1 X dL_law_272 rfl ?_
    refine r_if_ne 289 X dL_law_274 (by decide) ⟨by omega, by omega⟩ (fun c9 => ?_) (fun c9 => absurd c9 hcd)
    refine r_goto 2541 X dL_law_289 (by decide) ?_
    refine WW_sub (L' := [(5, iv n5), (0, .ref sb), (1, .ref ox), (2, .ref my), (3, .ref ra), (4, .ref rd)]) [2, 3, 4, 5, 6, 7] rfl ?_
    refine WW_room (show kc + 4 ≤ kc + 100 by omega) (show ks + 23 ≤ ks + 1000 by omega) ?_
    exact kk _ _ _ _ _ ⟨CS_WM hC1 hm1 ho hKW, ⟨_, e19, e29, e39, hi2, lo2, rf2, sq2, hm2, hE2⟩, ho, ⟨_, WM_a hm1 hKW hg1 rfl (Or.inl rfl)⟩, ⟨_, WM_a hm1 hKW hj1 rfl (Or.inr rfl)⟩⟩ hp
theorem case_take {K : KT} {D : va_G} {z0 : Nat} {h : Hp} {kc ks : Nat} (X : CX K D z0 cL_law 10 RL room_1) {sb N : Nat} {xs : Nat → Int32} (S : SX K z0 sb N xs) {ox my ra rd oo : Nat} {mv : Nat → Nat} {σ : Tg} {r : List Nat} {m : Nat} {od : Nat → Int} (J : JS D h ox my ra rd oo mv σ r m od) (hp : PI r m od) (n5 : Int) (hn5 : 0 ≤ n5 ∧ n5 + 5 ≤ (N : Int)) (hkc : kc + 100 ≤ 601024 ∧ ks + 1000 ≤ 7293034) (kk : ∀ (h' : Hp) (σ' : Tg) (r' : List Nat) (m' : Nat) (od' : Nat → Int), JS D h' ox my ra rd oo mv σ' r' m' od' → PI r' m' od' → WW K D z0 10 h' (kc + 100) (ks + 1000) 2541 [(5, iv n5), (0, .ref sb), (1, .ref ox), (2, .ref my), (3, .ref ra), (4, .ref rd)] []) : WW K D z0 10 h kc ks 292 [(5, iv n5), (0, .ref sb), (1, .ref ox), (2, .ref my), (3, .ref ra), (4, .ref rd)] [] := by
  obtain ⟨hC, ⟨tc, e1, e2, e3, hi9, lo9, rf9, sq9, hm, hE⟩, ho, ⟨ga, hga⟩, gd, hgd⟩ := J
  have hoo := CS_o hC
  have ht := CS_TVs hC
  obtain ⟨p, pd⟩ : ∃ u, u = (xs (n5 + 1).toNat).toInt := ⟨_, rfl⟩
  have p_ : I32 p := by rw [pd]; exact i32_toI _
  show WW K D z0 10 h (kc + 0) (ks + 0) 292 [(5, iv n5), (0, .ref sb), (1, .ref ox), (2, .ref my), (3, .ref ra), (4, .ref rd)] []
  refine r_aload_n 2 X dL_law_292 rfl ?_
  refine r_aload_n 1 X dL_law_293 rfl ?_
  refine r_iload 0 X dL_law_294 rfl ?_
  refine r_iconst X dL_law_296 ?_
  refine r_iadd X dL_law_297 ?_
  refine r_sld (v := p) X S dL_law_298 ⟨by omega, by omega⟩ pd ?_
  refine r_aload_n 4 X dL_law_299 rfl ?_
  refine r_callH X dL_law_300 kL_145 (c_L_take (CX_l X) D z0 h hC hp p p_ hga) [] rfl rfl (Nat.le_of_ble_eq_true rfl) (by decide) (show kc + 2 ≤ 601024 ∧ ks + 12 ≤ 7293034 by omega) (fun w9 h1 hw9 => ?_)
  obtain ⟨rfl, hcdb, hA1, hB1, hKA⟩ := hw9
  have hm1 := Mz_fr hm hKA ho ⟨_, hoo⟩ hga rfl (Or.inl rfl)
  have hj1 := KA_d hKA hoo hga hgd
  show WW K D z0 10 h1 (kc + 2) (ks + 12) 303 [(5, iv n5), (0, .ref sb), (1, .ref ox), (2, .ref my), (3, .ref ra), (4, .ref rd)] [iv (ms σ p 2)]
  refine r_istore (L' := [(6, iv (ms σ p 2)), (5, iv n5), (0, .ref sb), (1, .ref ox), (2, .ref my), (3, .ref ra), (4, .ref rd)]) X dL_law_303 (by decide) rfl ?_
  refine r_aload_n 4 X dL_law_305 rfl ?_
  refine r_aload_n 2 X dL_law_306 rfl ?_
  refine r_iload 1 X dL_law_307 rfl ?_
  refine r_iconst X dL_law_309 ?_
  refine r_iadd X dL_law_310 ?_
  refine r_sld (v := p) X S dL_law_311 ⟨by omega, by omega⟩ pd ?_
  refine r_callV X dL_law_312 kL_148 hm1.1 (c_X7_take (CX_l X) D z0 h1 hm1 ht p p_) [] rfl rfl (Nat.le_of_ble_eq_true rfl) (by decide) (show kc + 2 ≤ 601024 ∧ ks + 12 ≤ 7293034 by omega) (fun _ _ z => z.elim) (fun w8 h2 hw8 => ?_)
  obtain ⟨hM1, hM2, hKW⟩ := MO_MW hE hw8
  by_cases hcd : ms σ p 2 = 0
  · obtain ⟨rfl, e19, e29, e39, hi2, lo2, rf2, sq2, hm2, hE2⟩ := hM1 hcd
    obtain ⟨hC1, g1, hg1, hgE⟩ := hA1 hcd
    have ht2 := CS_TVs hC1
    show WW K D z0 10 h2 (kc + 2) (ks + 12) 315 [(6, iv (ms σ p 2)), (5, iv n5), (0, .ref sb), (1, .ref ox), (2, .ref my), (3, .ref ra), (4, .ref rd)] [iv (cntT (up σ p.toNat none) 16)]
    have hg2 := WM_a hm1 hKW hg1 rfl (Or.inl rfl)
    refine r_istore (L' := [(7, iv (cntT (up σ p.toNat none) 16)), (6, iv (ms σ p 2)), (5, iv n5), (0, .ref sb), (1, .ref ox), (2, .ref my), (3, .ref ra), (4, .ref rd)]) X dL_law_315 (by decide) rfl ?_
    refine r_aload_n 5 X dL_law_317 rfl ?_
    refine r_callV_v X dL_law_318 kL_141 hm2.1 (c_X7_thrown (CX_l X) D z0 h2 hm2 ht2) [] rfl rfl (Nat.le_of_ble_eq_true rfl) (by decide) rfl rfl (show kc + 2 ≤ 601024 ∧ ks + 12 ≤ 7293034 by omega) ?_
    show WW K D z0 10 h2 (kc + 2) (ks + 12) 321 [(7, iv (cntT (up σ p.toNat none) 16)), (6, iv (ms σ p 2)), (5, iv n5), (0, .ref sb), (1, .ref ox), (2, .ref my), (3, .ref ra), (4, .ref rd)] [iv (ms σ p 2)]
    refine r_iload 1 X dL_law_321 rfl ?_
    refine r_icmp_eqS 328 X dL_law_323 (by decide) ?_
    refine r_iload 1 X dL_law_328 rfl ?_
    refine r_if_ne 345 X dL_law_330 (by decide) ⟨by omega, by omega⟩ (fun c9 => absurd hcd c9) (fun c9 => ?_)
    refine r_aload_n 6 X dL_law_333 rfl ?_
    refine r_iconst X dL_law_334 ?_
    refine r_laload X dL_law_335 hg2 ⟨by omega, by omega⟩ (by decide) ?_
    refine WW_e (congrArg (fun z => z :: []) (show jv (g1 (0 : Int).toNat) = jv (w32 (cntT (up σ p.toNat none) 16)) from hgE)) ?_
    show WW K D z0 10 h2 (kc + 2) (ks + 12) 336 [(7, iv (cntT (up σ p.toNat none) 16)), (6, iv (ms σ p 2)), (5, iv n5), (0, .ref sb), (1, .ref ox), (2, .ref my), (3, .ref ra), (4, .ref rd)] [jv (w32 (cntT (up σ p.toNat none) 16))]
    refine r_iload 0 X dL_law_336 rfl ?_
    refine r_i2lS X dL_law_338 ?_
    refine r_lcmp_eqS 345 X dL_law_339 dL_law_340 (by decide) ?_
    refine r_goto 2541 X dL_law_345 (by decide) ?_
    refine WW_sub (L' := [(5, iv n5), (0, .ref sb), (1, .ref ox), (2, .ref my), (3, .ref ra), (4, .ref rd)]) [2, 3, 4, 5, 6, 7] rfl ?_
    refine WW_room (show kc + 2 ≤ kc + 100 by omega) (show ks + 12 ≤ ks + 1000 by omega) ?_
    exact kk _ _ _ _ _ ⟨CS_WM hC1 hm1 ho hKW, ⟨_, e19, e29, e39, hi2, lo2, rf2, sq2, hm2, hE2⟩, ho, ⟨_, WM_a hm1 hKW hg1 rfl (Or.inl rfl)⟩, ⟨_, WM_a hm1 hKW hj1 rfl (Or.inr rfl)⟩⟩ hp
  · obtain ⟨rfl, e19, e29, e39, hi2, lo2, rf2, sq2, hm2, hE2⟩ := hM2 hcd
    obtain ⟨hC1, g1, hg1⟩ := hB1 hcd
    have ht2 := CS_TVs hC1
    show WW K D z0 10 h2 (kc + 2) (ks + 12) 315 [(6, iv (ms σ p 2)), (5, iv n5), (0, .ref sb), (1, .ref ox), (2, .ref my), (3, .ref ra), (4, .ref rd)] [iv 0]
    have hg2 := WM_a hm1 hKW hg1 rfl (Or.inl rfl)
    refine r_istore (L' := [(7, iv 0), (6, iv (ms σ p 2)), (5, iv n5), (0, .ref sb), (1, .ref ox), (2, .ref my), (3, .ref ra), (4, .ref rd)]) X dL_law_315 (by decide) rfl ?_
    refine r_aload_n 5 X dL_law_317 rfl ?_
    refine r_callV_v X dL_law_318 kL_141 hm2.1 (c_X7_thrown (CX_l X) D z0 h2 hm2 ht2) [] rfl rfl (Nat.le_of_ble_eq_true rfl) (by decide) rfl rfl (show kc + 2 ≤ 601024 ∧ ks + 12 ≤ 7293034 by omega) ?_
    show WW K D z0 10 h2 (kc + 2) (ks + 12) 321 [(7, iv 0), (6, iv (ms σ p 2)), (5, iv n5), (0, .ref sb), (1, .ref ox), (2, .ref my), (3, .ref ra), (4, .ref rd)] [iv (ms σ p 2)]
    refine r_iload 1 X dL_law_321 rfl ?_
    refine r_icmp_eqS 328 X dL_law_323 (by decide) ?_
    refine r_iload 1 X dL_law_328 rfl ?_
    refine r_if_ne 345 X dL_law_330 (by decide) ⟨by omega, by omega⟩ (fun c9 => ?_) (fun c9 => absurd c9 hcd)
    refine r_goto 2541 X dL_law_345 (by decide) ?_
    refine WW_sub (L' := [(5, iv n5), (0, .ref sb), (1, .ref ox), (2, .ref my), (3, .ref ra), (4, .ref rd)]) [2, 3, 4, 5, 6, 7] rfl ?_
    refine WW_room (show kc + 2 ≤ kc + 100 by omega) (show ks + 12 ≤ ks + 1000 by omega) ?_
    exact kk _ _ _ _ _ ⟨CS_WM hC1 hm1 ho hKW, ⟨_, e19, e29, e39, hi2, lo2, rf2, sq2, hm2, hE2⟩, ho, ⟨_, WM_a hm1 hKW hg1 rfl (Or.inl rfl)⟩, ⟨_, WM_a hm1 hKW hj1 rfl (Or.inr rfl)⟩⟩ hp
theorem case_isHeld {K : KT} {D : va_G} {z0 : Nat} {h : Hp} {kc ks : Nat} (X : CX K D z0 cL_law 10 RL room_1) {sb N : Nat} {xs : Nat → Int32} (S : SX K z0 sb N xs) {ox my ra rd oo : Nat} {mv : Nat → Nat} {σ : Tg} {r : List Nat} {m : Nat} {od : Nat → Int} (J : JS D h ox my ra rd oo mv σ r m od) (hp : PI r m od) (n5 : Int) (hn5 : 0 ≤ n5 ∧ n5 + 5 ≤ (N : Int)) (hkc : kc + 100 ≤ 601024 ∧ ks + 1000 ≤ 7293034) (kk : ∀ (h' : Hp) (σ' : Tg) (r' : List Nat) (m' : Nat) (od' : Nat → Int), JS D h' ox my ra rd oo mv σ' r' m' od' → PI r' m' od' → WW K D z0 10 h' (kc + 100) (ks + 1000) 2541 [(5, iv n5), (0, .ref sb), (1, .ref ox), (2, .ref my), (3, .ref ra), (4, .ref rd)] []) : WW K D z0 10 h kc ks 348 [(5, iv n5), (0, .ref sb), (1, .ref ox), (2, .ref my), (3, .ref ra), (4, .ref rd)] [] := by
  obtain ⟨hC, ⟨tc, e1, e2, e3, hi9, lo9, rf9, sq9, hm, hE⟩, ho, ⟨ga, hga⟩, gd, hgd⟩ := J
  have hoo := CS_o hC
  have ht := CS_TVs hC
  obtain ⟨p, pd⟩ : ∃ u, u = (xs (n5 + 1).toNat).toInt := ⟨_, rfl⟩
  have p_ : I32 p := by rw [pd]; exact i32_toI _
  show WW K D z0 10 h (kc + 0) (ks + 0) 348 [(5, iv n5), (0, .ref sb), (1, .ref ox), (2, .ref my), (3, .ref ra), (4, .ref rd)] []
  refine r_aload_n 2 X dL_law_348 rfl ?_
  refine r_aload_n 1 X dL_law_349 rfl ?_
  refine r_iload 0 X dL_law_350 rfl ?_
  refine r_iconst X dL_law_352 ?_
  refine r_iadd X dL_law_353 ?_
  refine r_sld (v := p) X S dL_law_354 ⟨by omega, by omega⟩ pd ?_
  refine r_aload_n 4 X dL_law_355 rfl ?_
  refine r_callH X dL_law_356 kL_149 (c_L_isHeld (CX_l X) D z0 h hC hp p p_ hga) [] rfl rfl (Nat.le_of_ble_eq_true rfl) (by decide) (show kc + 1 ≤ 601024 ∧ ks + 6 ≤ 7293034 by omega) (fun w9 h1 hw9 => ?_)
  obtain ⟨rfl, hcdb, hA1, hB1, hKA⟩ := hw9
  have hm1 := Mz_fr hm hKA ho ⟨_, hoo⟩ hga rfl (Or.inl rfl)
  have hj1 := KA_d hKA hoo hga hgd
  show WW K D z0 10 h1 (kc + 1) (ks + 6) 359 [(5, iv n5), (0, .ref sb), (1, .ref ox), (2, .ref my), (3, .ref ra), (4, .ref rd)] [iv (cdPl p)]
  refine r_istore (L' := [(6, iv (cdPl p)), (5, iv n5), (0, .ref sb), (1, .ref ox), (2, .ref my), (3, .ref ra), (4, .ref rd)]) X dL_law_359 (by decide) rfl ?_
  refine r_aload_n 4 X dL_law_361 rfl ?_
  refine r_aload_n 2 X dL_law_362 rfl ?_
  refine r_iload 1 X dL_law_363 rfl ?_
  refine r_iconst X dL_law_365 ?_
  refine r_iadd X dL_law_366 ?_
  refine r_sld (v := p) X S dL_law_367 ⟨by omega, by omega⟩ pd ?_
  refine r_callV X dL_law_368 kL_151 hm1.1 (c_X7_isHeld (CX_l X) D z0 h1 hm1 ht p p_) [] rfl rfl (Nat.le_of_ble_eq_true rfl) (by decide) (show kc + 1 ≤ 601024 ∧ ks + 6 ≤ 7293034 by omega) (fun _ _ z => z.elim) (fun w8 h2 hw8 => ?_)
  obtain ⟨hM1, hM2, hKW⟩ := MO_MW hE hw8
  by_cases hcd : cdPl p = 0
  · obtain ⟨rfl, e19, e29, e39, hi2, lo2, rf2, sq2, hm2, hE2⟩ := hM1 hcd
    obtain ⟨hC1, g1, hg1, hgE⟩ := hA1 hcd
    have ht2 := CS_TVs hC1
    show WW K D z0 10 h2 (kc + 1) (ks + 6) 371 [(6, iv (cdPl p)), (5, iv n5), (0, .ref sb), (1, .ref ox), (2, .ref my), (3, .ref ra), (4, .ref rd)] [iv (if (σ p.toNat).isSome = true then 1 else 0)]
    have hg2 := WM_a hm1 hKW hg1 rfl (Or.inl rfl)
    refine r_istore (L' := [(7, iv (if (σ p.toNat).isSome = true then 1 else 0)), (6, iv (cdPl p)), (5, iv n5), (0, .ref sb), (1, .ref ox), (2, .ref my), (3, .ref ra), (4, .ref rd)]) X dL_law_371 (by decide) rfl ?_
    refine r_aload_n 5 X dL_law_373 rfl ?_
    refine r_callV_v X dL_law_374 kL_141 hm2.1 (c_X7_thrown (CX_l X) D z0 h2 hm2 ht2) [] rfl rfl (Nat.le_of_ble_eq_true rfl) (by decide) rfl rfl (show kc + 1 ≤ 601024 ∧ ks + 6 ≤ 7293034 by omega) ?_
    show WW K D z0 10 h2 (kc + 1) (ks + 6) 377 [(7, iv (if (σ p.toNat).isSome = true then 1 else 0)), (6, iv (cdPl p)), (5, iv n5), (0, .ref sb), (1, .ref ox), (2, .ref my), (3, .ref ra), (4, .ref rd)] [iv (cdPl p)]
    refine r_iload 1 X dL_law_377 rfl ?_
    refine r_icmp_eqS 384 X dL_law_379 (by decide) ?_
    refine r_iload 1 X dL_law_384 rfl ?_
    refine r_if_ne 408 X dL_law_386 (by decide) ⟨by omega, by omega⟩ (fun c9 => absurd hcd c9) (fun c9 => ?_)
    refine r_aload_n 6 X dL_law_389 rfl ?_
    refine r_iconst X dL_law_390 ?_
    refine r_laload X dL_law_391 hg2 ⟨by omega, by omega⟩ (by decide) ?_
    refine WW_e (congrArg (fun z => z :: []) (show jv (g1 (0 : Int).toNat) = jv (if (σ p.toNat).isSome = true then 1 else 0) from hgE)) ?_
    show WW K D z0 10 h2 (kc + 1) (ks + 6) 392 [(7, iv (if (σ p.toNat).isSome = true then 1 else 0)), (6, iv (cdPl p)), (5, iv n5), (0, .ref sb), (1, .ref ox), (2, .ref my), (3, .ref ra), (4, .ref rd)] [jv (if (σ p.toNat).isSome = true then 1 else 0)]
    refine r_iload 0 X dL_law_392 rfl ?_
    refine r_ifb_eq 401 X dL_law_394 (by decide) (fun c394 => ?_) (fun c394 => ?_)
    · refine r_lconst 0 X dL_law_401 (by decide) ?_
      refine WW_e (congrArg (fun z => [jv 0, jv z]) (if_neg (by assumption))) ?_
      show WW K D z0 10 h2 (kc + 1) (ks + 6) 402 [(7, iv (if (σ p.toNat).isSome = true then 1 else 0)), (6, iv (cdPl p)), (5, iv n5), (0, .ref sb), (1, .ref ox), (2, .ref my), (3, .ref ra), (4, .ref rd)] [jv 0, jv 0]
      refine r_lcmp_eqS 408 X dL_law_402 dL_law_403 (by decide) ?_
      refine r_goto 2541 X dL_law_408 (by decide) ?_
      refine WW_sub (L' := [(5, iv n5), (0, .ref sb), (1, .ref ox), (2, .ref my), (3, .ref ra), (4, .ref rd)]) [2, 3, 4, 5, 6, 7] rfl ?_
      refine WW_room (show kc + 1 ≤ kc + 100 by omega) (show ks + 6 ≤ ks + 1000 by omega) ?_
      exact kk _ _ _ _ _ ⟨CS_WM hC1 hm1 ho hKW, ⟨_, e19, e29, e39, hi2, lo2, rf2, sq2, hm2, hE2⟩, ho, ⟨_, WM_a hm1 hKW hg1 rfl (Or.inl rfl)⟩, ⟨_, WM_a hm1 hKW hj1 rfl (Or.inr rfl)⟩⟩ hp
    · refine r_lconst 1 X dL_law_397 (by decide) ?_
      refine r_goto 402 X dL_law_398 (by decide) ?_
      refine WW_e (congrArg (fun z => [jv 1, jv z]) (if_pos (by assumption))) ?_
      show WW K D z0 10 h2 (kc + 1) (ks + 6) 402 [(7, iv (if (σ p.toNat).isSome = true then 1 else 0)), (6, iv (cdPl p)), (5, iv n5), (0, .ref sb), (1, .ref ox), (2, .ref my), (3, .ref ra), (4, .ref rd)] [jv 1, jv 1]
      refine r_lcmp_eqS 408 X dL_law_402 dL_law_403 (by decide) ?_
      refine r_goto 2541 X dL_law_408 (by decide) ?_
      refine WW_sub (L' := [(5, iv n5), (0, .ref sb), (1, .ref ox), (2, .ref my), (3, .ref ra), (4, .ref rd)]) [2, 3, 4, 5, 6, 7] rfl ?_
      refine WW_room (show kc + 1 ≤ kc + 100 by omega) (show ks + 6 ≤ ks + 1000 by omega) ?_
      exact kk _ _ _ _ _ ⟨CS_WM hC1 hm1 ho hKW, ⟨_, e19, e29, e39, hi2, lo2, rf2, sq2, hm2, hE2⟩, ho, ⟨_, WM_a hm1 hKW hg1 rfl (Or.inl rfl)⟩, ⟨_, WM_a hm1 hKW hj1 rfl (Or.inr rfl)⟩⟩ hp
  · obtain ⟨rfl, e19, e29, e39, hi2, lo2, rf2, sq2, hm2, hE2⟩ := hM2 hcd
    obtain ⟨hC1, g1, hg1⟩ := hB1 hcd
    have ht2 := CS_TVs hC1
    show WW K D z0 10 h2 (kc + 1) (ks + 6) 371 [(6, iv (cdPl p)), (5, iv n5), (0, .ref sb), (1, .ref ox), (2, .ref my), (3, .ref ra), (4, .ref rd)] [iv 0]
    have hg2 := WM_a hm1 hKW hg1 rfl (Or.inl rfl)
    refine r_istore (L' := [(7, iv 0), (6, iv (cdPl p)), (5, iv n5), (0, .ref sb), (1, .ref ox), (2, .ref my), (3, .ref ra), (4, .ref rd)]) X dL_law_371 (by decide) rfl ?_
    refine r_aload_n 5 X dL_law_373 rfl ?_
    refine r_callV_v X dL_law_374 kL_141 hm2.1 (c_X7_thrown (CX_l X) D z0 h2 hm2 ht2) [] rfl rfl (Nat.le_of_ble_eq_true rfl) (by decide) rfl rfl (show kc + 1 ≤ 601024 ∧ ks + 6 ≤ 7293034 by omega) ?_
    show WW K D z0 10 h2 (kc + 1) (ks + 6) 377 [(7, iv 0), (6, iv (cdPl p)), (5, iv n5), (0, .ref sb), (1, .ref ox), (2, .ref my), (3, .ref ra), (4, .ref rd)] [iv (cdPl p)]
    refine r_iload 1 X dL_law_377 rfl ?_
    refine r_icmp_eqS 384 X dL_law_379 (by decide) ?_
    refine r_iload 1 X dL_law_384 rfl ?_
    refine r_if_ne 408 X dL_law_386 (by decide) ⟨by omega, by omega⟩ (fun c9 => ?_) (fun c9 => absurd c9 hcd)
    refine r_goto 2541 X dL_law_408 (by decide) ?_
    refine WW_sub (L' := [(5, iv n5), (0, .ref sb), (1, .ref ox), (2, .ref my), (3, .ref ra), (4, .ref rd)]) [2, 3, 4, 5, 6, 7] rfl ?_
    refine WW_room (show kc + 1 ≤ kc + 100 by omega) (show ks + 6 ≤ ks + 1000 by omega) ?_
    exact kk _ _ _ _ _ ⟨CS_WM hC1 hm1 ho hKW, ⟨_, e19, e29, e39, hi2, lo2, rf2, sq2, hm2, hE2⟩, ho, ⟨_, WM_a hm1 hKW hg1 rfl (Or.inl rfl)⟩, ⟨_, WM_a hm1 hKW hj1 rfl (Or.inr rfl)⟩⟩ hp
theorem case_side {K : KT} {D : va_G} {z0 : Nat} {h : Hp} {kc ks : Nat} (X : CX K D z0 cL_law 10 RL room_1) {sb N : Nat} {xs : Nat → Int32} (S : SX K z0 sb N xs) {ox my ra rd oo : Nat} {mv : Nat → Nat} {σ : Tg} {r : List Nat} {m : Nat} {od : Nat → Int} (J : JS D h ox my ra rd oo mv σ r m od) (hp : PI r m od) (n5 : Int) (hn5 : 0 ≤ n5 ∧ n5 + 5 ≤ (N : Int)) (hkc : kc + 100 ≤ 601024 ∧ ks + 1000 ≤ 7293034) (kk : ∀ (h' : Hp) (σ' : Tg) (r' : List Nat) (m' : Nat) (od' : Nat → Int), JS D h' ox my ra rd oo mv σ' r' m' od' → PI r' m' od' → WW K D z0 10 h' (kc + 100) (ks + 1000) 2541 [(5, iv n5), (0, .ref sb), (1, .ref ox), (2, .ref my), (3, .ref ra), (4, .ref rd)] []) : WW K D z0 10 h kc ks 411 [(5, iv n5), (0, .ref sb), (1, .ref ox), (2, .ref my), (3, .ref ra), (4, .ref rd)] [] := by
  obtain ⟨hC, ⟨tc, e1, e2, e3, hi9, lo9, rf9, sq9, hm, hE⟩, ho, ⟨ga, hga⟩, gd, hgd⟩ := J
  have hoo := CS_o hC
  have ht := CS_TVs hC
  obtain ⟨p, pd⟩ : ∃ u, u = (xs (n5 + 1).toNat).toInt := ⟨_, rfl⟩
  have p_ : I32 p := by rw [pd]; exact i32_toI _
  obtain ⟨w, wd⟩ : ∃ u, u = (xs (n5 + 2).toNat).toInt := ⟨_, rfl⟩
  have w_ : I32 w := by rw [wd]; exact i32_toI _
  show WW K D z0 10 h (kc + 0) (ks + 0) 411 [(5, iv n5), (0, .ref sb), (1, .ref ox), (2, .ref my), (3, .ref ra), (4, .ref rd)] []
  refine r_aload_n 2 X dL_law_411 rfl ?_
  refine r_aload_n 1 X dL_law_412 rfl ?_
  refine r_iload 0 X dL_law_413 rfl ?_
  refine r_iconst X dL_law_415 ?_
  refine r_iadd X dL_law_416 ?_
  refine r_sld (v := p) X S dL_law_417 ⟨by omega, by omega⟩ pd ?_
  refine r_aload_n 1 X dL_law_418 rfl ?_
  refine r_iload 0 X dL_law_419 rfl ?_
  refine r_iconst X dL_law_421 ?_
  refine r_iadd X dL_law_422 ?_
  refine r_sld (v := w) X S dL_law_423 ⟨by omega, by omega⟩ wd ?_
  refine r_aload_n 4 X dL_law_424 rfl ?_
  refine r_callH X dL_law_425 kL_152 (c_L_side (CX_l X) D z0 h hC hp p p_ w w_ hga) [] rfl rfl (Nat.le_of_ble_eq_true rfl) (by decide) (show kc + 4 ≤ 601024 ∧ ks + 24 ≤ 7293034 by omega) (fun w9 h1 hw9 => ?_)
  obtain ⟨rfl, hcdb, hA1, hB1, hKA⟩ := hw9
  have hm1 := Mz_fr hm hKA ho ⟨_, hoo⟩ hga rfl (Or.inl rfl)
  have hj1 := KA_d hKA hoo hga hgd
  show WW K D z0 10 h1 (kc + 4) (ks + 24) 428 [(5, iv n5), (0, .ref sb), (1, .ref ox), (2, .ref my), (3, .ref ra), (4, .ref rd)] [iv (cdSd σ p w)]
  refine r_istore (L' := [(6, iv (cdSd σ p w)), (5, iv n5), (0, .ref sb), (1, .ref ox), (2, .ref my), (3, .ref ra), (4, .ref rd)]) X dL_law_428 (by decide) rfl ?_
  refine r_aload_n 4 X dL_law_430 rfl ?_
  refine r_aload_n 2 X dL_law_431 rfl ?_
  refine r_iload 1 X dL_law_432 rfl ?_
  refine r_iconst X dL_law_434 ?_
  refine r_iadd X dL_law_435 ?_
  refine r_sld (v := p) X S dL_law_436 ⟨by omega, by omega⟩ pd ?_
  refine r_aload_n 2 X dL_law_437 rfl ?_
  refine r_iload 1 X dL_law_438 rfl ?_
  refine r_iconst X dL_law_440 ?_
  refine r_iadd X dL_law_441 ?_
  refine r_sld (v := w) X S dL_law_442 ⟨by omega, by omega⟩ wd ?_
  refine r_callV X dL_law_443 kL_155 hm1.1 (c_X7_side (CX_l X) D z0 h1 hm1 ht p p_ w w_) [] rfl rfl (Nat.le_of_ble_eq_true rfl) (by decide) (show kc + 4 ≤ 601024 ∧ ks + 24 ≤ 7293034 by omega) (fun _ _ z => z.elim) (fun w8 h2 hw8 => ?_)
  obtain ⟨hM1, hM2, hKW⟩ := MO_MW hE hw8
  by_cases hcd : cdSd σ p w = 0
  · obtain ⟨rfl, e19, e29, e39, hi2, lo2, rf2, sq2, hm2, hE2⟩ := hM1 hcd
    obtain ⟨hC1, g1, hg1, hgE⟩ := hA1 hcd
    have ht2 := CS_TVs hC1
    show WW K D z0 10 h2 (kc + 4) (ks + 24) 446 [(6, iv (cdSd σ p w)), (5, iv n5), (0, .ref sb), (1, .ref ox), (2, .ref my), (3, .ref ra), (4, .ref rd)] [iv (on σ p (fun a b c => ln a b c w))]
    have hg2 := WM_a hm1 hKW hg1 rfl (Or.inl rfl)
    refine r_istore (L' := [(7, iv (on σ p (fun a b c => ln a b c w))), (6, iv (cdSd σ p w)), (5, iv n5), (0, .ref sb), (1, .ref ox), (2, .ref my), (3, .ref ra), (4, .ref rd)]) X dL_law_446 (by decide) rfl ?_
    refine r_aload_n 5 X dL_law_448 rfl ?_
    refine r_callV_v X dL_law_449 kL_141 hm2.1 (c_X7_thrown (CX_l X) D z0 h2 hm2 ht2) [] rfl rfl (Nat.le_of_ble_eq_true rfl) (by decide) rfl rfl (show kc + 4 ≤ 601024 ∧ ks + 24 ≤ 7293034 by omega) ?_
    show WW K D z0 10 h2 (kc + 4) (ks + 24) 452 [(7, iv (on σ p (fun a b c => ln a b c w))), (6, iv (cdSd σ p w)), (5, iv n5), (0, .ref sb), (1, .ref ox), (2, .ref my), (3, .ref ra), (4, .ref rd)] [iv (cdSd σ p w)]
    refine r_iload 1 X dL_law_452 rfl ?_
    refine r_icmp_eqS 459 X dL_law_454 (by decide) ?_
    refine r_iload 1 X dL_law_459 rfl ?_
    refine r_if_ne 476 X dL_law_461 (by decide) ⟨by omega, by omega⟩ (fun c9 => absurd hcd c9) (fun c9 => ?_)
    refine r_aload_n 6 X dL_law_464 rfl ?_
    refine r_iconst X dL_law_465 ?_
    refine r_laload X dL_law_466 hg2 ⟨by omega, by omega⟩ (by decide) ?_
    refine WW_e (congrArg (fun z => z :: []) (show jv (g1 (0 : Int).toNat) = jv (w32 (on σ p (fun a b c => ln a b c w))) from hgE)) ?_
    show WW K D z0 10 h2 (kc + 4) (ks + 24) 467 [(7, iv (on σ p (fun a b c => ln a b c w))), (6, iv (cdSd σ p w)), (5, iv n5), (0, .ref sb), (1, .ref ox), (2, .ref my), (3, .ref ra), (4, .ref rd)] [jv (w32 (on σ p (fun a b c => ln a b c w)))]
    refine r_iload 0 X dL_law_467 rfl ?_
    refine r_i2lS X dL_law_469 ?_
    refine r_lcmp_eqS 476 X dL_law_470 dL_law_471 (by decide) ?_
    refine r_goto 2541 X dL_law_476 (by decide) ?_
    refine WW_sub (L' := [(5, iv n5), (0, .ref sb), (1, .ref ox), (2, .ref my), (3, .ref ra), (4, .ref rd)]) [2, 3, 4, 5, 6, 7] rfl ?_
    refine WW_room (show kc + 4 ≤ kc + 100 by omega) (show ks + 24 ≤ ks + 1000 by omega) ?_
    exact kk _ _ _ _ _ ⟨CS_WM hC1 hm1 ho hKW, ⟨_, e19, e29, e39, hi2, lo2, rf2, sq2, hm2, hE2⟩, ho, ⟨_, WM_a hm1 hKW hg1 rfl (Or.inl rfl)⟩, ⟨_, WM_a hm1 hKW hj1 rfl (Or.inr rfl)⟩⟩ hp
  · obtain ⟨rfl, e19, e29, e39, hi2, lo2, rf2, sq2, hm2, hE2⟩ := hM2 hcd
    obtain ⟨hC1, g1, hg1⟩ := hB1 hcd
    have ht2 := CS_TVs hC1
    show WW K D z0 10 h2 (kc + 4) (ks + 24) 446 [(6, iv (cdSd σ p w)), (5, iv n5), (0, .ref sb), (1, .ref ox), (2, .ref my), (3, .ref ra), (4, .ref rd)] [iv 0]
    have hg2 := WM_a hm1 hKW hg1 rfl (Or.inl rfl)
    refine r_istore (L' := [(7, iv 0), (6, iv (cdSd σ p w)), (5, iv n5), (0, .ref sb), (1, .ref ox), (2, .ref my), (3, .ref ra), (4, .ref rd)]) X dL_law_446 (by decide) rfl ?_
    refine r_aload_n 5 X dL_law_448 rfl ?_
    refine r_callV_v X dL_law_449 kL_141 hm2.1 (c_X7_thrown (CX_l X) D z0 h2 hm2 ht2) [] rfl rfl (Nat.le_of_ble_eq_true rfl) (by decide) rfl rfl (show kc + 4 ≤ 601024 ∧ ks + 24 ≤ 7293034 by omega) ?_
    show WW K D z0 10 h2 (kc + 4) (ks + 24) 452 [(7, iv 0), (6, iv (cdSd σ p w)), (5, iv n5), (0, .ref sb), (1, .ref ox), (2, .ref my), (3, .ref ra), (4, .ref rd)] [iv (cdSd σ p w)]
    refine r_iload 1 X dL_law_452 rfl ?_
    refine r_icmp_eqS 459 X dL_law_454 (by decide) ?_
    refine r_iload 1 X dL_law_459 rfl ?_
    refine r_if_ne 476 X dL_law_461 (by decide) ⟨by omega, by omega⟩ (fun c9 => ?_) (fun c9 => absurd c9 hcd)
    refine r_goto 2541 X dL_law_476 (by decide) ?_
    refine WW_sub (L' := [(5, iv n5), (0, .ref sb), (1, .ref ox), (2, .ref my), (3, .ref ra), (4, .ref rd)]) [2, 3, 4, 5, 6, 7] rfl ?_
    refine WW_room (show kc + 4 ≤ kc + 100 by omega) (show ks + 24 ≤ ks + 1000 by omega) ?_
    exact kk _ _ _ _ _ ⟨CS_WM hC1 hm1 ho hKW, ⟨_, e19, e29, e39, hi2, lo2, rf2, sq2, hm2, hE2⟩, ho, ⟨_, WM_a hm1 hKW hg1 rfl (Or.inl rfl)⟩, ⟨_, WM_a hm1 hKW hj1 rfl (Or.inr rfl)⟩⟩ hp
theorem case_copy {K : KT} {D : va_G} {z0 : Nat} {h : Hp} {kc ks : Nat} (X : CX K D z0 cL_law 10 RL room_1) {sb N : Nat} {xs : Nat → Int32} (S : SX K z0 sb N xs) {ox my ra rd oo : Nat} {mv : Nat → Nat} {σ : Tg} {r : List Nat} {m : Nat} {od : Nat → Int} (J : JS D h ox my ra rd oo mv σ r m od) (hp : PI r m od) (n5 : Int) (hn5 : 0 ≤ n5 ∧ n5 + 5 ≤ (N : Int)) (hkc : kc + 100 ≤ 601024 ∧ ks + 1000 ≤ 7293034) (kk : ∀ (h' : Hp) (σ' : Tg) (r' : List Nat) (m' : Nat) (od' : Nat → Int), JS D h' ox my ra rd oo mv σ' r' m' od' → PI r' m' od' → WW K D z0 10 h' (kc + 100) (ks + 1000) 2541 [(5, iv n5), (0, .ref sb), (1, .ref ox), (2, .ref my), (3, .ref ra), (4, .ref rd)] []) : WW K D z0 10 h kc ks 479 [(5, iv n5), (0, .ref sb), (1, .ref ox), (2, .ref my), (3, .ref ra), (4, .ref rd)] [] := by
  obtain ⟨hC, ⟨tc, e1, e2, e3, hi9, lo9, rf9, sq9, hm, hE⟩, ho, ⟨ga, hga⟩, gd, hgd⟩ := J
  have hoo := CS_o hC
  have ht := CS_TVs hC
  obtain ⟨p, pd⟩ : ∃ u, u = (xs (n5 + 1).toNat).toInt := ⟨_, rfl⟩
  have p_ : I32 p := by rw [pd]; exact i32_toI _
  obtain ⟨q, qd⟩ : ∃ u, u = (xs (n5 + 2).toNat).toInt := ⟨_, rfl⟩
  have q_ : I32 q := by rw [qd]; exact i32_toI _
  show WW K D z0 10 h (kc + 0) (ks + 0) 479 [(5, iv n5), (0, .ref sb), (1, .ref ox), (2, .ref my), (3, .ref ra), (4, .ref rd)] []
  refine r_aload_n 2 X dL_law_479 rfl ?_
  refine r_aload_n 1 X dL_law_480 rfl ?_
  refine r_iload 0 X dL_law_481 rfl ?_
  refine r_iconst X dL_law_483 ?_
  refine r_iadd X dL_law_484 ?_
  refine r_sld (v := p) X S dL_law_485 ⟨by omega, by omega⟩ pd ?_
  refine r_aload_n 1 X dL_law_486 rfl ?_
  refine r_iload 0 X dL_law_487 rfl ?_
  refine r_iconst X dL_law_489 ?_
  refine r_iadd X dL_law_490 ?_
  refine r_sld (v := q) X S dL_law_491 ⟨by omega, by omega⟩ qd ?_
  refine r_aload_n 4 X dL_law_492 rfl ?_
  refine r_callH X dL_law_493 kL_156 (c_L_copy (CX_l X) D z0 h hC hp p p_ q q_ hga) [] rfl rfl (Nat.le_of_ble_eq_true rfl) (by decide) (show kc + 4 ≤ 601024 ∧ ks + 24 ≤ 7293034 by omega) (fun w9 h1 hw9 => ?_)
  obtain ⟨rfl, hcdb, hA1, hB1, hKA⟩ := hw9
  have hm1 := Mz_fr hm hKA ho ⟨_, hoo⟩ hga rfl (Or.inl rfl)
  have hj1 := KA_d hKA hoo hga hgd
  show WW K D z0 10 h1 (kc + 4) (ks + 24) 496 [(5, iv n5), (0, .ref sb), (1, .ref ox), (2, .ref my), (3, .ref ra), (4, .ref rd)] [iv (cdCo σ p q)]
  refine r_istore (L' := [(6, iv (cdCo σ p q)), (5, iv n5), (0, .ref sb), (1, .ref ox), (2, .ref my), (3, .ref ra), (4, .ref rd)]) X dL_law_496 (by decide) rfl ?_
  refine r_aload_n 4 X dL_law_498 rfl ?_
  refine r_aload_n 2 X dL_law_499 rfl ?_
  refine r_iload 1 X dL_law_500 rfl ?_
  refine r_iconst X dL_law_502 ?_
  refine r_iadd X dL_law_503 ?_
  refine r_sld (v := p) X S dL_law_504 ⟨by omega, by omega⟩ pd ?_
  refine r_aload_n 2 X dL_law_505 rfl ?_
  refine r_iload 1 X dL_law_506 rfl ?_
  refine r_iconst X dL_law_508 ?_
  refine r_iadd X dL_law_509 ?_
  refine r_sld (v := q) X S dL_law_510 ⟨by omega, by omega⟩ qd ?_
  refine r_callV X dL_law_511 kL_158 hm1.1 (c_X7_copy (CX_l X) D z0 h1 hm1 ht p p_ q q_) [] rfl rfl (Nat.le_of_ble_eq_true rfl) (by decide) (show kc + 4 ≤ 601024 ∧ ks + 24 ≤ 7293034 by omega) (fun _ _ z => z.elim) (fun w8 h2 hw8 => ?_)
  obtain ⟨hM1, hM2, hKW⟩ := MO_MW hE hw8
  by_cases hcd : cdCo σ p q = 0
  · obtain ⟨rfl, e19, e29, e39, hi2, lo2, rf2, sq2, hm2, hE2⟩ := hM1 hcd
    obtain ⟨hC1, g1, hg1, hgE⟩ := hA1 hcd
    have ht2 := CS_TVs hC1
    show WW K D z0 10 h2 (kc + 4) (ks + 24) 514 [(6, iv (cdCo σ p q)), (5, iv n5), (0, .ref sb), (1, .ref ox), (2, .ref my), (3, .ref ra), (4, .ref rd)] [iv (cntT (up σ q.toNat (σ p.toNat)) 16)]
    have hg2 := WM_a hm1 hKW hg1 rfl (Or.inl rfl)
    refine r_istore (L' := [(7, iv (cntT (up σ q.toNat (σ p.toNat)) 16)), (6, iv (cdCo σ p q)), (5, iv n5), (0, .ref sb), (1, .ref ox), (2, .ref my), (3, .ref ra), (4, .ref rd)]) X dL_law_514 (by decide) rfl ?_
    refine r_aload_n 5 X dL_law_516 rfl ?_
    refine r_callV_v X dL_law_517 kL_141 hm2.1 (c_X7_thrown (CX_l X) D z0 h2 hm2 ht2) [] rfl rfl (Nat.le_of_ble_eq_true rfl) (by decide) rfl rfl (show kc + 4 ≤ 601024 ∧ ks + 24 ≤ 7293034 by omega) ?_
    show WW K D z0 10 h2 (kc + 4) (ks + 24) 520 [(7, iv (cntT (up σ q.toNat (σ p.toNat)) 16)), (6, iv (cdCo σ p q)), (5, iv n5), (0, .ref sb), (1, .ref ox), (2, .ref my), (3, .ref ra), (4, .ref rd)] [iv (cdCo σ p q)]
    refine r_iload 1 X dL_law_520 rfl ?_
    refine r_icmp_eqS 527 X dL_law_522 (by decide) ?_
    refine r_iload 1 X dL_law_527 rfl ?_
    refine r_if_ne 544 X dL_law_529 (by decide) ⟨by omega, by omega⟩ (fun c9 => absurd hcd c9) (fun c9 => ?_)
    refine r_aload_n 6 X dL_law_532 rfl ?_
    refine r_iconst X dL_law_533 ?_
    refine r_laload X dL_law_534 hg2 ⟨by omega, by omega⟩ (by decide) ?_
    refine WW_e (congrArg (fun z => z :: []) (show jv (g1 (0 : Int).toNat) = jv (w32 (cntT (up σ q.toNat (σ p.toNat)) 16)) from hgE)) ?_
    show WW K D z0 10 h2 (kc + 4) (ks + 24) 535 [(7, iv (cntT (up σ q.toNat (σ p.toNat)) 16)), (6, iv (cdCo σ p q)), (5, iv n5), (0, .ref sb), (1, .ref ox), (2, .ref my), (3, .ref ra), (4, .ref rd)] [jv (w32 (cntT (up σ q.toNat (σ p.toNat)) 16))]
    refine r_iload 0 X dL_law_535 rfl ?_
    refine r_i2lS X dL_law_537 ?_
    refine r_lcmp_eqS 544 X dL_law_538 dL_law_539 (by decide) ?_
    refine r_goto 2541 X dL_law_544 (by decide) ?_
    refine WW_sub (L' := [(5, iv n5), (0, .ref sb), (1, .ref ox), (2, .ref my), (3, .ref ra), (4, .ref rd)]) [2, 3, 4, 5, 6, 7] rfl ?_
    refine WW_room (show kc + 4 ≤ kc + 100 by omega) (show ks + 24 ≤ ks + 1000 by omega) ?_
    exact kk _ _ _ _ _ ⟨CS_WM hC1 hm1 ho hKW, ⟨_, e19, e29, e39, hi2, lo2, rf2, sq2, hm2, hE2⟩, ho, ⟨_, WM_a hm1 hKW hg1 rfl (Or.inl rfl)⟩, ⟨_, WM_a hm1 hKW hj1 rfl (Or.inr rfl)⟩⟩ hp
  · obtain ⟨rfl, e19, e29, e39, hi2, lo2, rf2, sq2, hm2, hE2⟩ := hM2 hcd
    obtain ⟨hC1, g1, hg1⟩ := hB1 hcd
    have ht2 := CS_TVs hC1
    show WW K D z0 10 h2 (kc + 4) (ks + 24) 514 [(6, iv (cdCo σ p q)), (5, iv n5), (0, .ref sb), (1, .ref ox), (2, .ref my), (3, .ref ra), (4, .ref rd)] [iv 0]
    have hg2 := WM_a hm1 hKW hg1 rfl (Or.inl rfl)
    refine r_istore (L' := [(7, iv 0), (6, iv (cdCo σ p q)), (5, iv n5), (0, .ref sb), (1, .ref ox), (2, .ref my), (3, .ref ra), (4, .ref rd)]) X dL_law_514 (by decide) rfl ?_
    refine r_aload_n 5 X dL_law_516 rfl ?_
    refine r_callV_v X dL_law_517 kL_141 hm2.1 (c_X7_thrown (CX_l X) D z0 h2 hm2 ht2) [] rfl rfl (Nat.le_of_ble_eq_true rfl) (by decide) rfl rfl (show kc + 4 ≤ 601024 ∧ ks + 24 ≤ 7293034 by omega) ?_
    show WW K D z0 10 h2 (kc + 4) (ks + 24) 520 [(7, iv 0), (6, iv (cdCo σ p q)), (5, iv n5), (0, .ref sb), (1, .ref ox), (2, .ref my), (3, .ref ra), (4, .ref rd)] [iv (cdCo σ p q)]
    refine r_iload 1 X dL_law_520 rfl ?_
    refine r_icmp_eqS 527 X dL_law_522 (by decide) ?_
    refine r_iload 1 X dL_law_527 rfl ?_
    refine r_if_ne 544 X dL_law_529 (by decide) ⟨by omega, by omega⟩ (fun c9 => ?_) (fun c9 => absurd c9 hcd)
    refine r_goto 2541 X dL_law_544 (by decide) ?_
    refine WW_sub (L' := [(5, iv n5), (0, .ref sb), (1, .ref ox), (2, .ref my), (3, .ref ra), (4, .ref rd)]) [2, 3, 4, 5, 6, 7] rfl ?_
    refine WW_room (show kc + 4 ≤ kc + 100 by omega) (show ks + 24 ≤ ks + 1000 by omega) ?_
    exact kk _ _ _ _ _ ⟨CS_WM hC1 hm1 ho hKW, ⟨_, e19, e29, e39, hi2, lo2, rf2, sq2, hm2, hE2⟩, ho, ⟨_, WM_a hm1 hKW hg1 rfl (Or.inl rfl)⟩, ⟨_, WM_a hm1 hKW hj1 rfl (Or.inr rfl)⟩⟩ hp
theorem case_scale {K : KT} {D : va_G} {z0 : Nat} {h : Hp} {kc ks : Nat} (X : CX K D z0 cL_law 10 RL room_1) {sb N : Nat} {xs : Nat → Int32} (S : SX K z0 sb N xs) {ox my ra rd oo : Nat} {mv : Nat → Nat} {σ : Tg} {r : List Nat} {m : Nat} {od : Nat → Int} (J : JS D h ox my ra rd oo mv σ r m od) (hp : PI r m od) (n5 : Int) (hn5 : 0 ≤ n5 ∧ n5 + 5 ≤ (N : Int)) (hkc : kc + 100 ≤ 601024 ∧ ks + 1000 ≤ 7293034) (kk : ∀ (h' : Hp) (σ' : Tg) (r' : List Nat) (m' : Nat) (od' : Nat → Int), JS D h' ox my ra rd oo mv σ' r' m' od' → PI r' m' od' → WW K D z0 10 h' (kc + 100) (ks + 1000) 2541 [(5, iv n5), (0, .ref sb), (1, .ref ox), (2, .ref my), (3, .ref ra), (4, .ref rd)] []) : WW K D z0 10 h kc ks 547 [(5, iv n5), (0, .ref sb), (1, .ref ox), (2, .ref my), (3, .ref ra), (4, .ref rd)] [] := by
  obtain ⟨hC, ⟨tc, e1, e2, e3, hi9, lo9, rf9, sq9, hm, hE⟩, ho, ⟨ga, hga⟩, gd, hgd⟩ := J
  have hoo := CS_o hC
  have ht := CS_TVs hC
  obtain ⟨p, pd⟩ : ∃ u, u = (xs (n5 + 1).toNat).toInt := ⟨_, rfl⟩
  have p_ : I32 p := by rw [pd]; exact i32_toI _
  obtain ⟨w, wd⟩ : ∃ u, u = (xs (n5 + 2).toNat).toInt := ⟨_, rfl⟩
  have w_ : I32 w := by rw [wd]; exact i32_toI _
  show WW K D z0 10 h (kc + 0) (ks + 0) 547 [(5, iv n5), (0, .ref sb), (1, .ref ox), (2, .ref my), (3, .ref ra), (4, .ref rd)] []
  refine r_aload_n 2 X dL_law_547 rfl ?_
  refine r_aload_n 1 X dL_law_548 rfl ?_
  refine r_iload 0 X dL_law_549 rfl ?_
  refine r_iconst X dL_law_551 ?_
  refine r_iadd X dL_law_552 ?_
  refine r_sld (v := p) X S dL_law_553 ⟨by omega, by omega⟩ pd ?_
  refine r_aload_n 1 X dL_law_554 rfl ?_
  refine r_iload 0 X dL_law_555 rfl ?_
  refine r_iconst X dL_law_557 ?_
  refine r_iadd X dL_law_558 ?_
  refine r_sld (v := w) X S dL_law_559 ⟨by omega, by omega⟩ wd ?_
  refine r_aload_n 4 X dL_law_560 rfl ?_
  refine r_callH X dL_law_561 kL_159 (c_L_scale (CX_l X) D z0 h hC hp p p_ w w_ hga) [] rfl rfl (Nat.le_of_ble_eq_true rfl) (by decide) (show kc + 6 ≤ 601024 ∧ ks + 35 ≤ 7293034 by omega) (fun w9 h1 hw9 => ?_)
  obtain ⟨rfl, hcdb, hA1, hB1, hKA⟩ := hw9
  have hm1 := Mz_fr hm hKA ho ⟨_, hoo⟩ hga rfl (Or.inl rfl)
  have hj1 := KA_d hKA hoo hga hgd
  show WW K D z0 10 h1 (kc + 6) (ks + 35) 564 [(5, iv n5), (0, .ref sb), (1, .ref ox), (2, .ref my), (3, .ref ra), (4, .ref rd)] [iv (cdSc σ p w)]
  refine r_istore (L' := [(6, iv (cdSc σ p w)), (5, iv n5), (0, .ref sb), (1, .ref ox), (2, .ref my), (3, .ref ra), (4, .ref rd)]) X dL_law_564 (by decide) rfl ?_
  refine r_aload_n 4 X dL_law_566 rfl ?_
  refine r_aload_n 2 X dL_law_567 rfl ?_
  refine r_iload 1 X dL_law_568 rfl ?_
  refine r_iconst X dL_law_570 ?_
  refine r_iadd X dL_law_571 ?_
  refine r_sld (v := p) X S dL_law_572 ⟨by omega, by omega⟩ pd ?_
  refine r_aload_n 2 X dL_law_573 rfl ?_
  refine r_iload 1 X dL_law_574 rfl ?_
  refine r_iconst X dL_law_576 ?_
  refine r_iadd X dL_law_577 ?_
  refine r_sld (v := w) X S dL_law_578 ⟨by omega, by omega⟩ wd ?_
  refine r_callV X dL_law_579 kL_161 hm1.1 (c_X7_scale (CX_l X) D z0 h1 hm1 ht p p_ w w_) [] rfl rfl (Nat.le_of_ble_eq_true rfl) (by decide) (show kc + 6 ≤ 601024 ∧ ks + 35 ≤ 7293034 by omega) (fun _ _ z => z.elim) (fun w8 h2 hw8 => ?_)
  obtain ⟨hM1, hM2, hKW⟩ := MO_MW hE hw8
  by_cases hcd : cdSc σ p w = 0
  · obtain ⟨rfl, e19, e29, e39, hi2, lo2, rf2, sq2, hm2, hE2⟩ := hM1 hcd
    obtain ⟨hC1, g1, hg1, hgE⟩ := hA1 hcd
    have ht2 := CS_TVs hC1
    show WW K D z0 10 h2 (kc + 6) (ks + 35) 582 [(6, iv (cdSc σ p w)), (5, iv n5), (0, .ref sb), (1, .ref ox), (2, .ref my), (3, .ref ra), (4, .ref rd)] [iv (on σ p (fun _ _ c => w * c))]
    have hg2 := WM_a hm1 hKW hg1 rfl (Or.inl rfl)
    refine r_istore (L' := [(7, iv (on σ p (fun _ _ c => w * c))), (6, iv (cdSc σ p w)), (5, iv n5), (0, .ref sb), (1, .ref ox), (2, .ref my), (3, .ref ra), (4, .ref rd)]) X dL_law_582 (by decide) rfl ?_
    refine r_aload_n 5 X dL_law_584 rfl ?_
    refine r_callV_v X dL_law_585 kL_141 hm2.1 (c_X7_thrown (CX_l X) D z0 h2 hm2 ht2) [] rfl rfl (Nat.le_of_ble_eq_true rfl) (by decide) rfl rfl (show kc + 6 ≤ 601024 ∧ ks + 35 ≤ 7293034 by omega) ?_
    show WW K D z0 10 h2 (kc + 6) (ks + 35) 588 [(7, iv (on σ p (fun _ _ c => w * c))), (6, iv (cdSc σ p w)), (5, iv n5), (0, .ref sb), (1, .ref ox), (2, .ref my), (3, .ref ra), (4, .ref rd)] [iv (cdSc σ p w)]
    refine r_iload 1 X dL_law_588 rfl ?_
    refine r_icmp_eqS 595 X dL_law_590 (by decide) ?_
    refine r_iload 1 X dL_law_595 rfl ?_
    refine r_if_ne 612 X dL_law_597 (by decide) ⟨by omega, by omega⟩ (fun c9 => absurd hcd c9) (fun c9 => ?_)
    refine r_aload_n 6 X dL_law_600 rfl ?_
    refine r_iconst X dL_law_601 ?_
    refine r_laload X dL_law_602 hg2 ⟨by omega, by omega⟩ (by decide) ?_
    refine WW_e (congrArg (fun z => z :: []) (show jv (g1 (0 : Int).toNat) = jv (w32 (on σ p (fun _ _ c => w * c))) from hgE)) ?_
    show WW K D z0 10 h2 (kc + 6) (ks + 35) 603 [(7, iv (on σ p (fun _ _ c => w * c))), (6, iv (cdSc σ p w)), (5, iv n5), (0, .ref sb), (1, .ref ox), (2, .ref my), (3, .ref ra), (4, .ref rd)] [jv (w32 (on σ p (fun _ _ c => w * c)))]
    refine r_iload 0 X dL_law_603 rfl ?_
    refine r_i2lS X dL_law_605 ?_
    refine r_lcmp_eqS 612 X dL_law_606 dL_law_607 (by decide) ?_
    refine r_goto 2541 X dL_law_612 (by decide) ?_
    refine WW_sub (L' := [(5, iv n5), (0, .ref sb), (1, .ref ox), (2, .ref my), (3, .ref ra), (4, .ref rd)]) [2, 3, 4, 5, 6, 7] rfl ?_
    refine WW_room (show kc + 6 ≤ kc + 100 by omega) (show ks + 35 ≤ ks + 1000 by omega) ?_
    exact kk _ _ _ _ _ ⟨CS_WM hC1 hm1 ho hKW, ⟨_, e19, e29, e39, hi2, lo2, rf2, sq2, hm2, hE2⟩, ho, ⟨_, WM_a hm1 hKW hg1 rfl (Or.inl rfl)⟩, ⟨_, WM_a hm1 hKW hj1 rfl (Or.inr rfl)⟩⟩ hp
  · obtain ⟨rfl, e19, e29, e39, hi2, lo2, rf2, sq2, hm2, hE2⟩ := hM2 hcd
    obtain ⟨hC1, g1, hg1⟩ := hB1 hcd
    have ht2 := CS_TVs hC1
    show WW K D z0 10 h2 (kc + 6) (ks + 35) 582 [(6, iv (cdSc σ p w)), (5, iv n5), (0, .ref sb), (1, .ref ox), (2, .ref my), (3, .ref ra), (4, .ref rd)] [iv 0]
    have hg2 := WM_a hm1 hKW hg1 rfl (Or.inl rfl)
    refine r_istore (L' := [(7, iv 0), (6, iv (cdSc σ p w)), (5, iv n5), (0, .ref sb), (1, .ref ox), (2, .ref my), (3, .ref ra), (4, .ref rd)]) X dL_law_582 (by decide) rfl ?_
    refine r_aload_n 5 X dL_law_584 rfl ?_
    refine r_callV_v X dL_law_585 kL_141 hm2.1 (c_X7_thrown (CX_l X) D z0 h2 hm2 ht2) [] rfl rfl (Nat.le_of_ble_eq_true rfl) (by decide) rfl rfl (show kc + 6 ≤ 601024 ∧ ks + 35 ≤ 7293034 by omega) ?_
    show WW K D z0 10 h2 (kc + 6) (ks + 35) 588 [(7, iv 0), (6, iv (cdSc σ p w)), (5, iv n5), (0, .ref sb), (1, .ref ox), (2, .ref my), (3, .ref ra), (4, .ref rd)] [iv (cdSc σ p w)]
    refine r_iload 1 X dL_law_588 rfl ?_
    refine r_icmp_eqS 595 X dL_law_590 (by decide) ?_
    refine r_iload 1 X dL_law_595 rfl ?_
    refine r_if_ne 612 X dL_law_597 (by decide) ⟨by omega, by omega⟩ (fun c9 => ?_) (fun c9 => absurd c9 hcd)
    refine r_goto 2541 X dL_law_612 (by decide) ?_
    refine WW_sub (L' := [(5, iv n5), (0, .ref sb), (1, .ref ox), (2, .ref my), (3, .ref ra), (4, .ref rd)]) [2, 3, 4, 5, 6, 7] rfl ?_
    refine WW_room (show kc + 6 ≤ kc + 100 by omega) (show ks + 35 ≤ ks + 1000 by omega) ?_
    exact kk _ _ _ _ _ ⟨CS_WM hC1 hm1 ho hKW, ⟨_, e19, e29, e39, hi2, lo2, rf2, sq2, hm2, hE2⟩, ho, ⟨_, WM_a hm1 hKW hg1 rfl (Or.inl rfl)⟩, ⟨_, WM_a hm1 hKW hj1 rfl (Or.inr rfl)⟩⟩ hp
theorem case_reduce {K : KT} {D : va_G} {z0 : Nat} {h : Hp} {kc ks : Nat} (X : CX K D z0 cL_law 10 RL room_1) {sb N : Nat} {xs : Nat → Int32} (S : SX K z0 sb N xs) {ox my ra rd oo : Nat} {mv : Nat → Nat} {σ : Tg} {r : List Nat} {m : Nat} {od : Nat → Int} (J : JS D h ox my ra rd oo mv σ r m od) (hp : PI r m od) (n5 : Int) (hn5 : 0 ≤ n5 ∧ n5 + 5 ≤ (N : Int)) (hkc : kc + 100 ≤ 601024 ∧ ks + 1000 ≤ 7293034) (kk : ∀ (h' : Hp) (σ' : Tg) (r' : List Nat) (m' : Nat) (od' : Nat → Int), JS D h' ox my ra rd oo mv σ' r' m' od' → PI r' m' od' → WW K D z0 10 h' (kc + 100) (ks + 1000) 2541 [(5, iv n5), (0, .ref sb), (1, .ref ox), (2, .ref my), (3, .ref ra), (4, .ref rd)] []) : WW K D z0 10 h kc ks 615 [(5, iv n5), (0, .ref sb), (1, .ref ox), (2, .ref my), (3, .ref ra), (4, .ref rd)] [] := by
  obtain ⟨hC, ⟨tc, e1, e2, e3, hi9, lo9, rf9, sq9, hm, hE⟩, ho, ⟨ga, hga⟩, gd, hgd⟩ := J
  have hoo := CS_o hC
  have ht := CS_TVs hC
  obtain ⟨p, pd⟩ : ∃ u, u = (xs (n5 + 1).toNat).toInt := ⟨_, rfl⟩
  have p_ : I32 p := by rw [pd]; exact i32_toI _
  show WW K D z0 10 h (kc + 0) (ks + 0) 615 [(5, iv n5), (0, .ref sb), (1, .ref ox), (2, .ref my), (3, .ref ra), (4, .ref rd)] []
  refine r_aload_n 2 X dL_law_615 rfl ?_
  refine r_aload_n 1 X dL_law_616 rfl ?_
  refine r_iload 0 X dL_law_617 rfl ?_
  refine r_iconst X dL_law_619 ?_
  refine r_iadd X dL_law_620 ?_
  refine r_sld (v := p) X S dL_law_621 ⟨by omega, by omega⟩ pd ?_
  refine r_aload_n 4 X dL_law_622 rfl ?_
  refine r_callH X dL_law_623 kL_162 (c_L_reduce (CX_l X) D z0 h hC hp p p_ hga) [] rfl rfl (Nat.le_of_ble_eq_true rfl) (by decide) (show kc + 3 ≤ 601024 ∧ ks + 17 ≤ 7293034 by omega) (fun w9 h1 hw9 => ?_)
  obtain ⟨rfl, hcdb, hA1, hB1, hKA⟩ := hw9
  have hm1 := Mz_fr hm hKA ho ⟨_, hoo⟩ hga rfl (Or.inl rfl)
  have hj1 := KA_d hKA hoo hga hgd
  show WW K D z0 10 h1 (kc + 3) (ks + 17) 626 [(5, iv n5), (0, .ref sb), (1, .ref ox), (2, .ref my), (3, .ref ra), (4, .ref rd)] [iv (ms σ p 2)]
  refine r_istore (L' := [(6, iv (ms σ p 2)), (5, iv n5), (0, .ref sb), (1, .ref ox), (2, .ref my), (3, .ref ra), (4, .ref rd)]) X dL_law_626 (by decide) rfl ?_
  refine r_aload_n 4 X dL_law_628 rfl ?_
  refine r_aload_n 2 X dL_law_629 rfl ?_
  refine r_iload 1 X dL_law_630 rfl ?_
  refine r_iconst X dL_law_632 ?_
  refine r_iadd X dL_law_633 ?_
  refine r_sld (v := p) X S dL_law_634 ⟨by omega, by omega⟩ pd ?_
  refine r_callV X dL_law_635 kL_164 hm1.1 (c_X7_reduce (CX_l X) D z0 h1 hm1 ht p p_) [] rfl rfl (Nat.le_of_ble_eq_true rfl) (by decide) (show kc + 3 ≤ 601024 ∧ ks + 17 ≤ 7293034 by omega) (fun _ _ z => z.elim) (fun w8 h2 hw8 => ?_)
  obtain ⟨hM1, hM2, hKW⟩ := MO_MW hE hw8
  by_cases hcd : ms σ p 2 = 0
  · obtain ⟨rfl, e19, e29, e39, hi2, lo2, rf2, sq2, hm2, hE2⟩ := hM1 hcd
    obtain ⟨hC1, g1, hg1, hgE⟩ := hA1 hcd
    have ht2 := CS_TVs hC1
    show WW K D z0 10 h2 (kc + 3) (ks + 17) 638 [(6, iv (ms σ p 2)), (5, iv n5), (0, .ref sb), (1, .ref ox), (2, .ref my), (3, .ref ra), (4, .ref rd)] [iv (on σ p gcd3)]
    have hg2 := WM_a hm1 hKW hg1 rfl (Or.inl rfl)
    refine r_istore (L' := [(7, iv (on σ p gcd3)), (6, iv (ms σ p 2)), (5, iv n5), (0, .ref sb), (1, .ref ox), (2, .ref my), (3, .ref ra), (4, .ref rd)]) X dL_law_638 (by decide) rfl ?_
    refine r_aload_n 5 X dL_law_640 rfl ?_
    refine r_callV_v X dL_law_641 kL_141 hm2.1 (c_X7_thrown (CX_l X) D z0 h2 hm2 ht2) [] rfl rfl (Nat.le_of_ble_eq_true rfl) (by decide) rfl rfl (show kc + 3 ≤ 601024 ∧ ks + 17 ≤ 7293034 by omega) ?_
    show WW K D z0 10 h2 (kc + 3) (ks + 17) 644 [(7, iv (on σ p gcd3)), (6, iv (ms σ p 2)), (5, iv n5), (0, .ref sb), (1, .ref ox), (2, .ref my), (3, .ref ra), (4, .ref rd)] [iv (ms σ p 2)]
    refine r_iload 1 X dL_law_644 rfl ?_
    refine r_icmp_eqS 651 X dL_law_646 (by decide) ?_
    refine r_iload 1 X dL_law_651 rfl ?_
    refine r_if_ne 668 X dL_law_653 (by decide) ⟨by omega, by omega⟩ (fun c9 => absurd hcd c9) (fun c9 => ?_)
    refine r_aload_n 6 X dL_law_656 rfl ?_
    refine r_iconst X dL_law_657 ?_
    refine r_laload X dL_law_658 hg2 ⟨by omega, by omega⟩ (by decide) ?_
    refine WW_e (congrArg (fun z => z :: []) (show jv (g1 (0 : Int).toNat) = jv (w32 (on σ p gcd3)) from hgE)) ?_
    show WW K D z0 10 h2 (kc + 3) (ks + 17) 659 [(7, iv (on σ p gcd3)), (6, iv (ms σ p 2)), (5, iv n5), (0, .ref sb), (1, .ref ox), (2, .ref my), (3, .ref ra), (4, .ref rd)] [jv (w32 (on σ p gcd3))]
    refine r_iload 0 X dL_law_659 rfl ?_
    refine r_i2lS X dL_law_661 ?_
    refine r_lcmp_eqS 668 X dL_law_662 dL_law_663 (by decide) ?_
    refine r_goto 2541 X dL_law_668 (by decide) ?_
    refine WW_sub (L' := [(5, iv n5), (0, .ref sb), (1, .ref ox), (2, .ref my), (3, .ref ra), (4, .ref rd)]) [2, 3, 4, 5, 6, 7] rfl ?_
    refine WW_room (show kc + 3 ≤ kc + 100 by omega) (show ks + 17 ≤ ks + 1000 by omega) ?_
    exact kk _ _ _ _ _ ⟨CS_WM hC1 hm1 ho hKW, ⟨_, e19, e29, e39, hi2, lo2, rf2, sq2, hm2, hE2⟩, ho, ⟨_, WM_a hm1 hKW hg1 rfl (Or.inl rfl)⟩, ⟨_, WM_a hm1 hKW hj1 rfl (Or.inr rfl)⟩⟩ hp
  · obtain ⟨rfl, e19, e29, e39, hi2, lo2, rf2, sq2, hm2, hE2⟩ := hM2 hcd
    obtain ⟨hC1, g1, hg1⟩ := hB1 hcd
    have ht2 := CS_TVs hC1
    show WW K D z0 10 h2 (kc + 3) (ks + 17) 638 [(6, iv (ms σ p 2)), (5, iv n5), (0, .ref sb), (1, .ref ox), (2, .ref my), (3, .ref ra), (4, .ref rd)] [iv 0]
    have hg2 := WM_a hm1 hKW hg1 rfl (Or.inl rfl)
    refine r_istore (L' := [(7, iv 0), (6, iv (ms σ p 2)), (5, iv n5), (0, .ref sb), (1, .ref ox), (2, .ref my), (3, .ref ra), (4, .ref rd)]) X dL_law_638 (by decide) rfl ?_
    refine r_aload_n 5 X dL_law_640 rfl ?_
    refine r_callV_v X dL_law_641 kL_141 hm2.1 (c_X7_thrown (CX_l X) D z0 h2 hm2 ht2) [] rfl rfl (Nat.le_of_ble_eq_true rfl) (by decide) rfl rfl (show kc + 3 ≤ 601024 ∧ ks + 17 ≤ 7293034 by omega) ?_
    show WW K D z0 10 h2 (kc + 3) (ks + 17) 644 [(7, iv 0), (6, iv (ms σ p 2)), (5, iv n5), (0, .ref sb), (1, .ref ox), (2, .ref my), (3, .ref ra), (4, .ref rd)] [iv (ms σ p 2)]
    refine r_iload 1 X dL_law_644 rfl ?_
    refine r_icmp_eqS 651 X dL_law_646 (by decide) ?_
    refine r_iload 1 X dL_law_651 rfl ?_
    refine r_if_ne 668 X dL_law_653 (by decide) ⟨by omega, by omega⟩ (fun c9 => ?_) (fun c9 => absurd c9 hcd)
    refine r_goto 2541 X dL_law_668 (by decide) ?_
    refine WW_sub (L' := [(5, iv n5), (0, .ref sb), (1, .ref ox), (2, .ref my), (3, .ref ra), (4, .ref rd)]) [2, 3, 4, 5, 6, 7] rfl ?_
    refine WW_room (show kc + 3 ≤ kc + 100 by omega) (show ks + 17 ≤ ks + 1000 by omega) ?_
    exact kk _ _ _ _ _ ⟨CS_WM hC1 hm1 ho hKW, ⟨_, e19, e29, e39, hi2, lo2, rf2, sq2, hm2, hE2⟩, ho, ⟨_, WM_a hm1 hKW hg1 rfl (Or.inl rfl)⟩, ⟨_, WM_a hm1 hKW hj1 rfl (Or.inr rfl)⟩⟩ hp
theorem case_join {K : KT} {D : va_G} {z0 : Nat} {h : Hp} {kc ks : Nat} (X : CX K D z0 cL_law 10 RL room_1) {sb N : Nat} {xs : Nat → Int32} (S : SX K z0 sb N xs) {ox my ra rd oo : Nat} {mv : Nat → Nat} {σ : Tg} {r : List Nat} {m : Nat} {od : Nat → Int} (J : JS D h ox my ra rd oo mv σ r m od) (hp : PI r m od) (n5 : Int) (hn5 : 0 ≤ n5 ∧ n5 + 5 ≤ (N : Int)) (hkc : kc + 100 ≤ 601024 ∧ ks + 1000 ≤ 7293034) (kk : ∀ (h' : Hp) (σ' : Tg) (r' : List Nat) (m' : Nat) (od' : Nat → Int), JS D h' ox my ra rd oo mv σ' r' m' od' → PI r' m' od' → WW K D z0 10 h' (kc + 100) (ks + 1000) 2541 [(5, iv n5), (0, .ref sb), (1, .ref ox), (2, .ref my), (3, .ref ra), (4, .ref rd)] []) : WW K D z0 10 h kc ks 671 [(5, iv n5), (0, .ref sb), (1, .ref ox), (2, .ref my), (3, .ref ra), (4, .ref rd)] [] := by
  obtain ⟨hC, ⟨tc, e1, e2, e3, hi9, lo9, rf9, sq9, hm, hE⟩, ho, ⟨ga, hga⟩, gd, hgd⟩ := J
  have hoo := CS_o hC
  have ht := CS_TVs hC
  obtain ⟨p, pd⟩ : ∃ u, u = (xs (n5 + 1).toNat).toInt := ⟨_, rfl⟩
  have p_ : I32 p := by rw [pd]; exact i32_toI _
  obtain ⟨q, qd⟩ : ∃ u, u = (xs (n5 + 2).toNat).toInt := ⟨_, rfl⟩
  have q_ : I32 q := by rw [qd]; exact i32_toI _
  obtain ⟨r9, r9d⟩ : ∃ u, u = (xs (n5 + 3).toNat).toInt := ⟨_, rfl⟩
  have r9_ : I32 r9 := by rw [r9d]; exact i32_toI _
  show WW K D z0 10 h (kc + 0) (ks + 0) 671 [(5, iv n5), (0, .ref sb), (1, .ref ox), (2, .ref my), (3, .ref ra), (4, .ref rd)] []
  refine r_aload_n 2 X dL_law_671 rfl ?_
  refine r_aload_n 1 X dL_law_672 rfl ?_
  refine r_iload 0 X dL_law_673 rfl ?_
  refine r_iconst X dL_law_675 ?_
  refine r_iadd X dL_law_676 ?_
  refine r_sld (v := p) X S dL_law_677 ⟨by omega, by omega⟩ pd ?_
  refine r_aload_n 1 X dL_law_678 rfl ?_
  refine r_iload 0 X dL_law_679 rfl ?_
  refine r_iconst X dL_law_681 ?_
  refine r_iadd X dL_law_682 ?_
  refine r_sld (v := q) X S dL_law_683 ⟨by omega, by omega⟩ qd ?_
  refine r_aload_n 1 X dL_law_684 rfl ?_
  refine r_iload 0 X dL_law_685 rfl ?_
  refine r_iconst X dL_law_687 ?_
  refine r_iadd X dL_law_688 ?_
  refine r_sld (v := r9) X S dL_law_689 ⟨by omega, by omega⟩ r9d ?_
  refine r_aload_n 4 X dL_law_690 rfl ?_
  refine r_callH X dL_law_691 kL_165 (c_L_join (CX_l X) D z0 h hC hp p p_ q q_ r9 r9_ hga) [] rfl rfl (Nat.le_of_ble_eq_true rfl) (by decide) (show kc + 11 ≤ 601024 ∧ ks + 65 ≤ 7293034 by omega) (fun w9 h1 hw9 => ?_)
  obtain ⟨rfl, hcdb, hA1, hB1, hKA⟩ := hw9
  have hm1 := Mz_fr hm hKA ho ⟨_, hoo⟩ hga rfl (Or.inl rfl)
  have hj1 := KA_d hKA hoo hga hgd
  show WW K D z0 10 h1 (kc + 11) (ks + 65) 694 [(5, iv n5), (0, .ref sb), (1, .ref ox), (2, .ref my), (3, .ref ra), (4, .ref rd)] [iv (cdJo σ p q r9)]
  refine r_istore (L' := [(6, iv (cdJo σ p q r9)), (5, iv n5), (0, .ref sb), (1, .ref ox), (2, .ref my), (3, .ref ra), (4, .ref rd)]) X dL_law_694 (by decide) rfl ?_
  refine r_aload_n 4 X dL_law_696 rfl ?_
  refine r_aload_n 2 X dL_law_697 rfl ?_
  refine r_iload 1 X dL_law_698 rfl ?_
  refine r_iconst X dL_law_700 ?_
  refine r_iadd X dL_law_701 ?_
  refine r_sld (v := p) X S dL_law_702 ⟨by omega, by omega⟩ pd ?_
  refine r_aload_n 2 X dL_law_703 rfl ?_
  refine r_iload 1 X dL_law_704 rfl ?_
  refine r_iconst X dL_law_706 ?_
  refine r_iadd X dL_law_707 ?_
  refine r_sld (v := q) X S dL_law_708 ⟨by omega, by omega⟩ qd ?_
  refine r_aload_n 2 X dL_law_709 rfl ?_
  refine r_iload 1 X dL_law_710 rfl ?_
  refine r_iconst X dL_law_712 ?_
  refine r_iadd X dL_law_713 ?_
  refine r_sld (v := r9) X S dL_law_714 ⟨by omega, by omega⟩ r9d ?_
  refine r_callV X dL_law_715 kL_168 hm1.1 (c_X7_join (CX_l X) D z0 h1 hm1 ht p p_ q q_ r9 r9_) [] rfl rfl (Nat.le_of_ble_eq_true rfl) (by decide) (show kc + 11 ≤ 601024 ∧ ks + 65 ≤ 7293034 by omega) (fun _ _ z => z.elim) (fun w8 h2 hw8 => ?_)
  obtain ⟨hM1, hM2, hKW⟩ := MO_MW hE hw8
  by_cases hcd : cdJo σ p q r9 = 0
  · obtain ⟨rfl, e19, e29, e39, hi2, lo2, rf2, sq2, hm2, hE2⟩ := hM1 hcd
    obtain ⟨hC1, g1, hg1, hgE⟩ := hA1 hcd
    have ht2 := CS_TVs hC1
    show WW K D z0 10 h2 (kc + 11) (ks + 65) 718 [(6, iv (cdJo σ p q r9)), (5, iv n5), (0, .ref sb), (1, .ref ox), (2, .ref my), (3, .ref ra), (4, .ref rd)] [iv (on σ p (fun a b c => on σ q (fun d e f => mx3 c f (wd a b d e))))]
    have hg2 := WM_a hm1 hKW hg1 rfl (Or.inl rfl)
    refine r_istore (L' := [(7, iv (on σ p (fun a b c => on σ q (fun d e f => mx3 c f (wd a b d e))))), (6, iv (cdJo σ p q r9)), (5, iv n5), (0, .ref sb), (1, .ref ox), (2, .ref my), (3, .ref ra), (4, .ref rd)]) X dL_law_718 (by decide) rfl ?_
    refine r_aload_n 5 X dL_law_720 rfl ?_
    refine r_callV_v X dL_law_721 kL_141 hm2.1 (c_X7_thrown (CX_l X) D z0 h2 hm2 ht2) [] rfl rfl (Nat.le_of_ble_eq_true rfl) (by decide) rfl rfl (show kc + 11 ≤ 601024 ∧ ks + 65 ≤ 7293034 by omega) ?_
    show WW K D z0 10 h2 (kc + 11) (ks + 65) 724 [(7, iv (on σ p (fun a b c => on σ q (fun d e f => mx3 c f (wd a b d e))))), (6, iv (cdJo σ p q r9)), (5, iv n5), (0, .ref sb), (1, .ref ox), (2, .ref my), (3, .ref ra), (4, .ref rd)] [iv (cdJo σ p q r9)]
    refine r_iload 1 X dL_law_724 rfl ?_
    refine r_icmp_eqS 731 X dL_law_726 (by decide) ?_
    refine r_iload 1 X dL_law_731 rfl ?_
    refine r_if_ne 748 X dL_law_733 (by decide) ⟨by omega, by omega⟩ (fun c9 => absurd hcd c9) (fun c9 => ?_)
    refine r_aload_n 6 X dL_law_736 rfl ?_
    refine r_iconst X dL_law_737 ?_
    refine r_laload X dL_law_738 hg2 ⟨by omega, by omega⟩ (by decide) ?_
    refine WW_e (congrArg (fun z => z :: []) (show jv (g1 (0 : Int).toNat) = jv (w32 (on σ p (fun a b c => on σ q (fun d e f => mx3 c f (wd a b d e))))) from hgE)) ?_
    show WW K D z0 10 h2 (kc + 11) (ks + 65) 739 [(7, iv (on σ p (fun a b c => on σ q (fun d e f => mx3 c f (wd a b d e))))), (6, iv (cdJo σ p q r9)), (5, iv n5), (0, .ref sb), (1, .ref ox), (2, .ref my), (3, .ref ra), (4, .ref rd)] [jv (w32 (on σ p (fun a b c => on σ q (fun d e f => mx3 c f (wd a b d e)))))]
    refine r_iload 0 X dL_law_739 rfl ?_
    refine r_i2lS X dL_law_741 ?_
    refine r_lcmp_eqS 748 X dL_law_742 dL_law_743 (by decide) ?_
    refine r_goto 2541 X dL_law_748 (by decide) ?_
    refine WW_sub (L' := [(5, iv n5), (0, .ref sb), (1, .ref ox), (2, .ref my), (3, .ref ra), (4, .ref rd)]) [2, 3, 4, 5, 6, 7] rfl ?_
    refine WW_room (show kc + 11 ≤ kc + 100 by omega) (show ks + 65 ≤ ks + 1000 by omega) ?_
    exact kk _ _ _ _ _ ⟨CS_WM hC1 hm1 ho hKW, ⟨_, e19, e29, e39, hi2, lo2, rf2, sq2, hm2, hE2⟩, ho, ⟨_, WM_a hm1 hKW hg1 rfl (Or.inl rfl)⟩, ⟨_, WM_a hm1 hKW hj1 rfl (Or.inr rfl)⟩⟩ hp
  · obtain ⟨rfl, e19, e29, e39, hi2, lo2, rf2, sq2, hm2, hE2⟩ := hM2 hcd
    obtain ⟨hC1, g1, hg1⟩ := hB1 hcd
    have ht2 := CS_TVs hC1
    show WW K D z0 10 h2 (kc + 11) (ks + 65) 718 [(6, iv (cdJo σ p q r9)), (5, iv n5), (0, .ref sb), (1, .ref ox), (2, .ref my), (3, .ref ra), (4, .ref rd)] [iv 0]
    have hg2 := WM_a hm1 hKW hg1 rfl (Or.inl rfl)
    refine r_istore (L' := [(7, iv 0), (6, iv (cdJo σ p q r9)), (5, iv n5), (0, .ref sb), (1, .ref ox), (2, .ref my), (3, .ref ra), (4, .ref rd)]) X dL_law_718 (by decide) rfl ?_
    refine r_aload_n 5 X dL_law_720 rfl ?_
    refine r_callV_v X dL_law_721 kL_141 hm2.1 (c_X7_thrown (CX_l X) D z0 h2 hm2 ht2) [] rfl rfl (Nat.le_of_ble_eq_true rfl) (by decide) rfl rfl (show kc + 11 ≤ 601024 ∧ ks + 65 ≤ 7293034 by omega) ?_
    show WW K D z0 10 h2 (kc + 11) (ks + 65) 724 [(7, iv 0), (6, iv (cdJo σ p q r9)), (5, iv n5), (0, .ref sb), (1, .ref ox), (2, .ref my), (3, .ref ra), (4, .ref rd)] [iv (cdJo σ p q r9)]
    refine r_iload 1 X dL_law_724 rfl ?_
    refine r_icmp_eqS 731 X dL_law_726 (by decide) ?_
    refine r_iload 1 X dL_law_731 rfl ?_
    refine r_if_ne 748 X dL_law_733 (by decide) ⟨by omega, by omega⟩ (fun c9 => ?_) (fun c9 => absurd c9 hcd)
    refine r_goto 2541 X dL_law_748 (by decide) ?_
    refine WW_sub (L' := [(5, iv n5), (0, .ref sb), (1, .ref ox), (2, .ref my), (3, .ref ra), (4, .ref rd)]) [2, 3, 4, 5, 6, 7] rfl ?_
    refine WW_room (show kc + 11 ≤ kc + 100 by omega) (show ks + 65 ≤ ks + 1000 by omega) ?_
    exact kk _ _ _ _ _ ⟨CS_WM hC1 hm1 ho hKW, ⟨_, e19, e29, e39, hi2, lo2, rf2, sq2, hm2, hE2⟩, ho, ⟨_, WM_a hm1 hKW hg1 rfl (Or.inl rfl)⟩, ⟨_, WM_a hm1 hKW hj1 rfl (Or.inr rfl)⟩⟩ hp
theorem case_kind {K : KT} {D : va_G} {z0 : Nat} {h : Hp} {kc ks : Nat} (X : CX K D z0 cL_law 10 RL room_1) {sb N : Nat} {xs : Nat → Int32} (S : SX K z0 sb N xs) {ox my ra rd oo : Nat} {mv : Nat → Nat} {σ : Tg} {r : List Nat} {m : Nat} {od : Nat → Int} (J : JS D h ox my ra rd oo mv σ r m od) (hp : PI r m od) (n5 : Int) (hn5 : 0 ≤ n5 ∧ n5 + 5 ≤ (N : Int)) (hkc : kc + 100 ≤ 601024 ∧ ks + 1000 ≤ 7293034) (kk : ∀ (h' : Hp) (σ' : Tg) (r' : List Nat) (m' : Nat) (od' : Nat → Int), JS D h' ox my ra rd oo mv σ' r' m' od' → PI r' m' od' → WW K D z0 10 h' (kc + 100) (ks + 1000) 2541 [(5, iv n5), (0, .ref sb), (1, .ref ox), (2, .ref my), (3, .ref ra), (4, .ref rd)] []) : WW K D z0 10 h kc ks 751 [(5, iv n5), (0, .ref sb), (1, .ref ox), (2, .ref my), (3, .ref ra), (4, .ref rd)] [] := by
  obtain ⟨hC, ⟨tc, e1, e2, e3, hi9, lo9, rf9, sq9, hm, hE⟩, ho, ⟨ga, hga⟩, gd, hgd⟩ := J
  have hoo := CS_o hC
  have ht := CS_TVs hC
  obtain ⟨p, pd⟩ : ∃ u, u = (xs (n5 + 1).toNat).toInt := ⟨_, rfl⟩
  have p_ : I32 p := by rw [pd]; exact i32_toI _
  show WW K D z0 10 h (kc + 0) (ks + 0) 751 [(5, iv n5), (0, .ref sb), (1, .ref ox), (2, .ref my), (3, .ref ra), (4, .ref rd)] []
  refine r_aload_n 2 X dL_law_751 rfl ?_
  refine r_aload_n 1 X dL_law_752 rfl ?_
  refine r_iload 0 X dL_law_753 rfl ?_
  refine r_iconst X dL_law_755 ?_
  refine r_iadd X dL_law_756 ?_
  refine r_sld (v := p) X S dL_law_757 ⟨by omega, by omega⟩ pd ?_
  refine r_aload_n 4 X dL_law_758 rfl ?_
  refine r_callH X dL_law_759 kL_169 (c_L_kind (CX_l X) D z0 h hC hp p p_ hga) [] rfl rfl (Nat.le_of_ble_eq_true rfl) (by decide) (show kc + 2 ≤ 601024 ∧ ks + 12 ≤ 7293034 by omega) (fun w9 h1 hw9 => ?_)
  obtain ⟨rfl, hcdb, hA1, hB1, hKA⟩ := hw9
  have hm1 := Mz_fr hm hKA ho ⟨_, hoo⟩ hga rfl (Or.inl rfl)
  have hj1 := KA_d hKA hoo hga hgd
  show WW K D z0 10 h1 (kc + 2) (ks + 12) 762 [(5, iv n5), (0, .ref sb), (1, .ref ox), (2, .ref my), (3, .ref ra), (4, .ref rd)] [iv (ms σ p 2)]
  refine r_istore (L' := [(6, iv (ms σ p 2)), (5, iv n5), (0, .ref sb), (1, .ref ox), (2, .ref my), (3, .ref ra), (4, .ref rd)]) X dL_law_762 (by decide) rfl ?_
  refine r_aload_n 4 X dL_law_764 rfl ?_
  refine r_aload_n 2 X dL_law_765 rfl ?_
  refine r_iload 1 X dL_law_766 rfl ?_
  refine r_iconst X dL_law_768 ?_
  refine r_iadd X dL_law_769 ?_
  refine r_sld (v := p) X S dL_law_770 ⟨by omega, by omega⟩ pd ?_
  refine r_callV X dL_law_771 kL_171 hm1.1 (c_X7_kind (CX_l X) D z0 h1 hm1 ht p p_) [] rfl rfl (Nat.le_of_ble_eq_true rfl) (by decide) (show kc + 2 ≤ 601024 ∧ ks + 12 ≤ 7293034 by omega) (fun _ _ z => z.elim) (fun w8 h2 hw8 => ?_)
  obtain ⟨hM1, hM2, hKW⟩ := MO_MW hE hw8
  by_cases hcd : ms σ p 2 = 0
  · obtain ⟨rfl, e19, e29, e39, hi2, lo2, rf2, sq2, hm2, hE2⟩ := hM1 hcd
    obtain ⟨hC1, g1, hg1, hgE⟩ := hA1 hcd
    have ht2 := CS_TVs hC1
    show WW K D z0 10 h2 (kc + 2) (ks + 12) 774 [(6, iv (ms σ p 2)), (5, iv n5), (0, .ref sb), (1, .ref ox), (2, .ref my), (3, .ref ra), (4, .ref rd)] [iv (on σ p (fun a b c => cmpv (sqb3 a b c 2) 0))]
    have hg2 := WM_a hm1 hKW hg1 rfl (Or.inl rfl)
    refine r_istore (L' := [(7, iv (on σ p (fun a b c => cmpv (sqb3 a b c 2) 0))), (6, iv (ms σ p 2)), (5, iv n5), (0, .ref sb), (1, .ref ox), (2, .ref my), (3, .ref ra), (4, .ref rd)]) X dL_law_774 (by decide) rfl ?_
    refine r_aload_n 5 X dL_law_776 rfl ?_
    refine r_callV_v X dL_law_777 kL_141 hm2.1 (c_X7_thrown (CX_l X) D z0 h2 hm2 ht2) [] rfl rfl (Nat.le_of_ble_eq_true rfl) (by decide) rfl rfl (show kc + 2 ≤ 601024 ∧ ks + 12 ≤ 7293034 by omega) ?_
    show WW K D z0 10 h2 (kc + 2) (ks + 12) 780 [(7, iv (on σ p (fun a b c => cmpv (sqb3 a b c 2) 0))), (6, iv (ms σ p 2)), (5, iv n5), (0, .ref sb), (1, .ref ox), (2, .ref my), (3, .ref ra), (4, .ref rd)] [iv (ms σ p 2)]
    refine r_iload 1 X dL_law_780 rfl ?_
    refine r_icmp_eqS 787 X dL_law_782 (by decide) ?_
    refine r_iload 1 X dL_law_787 rfl ?_
    refine r_if_ne 804 X dL_law_789 (by decide) ⟨by omega, by omega⟩ (fun c9 => absurd hcd c9) (fun c9 => ?_)
    refine r_aload_n 6 X dL_law_792 rfl ?_
    refine r_iconst X dL_law_793 ?_
    refine r_laload X dL_law_794 hg2 ⟨by omega, by omega⟩ (by decide) ?_
    refine WW_e (congrArg (fun z => z :: []) (show jv (g1 (0 : Int).toNat) = jv (w32 (on σ p (fun a b c => cmpv (sqb3 a b c 2) 0))) from hgE)) ?_
    show WW K D z0 10 h2 (kc + 2) (ks + 12) 795 [(7, iv (on σ p (fun a b c => cmpv (sqb3 a b c 2) 0))), (6, iv (ms σ p 2)), (5, iv n5), (0, .ref sb), (1, .ref ox), (2, .ref my), (3, .ref ra), (4, .ref rd)] [jv (w32 (on σ p (fun a b c => cmpv (sqb3 a b c 2) 0)))]
    refine r_iload 0 X dL_law_795 rfl ?_
    refine r_i2lS X dL_law_797 ?_
    refine r_lcmp_eqS 804 X dL_law_798 dL_law_799 (by decide) ?_
    refine r_goto 2541 X dL_law_804 (by decide) ?_
    refine WW_sub (L' := [(5, iv n5), (0, .ref sb), (1, .ref ox), (2, .ref my), (3, .ref ra), (4, .ref rd)]) [2, 3, 4, 5, 6, 7] rfl ?_
    refine WW_room (show kc + 2 ≤ kc + 100 by omega) (show ks + 12 ≤ ks + 1000 by omega) ?_
    exact kk _ _ _ _ _ ⟨CS_WM hC1 hm1 ho hKW, ⟨_, e19, e29, e39, hi2, lo2, rf2, sq2, hm2, hE2⟩, ho, ⟨_, WM_a hm1 hKW hg1 rfl (Or.inl rfl)⟩, ⟨_, WM_a hm1 hKW hj1 rfl (Or.inr rfl)⟩⟩ hp
  · obtain ⟨rfl, e19, e29, e39, hi2, lo2, rf2, sq2, hm2, hE2⟩ := hM2 hcd
    obtain ⟨hC1, g1, hg1⟩ := hB1 hcd
    have ht2 := CS_TVs hC1
    show WW K D z0 10 h2 (kc + 2) (ks + 12) 774 [(6, iv (ms σ p 2)), (5, iv n5), (0, .ref sb), (1, .ref ox), (2, .ref my), (3, .ref ra), (4, .ref rd)] [iv 0]
    have hg2 := WM_a hm1 hKW hg1 rfl (Or.inl rfl)
    refine r_istore (L' := [(7, iv 0), (6, iv (ms σ p 2)), (5, iv n5), (0, .ref sb), (1, .ref ox), (2, .ref my), (3, .ref ra), (4, .ref rd)]) X dL_law_774 (by decide) rfl ?_
    refine r_aload_n 5 X dL_law_776 rfl ?_
    refine r_callV_v X dL_law_777 kL_141 hm2.1 (c_X7_thrown (CX_l X) D z0 h2 hm2 ht2) [] rfl rfl (Nat.le_of_ble_eq_true rfl) (by decide) rfl rfl (show kc + 2 ≤ 601024 ∧ ks + 12 ≤ 7293034 by omega) ?_
    show WW K D z0 10 h2 (kc + 2) (ks + 12) 780 [(7, iv 0), (6, iv (ms σ p 2)), (5, iv n5), (0, .ref sb), (1, .ref ox), (2, .ref my), (3, .ref ra), (4, .ref rd)] [iv (ms σ p 2)]
    refine r_iload 1 X dL_law_780 rfl ?_
    refine r_icmp_eqS 787 X dL_law_782 (by decide) ?_
    refine r_iload 1 X dL_law_787 rfl ?_
    refine r_if_ne 804 X dL_law_789 (by decide) ⟨by omega, by omega⟩ (fun c9 => ?_) (fun c9 => absurd c9 hcd)
    refine r_goto 2541 X dL_law_804 (by decide) ?_
    refine WW_sub (L' := [(5, iv n5), (0, .ref sb), (1, .ref ox), (2, .ref my), (3, .ref ra), (4, .ref rd)]) [2, 3, 4, 5, 6, 7] rfl ?_
    refine WW_room (show kc + 2 ≤ kc + 100 by omega) (show ks + 12 ≤ ks + 1000 by omega) ?_
    exact kk _ _ _ _ _ ⟨CS_WM hC1 hm1 ho hKW, ⟨_, e19, e29, e39, hi2, lo2, rf2, sq2, hm2, hE2⟩, ho, ⟨_, WM_a hm1 hKW hg1 rfl (Or.inl rfl)⟩, ⟨_, WM_a hm1 hKW hj1 rfl (Or.inr rfl)⟩⟩ hp
theorem case_angle {K : KT} {D : va_G} {z0 : Nat} {h : Hp} {kc ks : Nat} (X : CX K D z0 cL_law 10 RL room_1) {sb N : Nat} {xs : Nat → Int32} (S : SX K z0 sb N xs) {ox my ra rd oo : Nat} {mv : Nat → Nat} {σ : Tg} {r : List Nat} {m : Nat} {od : Nat → Int} (J : JS D h ox my ra rd oo mv σ r m od) (hp : PI r m od) (n5 : Int) (hn5 : 0 ≤ n5 ∧ n5 + 5 ≤ (N : Int)) (hkc : kc + 100 ≤ 601024 ∧ ks + 1000 ≤ 7293034) (kk : ∀ (h' : Hp) (σ' : Tg) (r' : List Nat) (m' : Nat) (od' : Nat → Int), JS D h' ox my ra rd oo mv σ' r' m' od' → PI r' m' od' → WW K D z0 10 h' (kc + 100) (ks + 1000) 2541 [(5, iv n5), (0, .ref sb), (1, .ref ox), (2, .ref my), (3, .ref ra), (4, .ref rd)] []) : WW K D z0 10 h kc ks 807 [(5, iv n5), (0, .ref sb), (1, .ref ox), (2, .ref my), (3, .ref ra), (4, .ref rd)] [] := by
  obtain ⟨hC, ⟨tc, e1, e2, e3, hi9, lo9, rf9, sq9, hm, hE⟩, ho, ⟨ga, hga⟩, gd, hgd⟩ := J
  have hoo := CS_o hC
  have ht := CS_TVs hC
  obtain ⟨p, pd⟩ : ∃ u, u = (xs (n5 + 1).toNat).toInt := ⟨_, rfl⟩
  have p_ : I32 p := by rw [pd]; exact i32_toI _
  obtain ⟨w, wd⟩ : ∃ u, u = (xs (n5 + 2).toNat).toInt := ⟨_, rfl⟩
  have w_ : I32 w := by rw [wd]; exact i32_toI _
  show WW K D z0 10 h (kc + 0) (ks + 0) 807 [(5, iv n5), (0, .ref sb), (1, .ref ox), (2, .ref my), (3, .ref ra), (4, .ref rd)] []
  refine r_aload_n 2 X dL_law_807 rfl ?_
  refine r_aload_n 1 X dL_law_808 rfl ?_
  refine r_iload 0 X dL_law_809 rfl ?_
  refine r_iconst X dL_law_811 ?_
  refine r_iadd X dL_law_812 ?_
  refine r_sld (v := p) X S dL_law_813 ⟨by omega, by omega⟩ pd ?_
  refine r_aload_n 1 X dL_law_814 rfl ?_
  refine r_iload 0 X dL_law_815 rfl ?_
  refine r_iconst X dL_law_817 ?_
  refine r_iadd X dL_law_818 ?_
  refine r_sld (v := w) X S dL_law_819 ⟨by omega, by omega⟩ wd ?_
  refine r_aload_n 4 X dL_law_820 rfl ?_
  refine r_callH X dL_law_821 kL_172 (c_L_angle (CX_l X) D z0 h hC hp p p_ w w_ hga) [] rfl rfl (Nat.le_of_ble_eq_true rfl) (by decide) (show kc + 4 ≤ 601024 ∧ ks + 24 ≤ 7293034 by omega) (fun w9 h1 hw9 => ?_)
  obtain ⟨rfl, hcdb, hA1, hB1, hKA⟩ := hw9
  have hm1 := Mz_fr hm hKA ho ⟨_, hoo⟩ hga rfl (Or.inl rfl)
  have hj1 := KA_d hKA hoo hga hgd
  show WW K D z0 10 h1 (kc + 4) (ks + 24) 824 [(5, iv n5), (0, .ref sb), (1, .ref ox), (2, .ref my), (3, .ref ra), (4, .ref rd)] [iv (cdSd σ p w)]
  refine r_istore (L' := [(6, iv (cdSd σ p w)), (5, iv n5), (0, .ref sb), (1, .ref ox), (2, .ref my), (3, .ref ra), (4, .ref rd)]) X dL_law_824 (by decide) rfl ?_
  refine r_aload_n 4 X dL_law_826 rfl ?_
  refine r_aload_n 2 X dL_law_827 rfl ?_
  refine r_iload 1 X dL_law_828 rfl ?_
  refine r_iconst X dL_law_830 ?_
  refine r_iadd X dL_law_831 ?_
  refine r_sld (v := p) X S dL_law_832 ⟨by omega, by omega⟩ pd ?_
  refine r_aload_n 2 X dL_law_833 rfl ?_
  refine r_iload 1 X dL_law_834 rfl ?_
  refine r_iconst X dL_law_836 ?_
  refine r_iadd X dL_law_837 ?_
  refine r_sld (v := w) X S dL_law_838 ⟨by omega, by omega⟩ wd ?_
  refine r_callV X dL_law_839 kL_174 hm1.1 (c_X7_angle (CX_l X) D z0 h1 hm1 ht p p_ w w_) [] rfl rfl (Nat.le_of_ble_eq_true rfl) (by decide) (show kc + 4 ≤ 601024 ∧ ks + 24 ≤ 7293034 by omega) (fun _ _ z => z.elim) (fun w8 h2 hw8 => ?_)
  obtain ⟨hM1, hM2, hKW⟩ := MO_MW hE hw8
  by_cases hcd : cdSd σ p w = 0
  · obtain ⟨rfl, e19, e29, e39, hi2, lo2, rf2, sq2, hm2, hE2⟩ := hM1 hcd
    obtain ⟨hC1, g1, hg1, hgE⟩ := hA1 hcd
    have ht2 := CS_TVs hC1
    show WW K D z0 10 h2 (kc + 4) (ks + 24) 842 [(6, iv (cdSd σ p w)), (5, iv n5), (0, .ref sb), (1, .ref ox), (2, .ref my), (3, .ref ra), (4, .ref rd)] [iv (on σ p (fun a b c => deg a b c w))]
    have hg2 := WM_a hm1 hKW hg1 rfl (Or.inl rfl)
    refine r_istore (L' := [(7, iv (on σ p (fun a b c => deg a b c w))), (6, iv (cdSd σ p w)), (5, iv n5), (0, .ref sb), (1, .ref ox), (2, .ref my), (3, .ref ra), (4, .ref rd)]) X dL_law_842 (by decide) rfl ?_
    refine r_aload_n 5 X dL_law_844 rfl ?_
    refine r_callV_v X dL_law_845 kL_141 hm2.1 (c_X7_thrown (CX_l X) D z0 h2 hm2 ht2) [] rfl rfl (Nat.le_of_ble_eq_true rfl) (by decide) rfl rfl (show kc + 4 ≤ 601024 ∧ ks + 24 ≤ 7293034 by omega) ?_
    show WW K D z0 10 h2 (kc + 4) (ks + 24) 848 [(7, iv (on σ p (fun a b c => deg a b c w))), (6, iv (cdSd σ p w)), (5, iv n5), (0, .ref sb), (1, .ref ox), (2, .ref my), (3, .ref ra), (4, .ref rd)] [iv (cdSd σ p w)]
    refine r_iload 1 X dL_law_848 rfl ?_
    refine r_icmp_eqS 855 X dL_law_850 (by decide) ?_
    refine r_iload 1 X dL_law_855 rfl ?_
    refine r_if_ne 872 X dL_law_857 (by decide) ⟨by omega, by omega⟩ (fun c9 => absurd hcd c9) (fun c9 => ?_)
    refine r_aload_n 6 X dL_law_860 rfl ?_
    refine r_iconst X dL_law_861 ?_
    refine r_laload X dL_law_862 hg2 ⟨by omega, by omega⟩ (by decide) ?_
    refine WW_e (congrArg (fun z => z :: []) (show jv (g1 (0 : Int).toNat) = jv (w32 (on σ p (fun a b c => deg a b c w))) from hgE)) ?_
    show WW K D z0 10 h2 (kc + 4) (ks + 24) 863 [(7, iv (on σ p (fun a b c => deg a b c w))), (6, iv (cdSd σ p w)), (5, iv n5), (0, .ref sb), (1, .ref ox), (2, .ref my), (3, .ref ra), (4, .ref rd)] [jv (w32 (on σ p (fun a b c => deg a b c w)))]
    refine r_iload 0 X dL_law_863 rfl ?_
    refine r_i2lS X dL_law_865 ?_
    refine r_lcmp_eqS 872 X dL_law_866 dL_law_867 (by decide) ?_
    refine r_goto 2541 X dL_law_872 (by decide) ?_
    refine WW_sub (L' := [(5, iv n5), (0, .ref sb), (1, .ref ox), (2, .ref my), (3, .ref ra), (4, .ref rd)]) [2, 3, 4, 5, 6, 7] rfl ?_
    refine WW_room (show kc + 4 ≤ kc + 100 by omega) (show ks + 24 ≤ ks + 1000 by omega) ?_
    exact kk _ _ _ _ _ ⟨CS_WM hC1 hm1 ho hKW, ⟨_, e19, e29, e39, hi2, lo2, rf2, sq2, hm2, hE2⟩, ho, ⟨_, WM_a hm1 hKW hg1 rfl (Or.inl rfl)⟩, ⟨_, WM_a hm1 hKW hj1 rfl (Or.inr rfl)⟩⟩ hp
  · obtain ⟨rfl, e19, e29, e39, hi2, lo2, rf2, sq2, hm2, hE2⟩ := hM2 hcd
    obtain ⟨hC1, g1, hg1⟩ := hB1 hcd
    have ht2 := CS_TVs hC1
    show WW K D z0 10 h2 (kc + 4) (ks + 24) 842 [(6, iv (cdSd σ p w)), (5, iv n5), (0, .ref sb), (1, .ref ox), (2, .ref my), (3, .ref ra), (4, .ref rd)] [iv 0]
    have hg2 := WM_a hm1 hKW hg1 rfl (Or.inl rfl)
    refine r_istore (L' := [(7, iv 0), (6, iv (cdSd σ p w)), (5, iv n5), (0, .ref sb), (1, .ref ox), (2, .ref my), (3, .ref ra), (4, .ref rd)]) X dL_law_842 (by decide) rfl ?_
    refine r_aload_n 5 X dL_law_844 rfl ?_
    refine r_callV_v X dL_law_845 kL_141 hm2.1 (c_X7_thrown (CX_l X) D z0 h2 hm2 ht2) [] rfl rfl (Nat.le_of_ble_eq_true rfl) (by decide) rfl rfl (show kc + 4 ≤ 601024 ∧ ks + 24 ≤ 7293034 by omega) ?_
    show WW K D z0 10 h2 (kc + 4) (ks + 24) 848 [(7, iv 0), (6, iv (cdSd σ p w)), (5, iv n5), (0, .ref sb), (1, .ref ox), (2, .ref my), (3, .ref ra), (4, .ref rd)] [iv (cdSd σ p w)]
    refine r_iload 1 X dL_law_848 rfl ?_
    refine r_icmp_eqS 855 X dL_law_850 (by decide) ?_
    refine r_iload 1 X dL_law_855 rfl ?_
    refine r_if_ne 872 X dL_law_857 (by decide) ⟨by omega, by omega⟩ (fun c9 => ?_) (fun c9 => absurd c9 hcd)
    refine r_goto 2541 X dL_law_872 (by decide) ?_
    refine WW_sub (L' := [(5, iv n5), (0, .ref sb), (1, .ref ox), (2, .ref my), (3, .ref ra), (4, .ref rd)]) [2, 3, 4, 5, 6, 7] rfl ?_
    refine WW_room (show kc + 4 ≤ kc + 100 by omega) (show ks + 24 ≤ ks + 1000 by omega) ?_
    exact kk _ _ _ _ _ ⟨CS_WM hC1 hm1 ho hKW, ⟨_, e19, e29, e39, hi2, lo2, rf2, sq2, hm2, hE2⟩, ho, ⟨_, WM_a hm1 hKW hg1 rfl (Or.inl rfl)⟩, ⟨_, WM_a hm1 hKW hj1 rfl (Or.inr rfl)⟩⟩ hp
theorem case_areaIsWhole {K : KT} {D : va_G} {z0 : Nat} {h : Hp} {kc ks : Nat} (X : CX K D z0 cL_law 10 RL room_1) {sb N : Nat} {xs : Nat → Int32} (S : SX K z0 sb N xs) {ox my ra rd oo : Nat} {mv : Nat → Nat} {σ : Tg} {r : List Nat} {m : Nat} {od : Nat → Int} (J : JS D h ox my ra rd oo mv σ r m od) (hp : PI r m od) (n5 : Int) (hn5 : 0 ≤ n5 ∧ n5 + 5 ≤ (N : Int)) (hkc : kc + 100 ≤ 601024 ∧ ks + 1000 ≤ 7293034) (kk : ∀ (h' : Hp) (σ' : Tg) (r' : List Nat) (m' : Nat) (od' : Nat → Int), JS D h' ox my ra rd oo mv σ' r' m' od' → PI r' m' od' → WW K D z0 10 h' (kc + 100) (ks + 1000) 2541 [(5, iv n5), (0, .ref sb), (1, .ref ox), (2, .ref my), (3, .ref ra), (4, .ref rd)] []) : WW K D z0 10 h kc ks 875 [(5, iv n5), (0, .ref sb), (1, .ref ox), (2, .ref my), (3, .ref ra), (4, .ref rd)] [] := by
  obtain ⟨hC, ⟨tc, e1, e2, e3, hi9, lo9, rf9, sq9, hm, hE⟩, ho, ⟨ga, hga⟩, gd, hgd⟩ := J
  have hoo := CS_o hC
  have ht := CS_TVs hC
  obtain ⟨p, pd⟩ : ∃ u, u = (xs (n5 + 1).toNat).toInt := ⟨_, rfl⟩
  have p_ : I32 p := by rw [pd]; exact i32_toI _
  show WW K D z0 10 h (kc + 0) (ks + 0) 875 [(5, iv n5), (0, .ref sb), (1, .ref ox), (2, .ref my), (3, .ref ra), (4, .ref rd)] []
  refine r_aload_n 2 X dL_law_875 rfl ?_
  refine r_aload_n 1 X dL_law_876 rfl ?_
  refine r_iload 0 X dL_law_877 rfl ?_
  refine r_iconst X dL_law_879 ?_
  refine r_iadd X dL_law_880 ?_
  refine r_sld (v := p) X S dL_law_881 ⟨by omega, by omega⟩ pd ?_
  refine r_aload_n 4 X dL_law_882 rfl ?_
  refine r_callH X dL_law_883 kL_175 (c_L_areaIsWhole (CX_l X) D z0 h hC hp p p_ hga) [] rfl rfl (Nat.le_of_ble_eq_true rfl) (by decide) (show kc + 2 ≤ 601024 ∧ ks + 12 ≤ 7293034 by omega) (fun w9 h1 hw9 => ?_)
  obtain ⟨rfl, hcdb, hA1, hB1, hKA⟩ := hw9
  have hm1 := Mz_fr hm hKA ho ⟨_, hoo⟩ hga rfl (Or.inl rfl)
  have hj1 := KA_d hKA hoo hga hgd
  show WW K D z0 10 h1 (kc + 2) (ks + 12) 886 [(5, iv n5), (0, .ref sb), (1, .ref ox), (2, .ref my), (3, .ref ra), (4, .ref rd)] [iv (ms σ p 2)]
  refine r_istore (L' := [(6, iv (ms σ p 2)), (5, iv n5), (0, .ref sb), (1, .ref ox), (2, .ref my), (3, .ref ra), (4, .ref rd)]) X dL_law_886 (by decide) rfl ?_
  refine r_aload_n 4 X dL_law_888 rfl ?_
  refine r_aload_n 2 X dL_law_889 rfl ?_
  refine r_iload 1 X dL_law_890 rfl ?_
  refine r_iconst X dL_law_892 ?_
  refine r_iadd X dL_law_893 ?_
  refine r_sld (v := p) X S dL_law_894 ⟨by omega, by omega⟩ pd ?_
  refine r_callV X dL_law_895 kL_177 hm1.1 (c_X7_areaIsWhole (CX_l X) D z0 h1 hm1 ht p p_) [] rfl rfl (Nat.le_of_ble_eq_true rfl) (by decide) (show kc + 2 ≤ 601024 ∧ ks + 12 ≤ 7293034 by omega) (fun _ _ z => z.elim) (fun w8 h2 hw8 => ?_)
  obtain ⟨hM1, hM2, hKW⟩ := MO_MW hE hw8
  by_cases hcd : ms σ p 2 = 0
  · obtain ⟨rfl, e19, e29, e39, hi2, lo2, rf2, sq2, hm2, hE2⟩ := hM1 hcd
    obtain ⟨hC1, g1, hg1, hgE⟩ := hA1 hcd
    have ht2 := CS_TVs hC1
    show WW K D z0 10 h2 (kc + 2) (ks + 12) 898 [(6, iv (ms σ p 2)), (5, iv n5), (0, .ref sb), (1, .ref ox), (2, .ref my), (3, .ref ra), (4, .ref rd)] [iv (if 0 < on σ p (fun a b c => wq (rtS (Sx a b c)) 4) then 1 else 0)]
    have hg2 := WM_a hm1 hKW hg1 rfl (Or.inl rfl)
    refine r_istore (L' := [(7, iv (if 0 < on σ p (fun a b c => wq (rtS (Sx a b c)) 4) then 1 else 0)), (6, iv (ms σ p 2)), (5, iv n5), (0, .ref sb), (1, .ref ox), (2, .ref my), (3, .ref ra), (4, .ref rd)]) X dL_law_898 (by decide) rfl ?_
    refine r_aload_n 5 X dL_law_900 rfl ?_
    refine r_callV_v X dL_law_901 kL_141 hm2.1 (c_X7_thrown (CX_l X) D z0 h2 hm2 ht2) [] rfl rfl (Nat.le_of_ble_eq_true rfl) (by decide) rfl rfl (show kc + 2 ≤ 601024 ∧ ks + 12 ≤ 7293034 by omega) ?_
    show WW K D z0 10 h2 (kc + 2) (ks + 12) 904 [(7, iv (if 0 < on σ p (fun a b c => wq (rtS (Sx a b c)) 4) then 1 else 0)), (6, iv (ms σ p 2)), (5, iv n5), (0, .ref sb), (1, .ref ox), (2, .ref my), (3, .ref ra), (4, .ref rd)] [iv (ms σ p 2)]
    refine r_iload 1 X dL_law_904 rfl ?_
    refine r_icmp_eqS 911 X dL_law_906 (by decide) ?_
    refine r_iload 1 X dL_law_911 rfl ?_
    refine r_if_ne 935 X dL_law_913 (by decide) ⟨by omega, by omega⟩ (fun c9 => absurd hcd c9) (fun c9 => ?_)
    refine r_aload_n 6 X dL_law_916 rfl ?_
    refine r_iconst X dL_law_917 ?_
    refine r_laload X dL_law_918 hg2 ⟨by omega, by omega⟩ (by decide) ?_
    refine WW_e (congrArg (fun z => z :: []) (show jv (g1 (0 : Int).toNat) = jv (if 0 < on σ p (fun a b c => wq (rtS (Sx a b c)) 4) then 1 else 0) from hgE)) ?_
    show WW K D z0 10 h2 (kc + 2) (ks + 12) 919 [(7, iv (if 0 < on σ p (fun a b c => wq (rtS (Sx a b c)) 4) then 1 else 0)), (6, iv (ms σ p 2)), (5, iv n5), (0, .ref sb), (1, .ref ox), (2, .ref my), (3, .ref ra), (4, .ref rd)] [jv (if 0 < on σ p (fun a b c => wq (rtS (Sx a b c)) 4) then 1 else 0)]
    refine r_iload 0 X dL_law_919 rfl ?_
    refine r_ifb_eq 928 X dL_law_921 (by decide) (fun c921 => ?_) (fun c921 => ?_)
    · refine r_lconst 0 X dL_law_928 (by decide) ?_
      refine WW_e (congrArg (fun z => [jv 0, jv z]) (if_neg (by assumption))) ?_
      show WW K D z0 10 h2 (kc + 2) (ks + 12) 929 [(7, iv (if 0 < on σ p (fun a b c => wq (rtS (Sx a b c)) 4) then 1 else 0)), (6, iv (ms σ p 2)), (5, iv n5), (0, .ref sb), (1, .ref ox), (2, .ref my), (3, .ref ra), (4, .ref rd)] [jv 0, jv 0]
      refine r_lcmp_eqS 935 X dL_law_929 dL_law_930 (by decide) ?_
      refine r_goto 2541 X dL_law_935 (by decide) ?_
      refine WW_sub (L' := [(5, iv n5), (0, .ref sb), (1, .ref ox), (2, .ref my), (3, .ref ra), (4, .ref rd)]) [2, 3, 4, 5, 6, 7] rfl ?_
      refine WW_room (show kc + 2 ≤ kc + 100 by omega) (show ks + 12 ≤ ks + 1000 by omega) ?_
      exact kk _ _ _ _ _ ⟨CS_WM hC1 hm1 ho hKW, ⟨_, e19, e29, e39, hi2, lo2, rf2, sq2, hm2, hE2⟩, ho, ⟨_, WM_a hm1 hKW hg1 rfl (Or.inl rfl)⟩, ⟨_, WM_a hm1 hKW hj1 rfl (Or.inr rfl)⟩⟩ hp
    · refine r_lconst 1 X dL_law_924 (by decide) ?_
      refine r_goto 929 X dL_law_925 (by decide) ?_
      refine WW_e (congrArg (fun z => [jv 1, jv z]) (if_pos (by assumption))) ?_
      show WW K D z0 10 h2 (kc + 2) (ks + 12) 929 [(7, iv (if 0 < on σ p (fun a b c => wq (rtS (Sx a b c)) 4) then 1 else 0)), (6, iv (ms σ p 2)), (5, iv n5), (0, .ref sb), (1, .ref ox), (2, .ref my), (3, .ref ra), (4, .ref rd)] [jv 1, jv 1]
      refine r_lcmp_eqS 935 X dL_law_929 dL_law_930 (by decide) ?_
      refine r_goto 2541 X dL_law_935 (by decide) ?_
      refine WW_sub (L' := [(5, iv n5), (0, .ref sb), (1, .ref ox), (2, .ref my), (3, .ref ra), (4, .ref rd)]) [2, 3, 4, 5, 6, 7] rfl ?_
      refine WW_room (show kc + 2 ≤ kc + 100 by omega) (show ks + 12 ≤ ks + 1000 by omega) ?_
      exact kk _ _ _ _ _ ⟨CS_WM hC1 hm1 ho hKW, ⟨_, e19, e29, e39, hi2, lo2, rf2, sq2, hm2, hE2⟩, ho, ⟨_, WM_a hm1 hKW hg1 rfl (Or.inl rfl)⟩, ⟨_, WM_a hm1 hKW hj1 rfl (Or.inr rfl)⟩⟩ hp
  · obtain ⟨rfl, e19, e29, e39, hi2, lo2, rf2, sq2, hm2, hE2⟩ := hM2 hcd
    obtain ⟨hC1, g1, hg1⟩ := hB1 hcd
    have ht2 := CS_TVs hC1
    show WW K D z0 10 h2 (kc + 2) (ks + 12) 898 [(6, iv (ms σ p 2)), (5, iv n5), (0, .ref sb), (1, .ref ox), (2, .ref my), (3, .ref ra), (4, .ref rd)] [iv 0]
    have hg2 := WM_a hm1 hKW hg1 rfl (Or.inl rfl)
    refine r_istore (L' := [(7, iv 0), (6, iv (ms σ p 2)), (5, iv n5), (0, .ref sb), (1, .ref ox), (2, .ref my), (3, .ref ra), (4, .ref rd)]) X dL_law_898 (by decide) rfl ?_
    refine r_aload_n 5 X dL_law_900 rfl ?_
    refine r_callV_v X dL_law_901 kL_141 hm2.1 (c_X7_thrown (CX_l X) D z0 h2 hm2 ht2) [] rfl rfl (Nat.le_of_ble_eq_true rfl) (by decide) rfl rfl (show kc + 2 ≤ 601024 ∧ ks + 12 ≤ 7293034 by omega) ?_
    show WW K D z0 10 h2 (kc + 2) (ks + 12) 904 [(7, iv 0), (6, iv (ms σ p 2)), (5, iv n5), (0, .ref sb), (1, .ref ox), (2, .ref my), (3, .ref ra), (4, .ref rd)] [iv (ms σ p 2)]
    refine r_iload 1 X dL_law_904 rfl ?_
    refine r_icmp_eqS 911 X dL_law_906 (by decide) ?_
    refine r_iload 1 X dL_law_911 rfl ?_
    refine r_if_ne 935 X dL_law_913 (by decide) ⟨by omega, by omega⟩ (fun c9 => ?_) (fun c9 => absurd c9 hcd)
    refine r_goto 2541 X dL_law_935 (by decide) ?_
    refine WW_sub (L' := [(5, iv n5), (0, .ref sb), (1, .ref ox), (2, .ref my), (3, .ref ra), (4, .ref rd)]) [2, 3, 4, 5, 6, 7] rfl ?_
    refine WW_room (show kc + 2 ≤ kc + 100 by omega) (show ks + 12 ≤ ks + 1000 by omega) ?_
    exact kk _ _ _ _ _ ⟨CS_WM hC1 hm1 ho hKW, ⟨_, e19, e29, e39, hi2, lo2, rf2, sq2, hm2, hE2⟩, ho, ⟨_, WM_a hm1 hKW hg1 rfl (Or.inl rfl)⟩, ⟨_, WM_a hm1 hKW hj1 rfl (Or.inr rfl)⟩⟩ hp
theorem case_area {K : KT} {D : va_G} {z0 : Nat} {h : Hp} {kc ks : Nat} (X : CX K D z0 cL_law 10 RL room_1) {sb N : Nat} {xs : Nat → Int32} (S : SX K z0 sb N xs) {ox my ra rd oo : Nat} {mv : Nat → Nat} {σ : Tg} {r : List Nat} {m : Nat} {od : Nat → Int} (J : JS D h ox my ra rd oo mv σ r m od) (hp : PI r m od) (n5 : Int) (hn5 : 0 ≤ n5 ∧ n5 + 5 ≤ (N : Int)) (hkc : kc + 100 ≤ 601024 ∧ ks + 1000 ≤ 7293034) (kk : ∀ (h' : Hp) (σ' : Tg) (r' : List Nat) (m' : Nat) (od' : Nat → Int), JS D h' ox my ra rd oo mv σ' r' m' od' → PI r' m' od' → WW K D z0 10 h' (kc + 100) (ks + 1000) 2541 [(5, iv n5), (0, .ref sb), (1, .ref ox), (2, .ref my), (3, .ref ra), (4, .ref rd)] []) : WW K D z0 10 h kc ks 938 [(5, iv n5), (0, .ref sb), (1, .ref ox), (2, .ref my), (3, .ref ra), (4, .ref rd)] [] := by
  obtain ⟨hC, ⟨tc, e1, e2, e3, hi9, lo9, rf9, sq9, hm, hE⟩, ho, ⟨ga, hga⟩, gd, hgd⟩ := J
  have hoo := CS_o hC
  have ht := CS_TVs hC
  obtain ⟨p, pd⟩ : ∃ u, u = (xs (n5 + 1).toNat).toInt := ⟨_, rfl⟩
  have p_ : I32 p := by rw [pd]; exact i32_toI _
  show WW K D z0 10 h (kc + 0) (ks + 0) 938 [(5, iv n5), (0, .ref sb), (1, .ref ox), (2, .ref my), (3, .ref ra), (4, .ref rd)] []
  refine r_aload_n 2 X dL_law_938 rfl ?_
  refine r_aload_n 1 X dL_law_939 rfl ?_
  refine r_iload 0 X dL_law_940 rfl ?_
  refine r_iconst X dL_law_942 ?_
  refine r_iadd X dL_law_943 ?_
  refine r_sld (v := p) X S dL_law_944 ⟨by omega, by omega⟩ pd ?_
  refine r_aload_n 4 X dL_law_945 rfl ?_
  refine r_callH X dL_law_946 kL_178 (c_L_area (CX_l X) D z0 h hC hp p p_ hga) [] rfl rfl (Nat.le_of_ble_eq_true rfl) (by decide) (show kc + 3 ≤ 601024 ∧ ks + 18 ≤ 7293034 by omega) (fun w9 h1 hw9 => ?_)
  obtain ⟨rfl, hcdb, hA1, hB1, hKA⟩ := hw9
  have hm1 := Mz_fr hm hKA ho ⟨_, hoo⟩ hga rfl (Or.inl rfl)
  have hj1 := KA_d hKA hoo hga hgd
  show WW K D z0 10 h1 (kc + 3) (ks + 18) 949 [(5, iv n5), (0, .ref sb), (1, .ref ox), (2, .ref my), (3, .ref ra), (4, .ref rd)] [iv (cdAr σ p)]
  refine r_istore (L' := [(6, iv (cdAr σ p)), (5, iv n5), (0, .ref sb), (1, .ref ox), (2, .ref my), (3, .ref ra), (4, .ref rd)]) X dL_law_949 (by decide) rfl ?_
  refine r_aload_n 4 X dL_law_951 rfl ?_
  refine r_aload_n 2 X dL_law_952 rfl ?_
  refine r_iload 1 X dL_law_953 rfl ?_
  refine r_iconst X dL_law_955 ?_
  refine r_iadd X dL_law_956 ?_
  refine r_sld (v := p) X S dL_law_957 ⟨by omega, by omega⟩ pd ?_
  refine r_callV X dL_law_958 kL_180 hm1.1 (c_X7_area (CX_l X) D z0 h1 hm1 ht p p_) [] rfl rfl (Nat.le_of_ble_eq_true rfl) (by decide) (show kc + 3 ≤ 601024 ∧ ks + 18 ≤ 7293034 by omega) (fun _ _ z => z.elim) (fun w8 h2 hw8 => ?_)
  obtain ⟨hM1, hM2, hKW⟩ := MO_MW hE hw8
  by_cases hcd : cdAr σ p = 0
  · obtain ⟨rfl, e19, e29, e39, hi2, lo2, rf2, sq2, hm2, hE2⟩ := hM1 hcd
    obtain ⟨hC1, g1, hg1, hgE⟩ := hA1 hcd
    have ht2 := CS_TVs hC1
    show WW K D z0 10 h2 (kc + 3) (ks + 18) 961 [(6, iv (cdAr σ p)), (5, iv n5), (0, .ref sb), (1, .ref ox), (2, .ref my), (3, .ref ra), (4, .ref rd)] [jv (on σ p (fun a b c => wq (rtS (Sx a b c)) 4))]
    have hg2 := WM_a hm1 hKW hg1 rfl (Or.inl rfl)
    refine r_lstore (L' := [(7, jv (on σ p (fun a b c => wq (rtS (Sx a b c)) 4))), (6, iv (cdAr σ p)), (5, iv n5), (0, .ref sb), (1, .ref ox), (2, .ref my), (3, .ref ra), (4, .ref rd)]) X dL_law_961 (by decide) rfl ?_
    refine r_aload_n 5 X dL_law_963 rfl ?_
    refine r_callV_v X dL_law_964 kL_141 hm2.1 (c_X7_thrown (CX_l X) D z0 h2 hm2 ht2) [] rfl rfl (Nat.le_of_ble_eq_true rfl) (by decide) rfl rfl (show kc + 3 ≤ 601024 ∧ ks + 18 ≤ 7293034 by omega) ?_
    show WW K D z0 10 h2 (kc + 3) (ks + 18) 967 [(7, jv (on σ p (fun a b c => wq (rtS (Sx a b c)) 4))), (6, iv (cdAr σ p)), (5, iv n5), (0, .ref sb), (1, .ref ox), (2, .ref my), (3, .ref ra), (4, .ref rd)] [iv (cdAr σ p)]
    refine r_iload 1 X dL_law_967 rfl ?_
    refine r_icmp_eqS 974 X dL_law_969 (by decide) ?_
    refine r_iload 1 X dL_law_974 rfl ?_
    refine r_if_ne 990 X dL_law_976 (by decide) ⟨by omega, by omega⟩ (fun c9 => absurd hcd c9) (fun c9 => ?_)
    refine r_aload_n 6 X dL_law_979 rfl ?_
    refine r_iconst X dL_law_980 ?_
    refine r_laload X dL_law_981 hg2 ⟨by omega, by omega⟩ (by decide) ?_
    refine WW_e (congrArg (fun z => z :: []) (show jv (g1 (0 : Int).toNat) = jv (on σ p (fun a b c => wq (rtS (Sx a b c)) 4)) from hgE)) ?_
    show WW K D z0 10 h2 (kc + 3) (ks + 18) 982 [(7, jv (on σ p (fun a b c => wq (rtS (Sx a b c)) 4))), (6, iv (cdAr σ p)), (5, iv n5), (0, .ref sb), (1, .ref ox), (2, .ref my), (3, .ref ra), (4, .ref rd)] [jv (on σ p (fun a b c => wq (rtS (Sx a b c)) 4))]
    refine r_lload 0 X dL_law_982 rfl ?_
    refine r_lcmp_eqS 990 X dL_law_984 dL_law_985 (by decide) ?_
    refine r_goto 2541 X dL_law_990 (by decide) ?_
    refine WW_sub (L' := [(5, iv n5), (0, .ref sb), (1, .ref ox), (2, .ref my), (3, .ref ra), (4, .ref rd)]) [2, 3, 4, 5, 6, 7] rfl ?_
    refine WW_room (show kc + 3 ≤ kc + 100 by omega) (show ks + 18 ≤ ks + 1000 by omega) ?_
    exact kk _ _ _ _ _ ⟨CS_WM hC1 hm1 ho hKW, ⟨_, e19, e29, e39, hi2, lo2, rf2, sq2, hm2, hE2⟩, ho, ⟨_, WM_a hm1 hKW hg1 rfl (Or.inl rfl)⟩, ⟨_, WM_a hm1 hKW hj1 rfl (Or.inr rfl)⟩⟩ hp
  · obtain ⟨rfl, e19, e29, e39, hi2, lo2, rf2, sq2, hm2, hE2⟩ := hM2 hcd
    obtain ⟨hC1, g1, hg1⟩ := hB1 hcd
    have ht2 := CS_TVs hC1
    show WW K D z0 10 h2 (kc + 3) (ks + 18) 961 [(6, iv (cdAr σ p)), (5, iv n5), (0, .ref sb), (1, .ref ox), (2, .ref my), (3, .ref ra), (4, .ref rd)] [jv 0]
    have hg2 := WM_a hm1 hKW hg1 rfl (Or.inl rfl)
    refine r_lstore (L' := [(7, jv 0), (6, iv (cdAr σ p)), (5, iv n5), (0, .ref sb), (1, .ref ox), (2, .ref my), (3, .ref ra), (4, .ref rd)]) X dL_law_961 (by decide) rfl ?_
    refine r_aload_n 5 X dL_law_963 rfl ?_
    refine r_callV_v X dL_law_964 kL_141 hm2.1 (c_X7_thrown (CX_l X) D z0 h2 hm2 ht2) [] rfl rfl (Nat.le_of_ble_eq_true rfl) (by decide) rfl rfl (show kc + 3 ≤ 601024 ∧ ks + 18 ≤ 7293034 by omega) ?_
    show WW K D z0 10 h2 (kc + 3) (ks + 18) 967 [(7, jv 0), (6, iv (cdAr σ p)), (5, iv n5), (0, .ref sb), (1, .ref ox), (2, .ref my), (3, .ref ra), (4, .ref rd)] [iv (cdAr σ p)]
    refine r_iload 1 X dL_law_967 rfl ?_
    refine r_icmp_eqS 974 X dL_law_969 (by decide) ?_
    refine r_iload 1 X dL_law_974 rfl ?_
    refine r_if_ne 990 X dL_law_976 (by decide) ⟨by omega, by omega⟩ (fun c9 => ?_) (fun c9 => absurd c9 hcd)
    refine r_goto 2541 X dL_law_990 (by decide) ?_
    refine WW_sub (L' := [(5, iv n5), (0, .ref sb), (1, .ref ox), (2, .ref my), (3, .ref ra), (4, .ref rd)]) [2, 3, 4, 5, 6, 7] rfl ?_
    refine WW_room (show kc + 3 ≤ kc + 100 by omega) (show ks + 18 ≤ ks + 1000 by omega) ?_
    exact kk _ _ _ _ _ ⟨CS_WM hC1 hm1 ho hKW, ⟨_, e19, e29, e39, hi2, lo2, rf2, sq2, hm2, hE2⟩, ho, ⟨_, WM_a hm1 hKW hg1 rfl (Or.inl rfl)⟩, ⟨_, WM_a hm1 hKW hj1 rfl (Or.inr rfl)⟩⟩ hp
theorem case_circle {K : KT} {D : va_G} {z0 : Nat} {h : Hp} {kc ks : Nat} (X : CX K D z0 cL_law 10 RL room_1) {sb N : Nat} {xs : Nat → Int32} (S : SX K z0 sb N xs) {ox my ra rd oo : Nat} {mv : Nat → Nat} {σ : Tg} {r : List Nat} {m : Nat} {od : Nat → Int} (J : JS D h ox my ra rd oo mv σ r m od) (hp : PI r m od) (n5 : Int) (hn5 : 0 ≤ n5 ∧ n5 + 5 ≤ (N : Int)) (hkc : kc + 100 ≤ 601024 ∧ ks + 1000 ≤ 7293034) (kk : ∀ (h' : Hp) (σ' : Tg) (r' : List Nat) (m' : Nat) (od' : Nat → Int), JS D h' ox my ra rd oo mv σ' r' m' od' → PI r' m' od' → WW K D z0 10 h' (kc + 100) (ks + 1000) 2541 [(5, iv n5), (0, .ref sb), (1, .ref ox), (2, .ref my), (3, .ref ra), (4, .ref rd)] []) : WW K D z0 10 h kc ks 993 [(5, iv n5), (0, .ref sb), (1, .ref ox), (2, .ref my), (3, .ref ra), (4, .ref rd)] [] := by
  obtain ⟨hC, ⟨tc, e1, e2, e3, hi9, lo9, rf9, sq9, hm, hE⟩, ho, ⟨ga, hga⟩, gd, hgd⟩ := J
  have hoo := CS_o hC
  have ht := CS_TVs hC
  obtain ⟨p, pd⟩ : ∃ u, u = (xs (n5 + 1).toNat).toInt := ⟨_, rfl⟩
  have p_ : I32 p := by rw [pd]; exact i32_toI _
  obtain ⟨u2, hu2⟩ : ∃ u, u = (xs (n5 + 2).toNat).toInt := ⟨_, rfl⟩
  have u2_ : I32 u2 := by rw [hu2]; exact i32_toI _
  obtain ⟨w, wd⟩ : ∃ z, z = u2 % 65536 := ⟨_, rfl⟩
  have w_ : 0 ≤ w ∧ w ≤ 65535 := by omega
  show WW K D z0 10 h (kc + 0) (ks + 0) 993 [(5, iv n5), (0, .ref sb), (1, .ref ox), (2, .ref my), (3, .ref ra), (4, .ref rd)] []
  refine r_aload_n 2 X dL_law_993 rfl ?_
  refine r_aload_n 1 X dL_law_994 rfl ?_
  refine r_iload 0 X dL_law_995 rfl ?_
  refine r_iconst X dL_law_997 ?_
  refine r_iadd X dL_law_998 ?_
  refine r_sld (v := p) X S dL_law_999 ⟨by omega, by omega⟩ pd ?_
  refine r_aload_n 1 X dL_law_1000 rfl ?_
  refine r_iload 0 X dL_law_1001 rfl ?_
  refine r_iconst X dL_law_1003 ?_
  refine r_iadd X dL_law_1004 ?_
  refine r_sld (v := u2) X S dL_law_1005 ⟨by omega, by omega⟩ hu2 ?_
  refine r_i2c X dL_law_1006 ?_
  refine WW_e (congrArg (fun z => iv z :: [iv p, .ref ox]) (show u2 % 65536 = w from wd.symm)) ?_
  show WW K D z0 10 h (kc + 0) (ks + 0) 1007 [(5, iv n5), (0, .ref sb), (1, .ref ox), (2, .ref my), (3, .ref ra), (4, .ref rd)] [iv w, iv p, .ref ox]
  refine r_aload_n 4 X dL_law_1007 rfl ?_
  refine r_callH X dL_law_1008 kL_181 (c_L_circle (CX_l X) D z0 h hC hp p p_ w w_ hga) [] rfl rfl (Nat.le_of_ble_eq_true rfl) (by decide) (show kc + 5 ≤ 601024 ∧ ks + 30 ≤ 7293034 by omega) (fun w9 h1 hw9 => ?_)
  obtain ⟨rfl, hcdb, hA1, hB1, hKA⟩ := hw9
  have hm1 := Mz_fr hm hKA ho ⟨_, hoo⟩ hga rfl (Or.inl rfl)
  have hj1 := KA_d hKA hoo hga hgd
  show WW K D z0 10 h1 (kc + 5) (ks + 30) 1011 [(5, iv n5), (0, .ref sb), (1, .ref ox), (2, .ref my), (3, .ref ra), (4, .ref rd)] [iv (cdCi σ p w)]
  refine r_istore (L' := [(6, iv (cdCi σ p w)), (5, iv n5), (0, .ref sb), (1, .ref ox), (2, .ref my), (3, .ref ra), (4, .ref rd)]) X dL_law_1011 (by decide) rfl ?_
  refine r_aload_n 4 X dL_law_1013 rfl ?_
  refine r_aload_n 2 X dL_law_1014 rfl ?_
  refine r_iload 1 X dL_law_1015 rfl ?_
  refine r_iconst X dL_law_1017 ?_
  refine r_iadd X dL_law_1018 ?_
  refine r_sld (v := p) X S dL_law_1019 ⟨by omega, by omega⟩ pd ?_
  refine r_aload_n 2 X dL_law_1020 rfl ?_
  refine r_iload 1 X dL_law_1021 rfl ?_
  refine r_iconst X dL_law_1023 ?_
  refine r_iadd X dL_law_1024 ?_
  refine r_sld (v := u2) X S dL_law_1025 ⟨by omega, by omega⟩ hu2 ?_
  refine r_i2c X dL_law_1026 ?_
  refine WW_e (congrArg (fun z => iv z :: [iv p, .ref my]) (show u2 % 65536 = w from wd.symm)) ?_
  show WW K D z0 10 h1 (kc + 5) (ks + 30) 1027 [(6, iv (cdCi σ p w)), (5, iv n5), (0, .ref sb), (1, .ref ox), (2, .ref my), (3, .ref ra), (4, .ref rd)] [iv w, iv p, .ref my]
  refine r_callV X dL_law_1027 kL_184 hm1.1 (c_X7_circle (CX_l X) D z0 h1 hm1 ht p p_ w w_) [] rfl rfl (Nat.le_of_ble_eq_true rfl) (by decide) (show kc + 5 ≤ 601024 ∧ ks + 30 ≤ 7293034 by omega) (fun _ _ z => z.elim) (fun w8 h2 hw8 => ?_)
  obtain ⟨hM1, hM2, hKW⟩ := MO_MW hE hw8
  by_cases hcd : cdCi σ p w = 0
  · obtain ⟨rfl, e19, e29, e39, hi2, lo2, rf2, sq2, hm2, hE2⟩ := hM1 hcd
    obtain ⟨hC1, g1, hg1, hgE⟩ := hA1 hcd
    have ht2 := CS_TVs hC1
    show WW K D z0 10 h2 (kc + 5) (ks + 30) 1030 [(6, iv (cdCi σ p w)), (5, iv n5), (0, .ref sb), (1, .ref ox), (2, .ref my), (3, .ref ra), (4, .ref rd)] [jv (vCi σ p w)]
    have hg2 := WM_a hm1 hKW hg1 rfl (Or.inl rfl)
    refine r_lstore (L' := [(7, jv (vCi σ p w)), (6, iv (cdCi σ p w)), (5, iv n5), (0, .ref sb), (1, .ref ox), (2, .ref my), (3, .ref ra), (4, .ref rd)]) X dL_law_1030 (by decide) rfl ?_
    refine r_aload_n 5 X dL_law_1032 rfl ?_
    refine r_callV_v X dL_law_1033 kL_141 hm2.1 (c_X7_thrown (CX_l X) D z0 h2 hm2 ht2) [] rfl rfl (Nat.le_of_ble_eq_true rfl) (by decide) rfl rfl (show kc + 5 ≤ 601024 ∧ ks + 30 ≤ 7293034 by omega) ?_
    show WW K D z0 10 h2 (kc + 5) (ks + 30) 1036 [(7, jv (vCi σ p w)), (6, iv (cdCi σ p w)), (5, iv n5), (0, .ref sb), (1, .ref ox), (2, .ref my), (3, .ref ra), (4, .ref rd)] [iv (cdCi σ p w)]
    refine r_iload 1 X dL_law_1036 rfl ?_
    refine r_icmp_eqS 1043 X dL_law_1038 (by decide) ?_
    refine r_iload 1 X dL_law_1043 rfl ?_
    refine r_if_ne 1059 X dL_law_1045 (by decide) ⟨by omega, by omega⟩ (fun c9 => absurd hcd c9) (fun c9 => ?_)
    refine r_aload_n 6 X dL_law_1048 rfl ?_
    refine r_iconst X dL_law_1049 ?_
    refine r_laload X dL_law_1050 hg2 ⟨by omega, by omega⟩ (by decide) ?_
    refine WW_e (congrArg (fun z => z :: []) (show jv (g1 (0 : Int).toNat) = jv (vCi σ p w) from hgE)) ?_
    show WW K D z0 10 h2 (kc + 5) (ks + 30) 1051 [(7, jv (vCi σ p w)), (6, iv (cdCi σ p w)), (5, iv n5), (0, .ref sb), (1, .ref ox), (2, .ref my), (3, .ref ra), (4, .ref rd)] [jv (vCi σ p w)]
    refine r_lload 0 X dL_law_1051 rfl ?_
    refine r_lcmp_eqS 1059 X dL_law_1053 dL_law_1054 (by decide) ?_
    refine r_goto 2541 X dL_law_1059 (by decide) ?_
    refine WW_sub (L' := [(5, iv n5), (0, .ref sb), (1, .ref ox), (2, .ref my), (3, .ref ra), (4, .ref rd)]) [2, 3, 4, 5, 6, 7] rfl ?_
    refine WW_room (show kc + 5 ≤ kc + 100 by omega) (show ks + 30 ≤ ks + 1000 by omega) ?_
    exact kk _ _ _ _ _ ⟨CS_WM hC1 hm1 ho hKW, ⟨_, e19, e29, e39, hi2, lo2, rf2, sq2, hm2, hE2⟩, ho, ⟨_, WM_a hm1 hKW hg1 rfl (Or.inl rfl)⟩, ⟨_, WM_a hm1 hKW hj1 rfl (Or.inr rfl)⟩⟩ hp
  · obtain ⟨rfl, e19, e29, e39, hi2, lo2, rf2, sq2, hm2, hE2⟩ := hM2 hcd
    obtain ⟨hC1, g1, hg1⟩ := hB1 hcd
    have ht2 := CS_TVs hC1
    show WW K D z0 10 h2 (kc + 5) (ks + 30) 1030 [(6, iv (cdCi σ p w)), (5, iv n5), (0, .ref sb), (1, .ref ox), (2, .ref my), (3, .ref ra), (4, .ref rd)] [jv 0]
    have hg2 := WM_a hm1 hKW hg1 rfl (Or.inl rfl)
    refine r_lstore (L' := [(7, jv 0), (6, iv (cdCi σ p w)), (5, iv n5), (0, .ref sb), (1, .ref ox), (2, .ref my), (3, .ref ra), (4, .ref rd)]) X dL_law_1030 (by decide) rfl ?_
    refine r_aload_n 5 X dL_law_1032 rfl ?_
    refine r_callV_v X dL_law_1033 kL_141 hm2.1 (c_X7_thrown (CX_l X) D z0 h2 hm2 ht2) [] rfl rfl (Nat.le_of_ble_eq_true rfl) (by decide) rfl rfl (show kc + 5 ≤ 601024 ∧ ks + 30 ≤ 7293034 by omega) ?_
    show WW K D z0 10 h2 (kc + 5) (ks + 30) 1036 [(7, jv 0), (6, iv (cdCi σ p w)), (5, iv n5), (0, .ref sb), (1, .ref ox), (2, .ref my), (3, .ref ra), (4, .ref rd)] [iv (cdCi σ p w)]
    refine r_iload 1 X dL_law_1036 rfl ?_
    refine r_icmp_eqS 1043 X dL_law_1038 (by decide) ?_
    refine r_iload 1 X dL_law_1043 rfl ?_
    refine r_if_ne 1059 X dL_law_1045 (by decide) ⟨by omega, by omega⟩ (fun c9 => ?_) (fun c9 => absurd c9 hcd)
    refine r_goto 2541 X dL_law_1059 (by decide) ?_
    refine WW_sub (L' := [(5, iv n5), (0, .ref sb), (1, .ref ox), (2, .ref my), (3, .ref ra), (4, .ref rd)]) [2, 3, 4, 5, 6, 7] rfl ?_
    refine WW_room (show kc + 5 ≤ kc + 100 by omega) (show ks + 30 ≤ ks + 1000 by omega) ?_
    exact kk _ _ _ _ _ ⟨CS_WM hC1 hm1 ho hKW, ⟨_, e19, e29, e39, hi2, lo2, rf2, sq2, hm2, hE2⟩, ho, ⟨_, WM_a hm1 hKW hg1 rfl (Or.inl rfl)⟩, ⟨_, WM_a hm1 hKW hj1 rfl (Or.inr rfl)⟩⟩ hp
theorem case_compareAreas {K : KT} {D : va_G} {z0 : Nat} {h : Hp} {kc ks : Nat} (X : CX K D z0 cL_law 10 RL room_1) {sb N : Nat} {xs : Nat → Int32} (S : SX K z0 sb N xs) {ox my ra rd oo : Nat} {mv : Nat → Nat} {σ : Tg} {r : List Nat} {m : Nat} {od : Nat → Int} (J : JS D h ox my ra rd oo mv σ r m od) (hp : PI r m od) (n5 : Int) (hn5 : 0 ≤ n5 ∧ n5 + 5 ≤ (N : Int)) (hkc : kc + 100 ≤ 601024 ∧ ks + 1000 ≤ 7293034) (kk : ∀ (h' : Hp) (σ' : Tg) (r' : List Nat) (m' : Nat) (od' : Nat → Int), JS D h' ox my ra rd oo mv σ' r' m' od' → PI r' m' od' → WW K D z0 10 h' (kc + 100) (ks + 1000) 2541 [(5, iv n5), (0, .ref sb), (1, .ref ox), (2, .ref my), (3, .ref ra), (4, .ref rd)] []) : WW K D z0 10 h kc ks 1062 [(5, iv n5), (0, .ref sb), (1, .ref ox), (2, .ref my), (3, .ref ra), (4, .ref rd)] [] := by
  obtain ⟨hC, ⟨tc, e1, e2, e3, hi9, lo9, rf9, sq9, hm, hE⟩, ho, ⟨ga, hga⟩, gd, hgd⟩ := J
  have hoo := CS_o hC
  have ht := CS_TVs hC
  obtain ⟨p, pd⟩ : ∃ u, u = (xs (n5 + 1).toNat).toInt := ⟨_, rfl⟩
  have p_ : I32 p := by rw [pd]; exact i32_toI _
  obtain ⟨q, qd⟩ : ∃ u, u = (xs (n5 + 2).toNat).toInt := ⟨_, rfl⟩
  have q_ : I32 q := by rw [qd]; exact i32_toI _
  show WW K D z0 10 h (kc + 0) (ks + 0) 1062 [(5, iv n5), (0, .ref sb), (1, .ref ox), (2, .ref my), (3, .ref ra), (4, .ref rd)] []
  refine r_aload_n 2 X dL_law_1062 rfl ?_
  refine r_aload_n 1 X dL_law_1063 rfl ?_
  refine r_iload 0 X dL_law_1064 rfl ?_
  refine r_iconst X dL_law_1066 ?_
  refine r_iadd X dL_law_1067 ?_
  refine r_sld (v := p) X S dL_law_1068 ⟨by omega, by omega⟩ pd ?_
  refine r_aload_n 1 X dL_law_1069 rfl ?_
  refine r_iload 0 X dL_law_1070 rfl ?_
  refine r_iconst X dL_law_1072 ?_
  refine r_iadd X dL_law_1073 ?_
  refine r_sld (v := q) X S dL_law_1074 ⟨by omega, by omega⟩ qd ?_
  refine r_aload_n 4 X dL_law_1075 rfl ?_
  refine r_callH X dL_law_1076 kL_185 (c_L_compareAreas (CX_l X) D z0 h hC hp p p_ q q_ hga) [] rfl rfl (Nat.le_of_ble_eq_true rfl) (by decide) (show kc + 6 ≤ 601024 ∧ ks + 36 ≤ 7293034 by omega) (fun w9 h1 hw9 => ?_)
  obtain ⟨rfl, hcdb, hA1, hB1, hKA⟩ := hw9
  have hm1 := Mz_fr hm hKA ho ⟨_, hoo⟩ hga rfl (Or.inl rfl)
  have hj1 := KA_d hKA hoo hga hgd
  show WW K D z0 10 h1 (kc + 6) (ks + 36) 1079 [(5, iv n5), (0, .ref sb), (1, .ref ox), (2, .ref my), (3, .ref ra), (4, .ref rd)] [iv (cd2 σ p q)]
  refine r_istore (L' := [(6, iv (cd2 σ p q)), (5, iv n5), (0, .ref sb), (1, .ref ox), (2, .ref my), (3, .ref ra), (4, .ref rd)]) X dL_law_1079 (by decide) rfl ?_
  refine r_aload_n 4 X dL_law_1081 rfl ?_
  refine r_aload_n 2 X dL_law_1082 rfl ?_
  refine r_iload 1 X dL_law_1083 rfl ?_
  refine r_iconst X dL_law_1085 ?_
  refine r_iadd X dL_law_1086 ?_
  refine r_sld (v := p) X S dL_law_1087 ⟨by omega, by omega⟩ pd ?_
  refine r_aload_n 2 X dL_law_1088 rfl ?_
  refine r_iload 1 X dL_law_1089 rfl ?_
  refine r_iconst X dL_law_1091 ?_
  refine r_iadd X dL_law_1092 ?_
  refine r_sld (v := q) X S dL_law_1093 ⟨by omega, by omega⟩ qd ?_
  refine r_callV X dL_law_1094 kL_187 hm1.1 (c_X7_compareAreas (CX_l X) D z0 h1 hm1 ht p p_ q q_) [] rfl rfl (Nat.le_of_ble_eq_true rfl) (by decide) (show kc + 6 ≤ 601024 ∧ ks + 36 ≤ 7293034 by omega) (fun _ _ z => z.elim) (fun w8 h2 hw8 => ?_)
  obtain ⟨hM1, hM2, hKW⟩ := MO_MW hE hw8
  by_cases hcd : cd2 σ p q = 0
  · obtain ⟨rfl, e19, e29, e39, hi2, lo2, rf2, sq2, hm2, hE2⟩ := hM1 hcd
    obtain ⟨hC1, g1, hg1, hgE⟩ := hA1 hcd
    have ht2 := CS_TVs hC1
    show WW K D z0 10 h2 (kc + 6) (ks + 36) 1097 [(6, iv (cd2 σ p q)), (5, iv n5), (0, .ref sb), (1, .ref ox), (2, .ref my), (3, .ref ra), (4, .ref rd)] [iv (on σ p (fun a b c => on σ q (fun d e f => cmpv (Sx a b c) (Sx d e f))))]
    have hg2 := WM_a hm1 hKW hg1 rfl (Or.inl rfl)
    refine r_istore (L' := [(7, iv (on σ p (fun a b c => on σ q (fun d e f => cmpv (Sx a b c) (Sx d e f))))), (6, iv (cd2 σ p q)), (5, iv n5), (0, .ref sb), (1, .ref ox), (2, .ref my), (3, .ref ra), (4, .ref rd)]) X dL_law_1097 (by decide) rfl ?_
    refine r_aload_n 5 X dL_law_1099 rfl ?_
    refine r_callV_v X dL_law_1100 kL_141 hm2.1 (c_X7_thrown (CX_l X) D z0 h2 hm2 ht2) [] rfl rfl (Nat.le_of_ble_eq_true rfl) (by decide) rfl rfl (show kc + 6 ≤ 601024 ∧ ks + 36 ≤ 7293034 by omega) ?_
    show WW K D z0 10 h2 (kc + 6) (ks + 36) 1103 [(7, iv (on σ p (fun a b c => on σ q (fun d e f => cmpv (Sx a b c) (Sx d e f))))), (6, iv (cd2 σ p q)), (5, iv n5), (0, .ref sb), (1, .ref ox), (2, .ref my), (3, .ref ra), (4, .ref rd)] [iv (cd2 σ p q)]
    refine r_iload 1 X dL_law_1103 rfl ?_
    refine r_icmp_eqS 1110 X dL_law_1105 (by decide) ?_
    refine r_iload 1 X dL_law_1110 rfl ?_
    refine r_if_ne 1127 X dL_law_1112 (by decide) ⟨by omega, by omega⟩ (fun c9 => absurd hcd c9) (fun c9 => ?_)
    refine r_aload_n 6 X dL_law_1115 rfl ?_
    refine r_iconst X dL_law_1116 ?_
    refine r_laload X dL_law_1117 hg2 ⟨by omega, by omega⟩ (by decide) ?_
    refine WW_e (congrArg (fun z => z :: []) (show jv (g1 (0 : Int).toNat) = jv (w32 (on σ p (fun a b c => on σ q (fun d e f => cmpv (Sx a b c) (Sx d e f))))) from hgE)) ?_
    show WW K D z0 10 h2 (kc + 6) (ks + 36) 1118 [(7, iv (on σ p (fun a b c => on σ q (fun d e f => cmpv (Sx a b c) (Sx d e f))))), (6, iv (cd2 σ p q)), (5, iv n5), (0, .ref sb), (1, .ref ox), (2, .ref my), (3, .ref ra), (4, .ref rd)] [jv (w32 (on σ p (fun a b c => on σ q (fun d e f => cmpv (Sx a b c) (Sx d e f)))))]
    refine r_iload 0 X dL_law_1118 rfl ?_
    refine r_i2lS X dL_law_1120 ?_
    refine r_lcmp_eqS 1127 X dL_law_1121 dL_law_1122 (by decide) ?_
    refine r_goto 2541 X dL_law_1127 (by decide) ?_
    refine WW_sub (L' := [(5, iv n5), (0, .ref sb), (1, .ref ox), (2, .ref my), (3, .ref ra), (4, .ref rd)]) [2, 3, 4, 5, 6, 7] rfl ?_
    refine WW_room (show kc + 6 ≤ kc + 100 by omega) (show ks + 36 ≤ ks + 1000 by omega) ?_
    exact kk _ _ _ _ _ ⟨CS_WM hC1 hm1 ho hKW, ⟨_, e19, e29, e39, hi2, lo2, rf2, sq2, hm2, hE2⟩, ho, ⟨_, WM_a hm1 hKW hg1 rfl (Or.inl rfl)⟩, ⟨_, WM_a hm1 hKW hj1 rfl (Or.inr rfl)⟩⟩ hp
  · obtain ⟨rfl, e19, e29, e39, hi2, lo2, rf2, sq2, hm2, hE2⟩ := hM2 hcd
    obtain ⟨hC1, g1, hg1⟩ := hB1 hcd
    have ht2 := CS_TVs hC1
    show WW K D z0 10 h2 (kc + 6) (ks + 36) 1097 [(6, iv (cd2 σ p q)), (5, iv n5), (0, .ref sb), (1, .ref ox), (2, .ref my), (3, .ref ra), (4, .ref rd)] [iv 0]
    have hg2 := WM_a hm1 hKW hg1 rfl (Or.inl rfl)
    refine r_istore (L' := [(7, iv 0), (6, iv (cd2 σ p q)), (5, iv n5), (0, .ref sb), (1, .ref ox), (2, .ref my), (3, .ref ra), (4, .ref rd)]) X dL_law_1097 (by decide) rfl ?_
    refine r_aload_n 5 X dL_law_1099 rfl ?_
    refine r_callV_v X dL_law_1100 kL_141 hm2.1 (c_X7_thrown (CX_l X) D z0 h2 hm2 ht2) [] rfl rfl (Nat.le_of_ble_eq_true rfl) (by decide) rfl rfl (show kc + 6 ≤ 601024 ∧ ks + 36 ≤ 7293034 by omega) ?_
    show WW K D z0 10 h2 (kc + 6) (ks + 36) 1103 [(7, iv 0), (6, iv (cd2 σ p q)), (5, iv n5), (0, .ref sb), (1, .ref ox), (2, .ref my), (3, .ref ra), (4, .ref rd)] [iv (cd2 σ p q)]
    refine r_iload 1 X dL_law_1103 rfl ?_
    refine r_icmp_eqS 1110 X dL_law_1105 (by decide) ?_
    refine r_iload 1 X dL_law_1110 rfl ?_
    refine r_if_ne 1127 X dL_law_1112 (by decide) ⟨by omega, by omega⟩ (fun c9 => ?_) (fun c9 => absurd c9 hcd)
    refine r_goto 2541 X dL_law_1127 (by decide) ?_
    refine WW_sub (L' := [(5, iv n5), (0, .ref sb), (1, .ref ox), (2, .ref my), (3, .ref ra), (4, .ref rd)]) [2, 3, 4, 5, 6, 7] rfl ?_
    refine WW_room (show kc + 6 ≤ kc + 100 by omega) (show ks + 36 ≤ ks + 1000 by omega) ?_
    exact kk _ _ _ _ _ ⟨CS_WM hC1 hm1 ho hKW, ⟨_, e19, e29, e39, hi2, lo2, rf2, sq2, hm2, hE2⟩, ho, ⟨_, WM_a hm1 hKW hg1 rfl (Or.inl rfl)⟩, ⟨_, WM_a hm1 hKW hj1 rfl (Or.inr rfl)⟩⟩ hp
theorem case_product {K : KT} {D : va_G} {z0 : Nat} {h : Hp} {kc ks : Nat} (X : CX K D z0 cL_law 10 RL room_1) {sb N : Nat} {xs : Nat → Int32} (S : SX K z0 sb N xs) {ox my ra rd oo : Nat} {mv : Nat → Nat} {σ : Tg} {r : List Nat} {m : Nat} {od : Nat → Int} (J : JS D h ox my ra rd oo mv σ r m od) (hp : PI r m od) (n5 : Int) (hn5 : 0 ≤ n5 ∧ n5 + 5 ≤ (N : Int)) (hkc : kc + 100 ≤ 601024 ∧ ks + 1000 ≤ 7293034) (kk : ∀ (h' : Hp) (σ' : Tg) (r' : List Nat) (m' : Nat) (od' : Nat → Int), JS D h' ox my ra rd oo mv σ' r' m' od' → PI r' m' od' → WW K D z0 10 h' (kc + 100) (ks + 1000) 2541 [(5, iv n5), (0, .ref sb), (1, .ref ox), (2, .ref my), (3, .ref ra), (4, .ref rd)] []) : WW K D z0 10 h kc ks 1130 [(5, iv n5), (0, .ref sb), (1, .ref ox), (2, .ref my), (3, .ref ra), (4, .ref rd)] [] := by
  obtain ⟨hC, ⟨tc, e1, e2, e3, hi9, lo9, rf9, sq9, hm, hE⟩, ho, ⟨ga, hga⟩, gd, hgd⟩ := J
  have hoo := CS_o hC
  have ht := CS_TVs hC
  obtain ⟨p, pd⟩ : ∃ u, u = (xs (n5 + 1).toNat).toInt := ⟨_, rfl⟩
  have p_ : I32 p := by rw [pd]; exact i32_toI _
  show WW K D z0 10 h (kc + 0) (ks + 0) 1130 [(5, iv n5), (0, .ref sb), (1, .ref ox), (2, .ref my), (3, .ref ra), (4, .ref rd)] []
  refine r_aload_n 2 X dL_law_1130 rfl ?_
  refine r_aload_n 1 X dL_law_1131 rfl ?_
  refine r_iload 0 X dL_law_1132 rfl ?_
  refine r_iconst X dL_law_1134 ?_
  refine r_iadd X dL_law_1135 ?_
  refine r_sld (v := p) X S dL_law_1136 ⟨by omega, by omega⟩ pd ?_
  refine r_aload_n 4 X dL_law_1137 rfl ?_
  refine r_callH X dL_law_1138 kL_188 (c_L_product (CX_l X) D z0 h hC hp p p_ hga) [] rfl rfl (Nat.le_of_ble_eq_true rfl) (by decide) (show kc + 2 ≤ 601024 ∧ ks + 12 ≤ 7293034 by omega) (fun w9 h1 hw9 => ?_)
  obtain ⟨rfl, hcdb, hA1, hB1, hKA⟩ := hw9
  have hm1 := Mz_fr hm hKA ho ⟨_, hoo⟩ hga rfl (Or.inl rfl)
  have hj1 := KA_d hKA hoo hga hgd
  show WW K D z0 10 h1 (kc + 2) (ks + 12) 1141 [(5, iv n5), (0, .ref sb), (1, .ref ox), (2, .ref my), (3, .ref ra), (4, .ref rd)] [iv (ms σ p 2)]
  refine r_istore (L' := [(6, iv (ms σ p 2)), (5, iv n5), (0, .ref sb), (1, .ref ox), (2, .ref my), (3, .ref ra), (4, .ref rd)]) X dL_law_1141 (by decide) rfl ?_
  refine r_aload_n 4 X dL_law_1143 rfl ?_
  refine r_aload_n 2 X dL_law_1144 rfl ?_
  refine r_iload 1 X dL_law_1145 rfl ?_
  refine r_iconst X dL_law_1147 ?_
  refine r_iadd X dL_law_1148 ?_
  refine r_sld (v := p) X S dL_law_1149 ⟨by omega, by omega⟩ pd ?_
  refine r_callV X dL_law_1150 kL_190 hm1.1 (c_X7_product (CX_l X) D z0 h1 hm1 ht p p_) [] rfl rfl (Nat.le_of_ble_eq_true rfl) (by decide) (show kc + 2 ≤ 601024 ∧ ks + 12 ≤ 7293034 by omega) (fun _ _ z => z.elim) (fun w8 h2 hw8 => ?_)
  obtain ⟨hM1, hM2, hKW⟩ := MO_MW hE hw8
  by_cases hcd : ms σ p 2 = 0
  · obtain ⟨rfl, e19, e29, e39, hi2, lo2, rf2, sq2, hm2, hE2⟩ := hM1 hcd
    obtain ⟨hC1, g1, hg1, hgE⟩ := hA1 hcd
    have ht2 := CS_TVs hC1
    show WW K D z0 10 h2 (kc + 2) (ks + 12) 1153 [(6, iv (ms σ p 2)), (5, iv n5), (0, .ref sb), (1, .ref ox), (2, .ref my), (3, .ref ra), (4, .ref rd)] [jv (on σ p Sx)]
    have hg2 := WM_a hm1 hKW hg1 rfl (Or.inl rfl)
    refine r_lstore (L' := [(7, jv (on σ p Sx)), (6, iv (ms σ p 2)), (5, iv n5), (0, .ref sb), (1, .ref ox), (2, .ref my), (3, .ref ra), (4, .ref rd)]) X dL_law_1153 (by decide) rfl ?_
    refine r_aload_n 5 X dL_law_1155 rfl ?_
    refine r_callV_v X dL_law_1156 kL_141 hm2.1 (c_X7_thrown (CX_l X) D z0 h2 hm2 ht2) [] rfl rfl (Nat.le_of_ble_eq_true rfl) (by decide) rfl rfl (show kc + 2 ≤ 601024 ∧ ks + 12 ≤ 7293034 by omega) ?_
    show WW K D z0 10 h2 (kc + 2) (ks + 12) 1159 [(7, jv (on σ p Sx)), (6, iv (ms σ p 2)), (5, iv n5), (0, .ref sb), (1, .ref ox), (2, .ref my), (3, .ref ra), (4, .ref rd)] [iv (ms σ p 2)]
    refine r_iload 1 X dL_law_1159 rfl ?_
    refine r_icmp_eqS 1166 X dL_law_1161 (by decide) ?_
    refine r_iload 1 X dL_law_1166 rfl ?_
    refine r_if_ne 1182 X dL_law_1168 (by decide) ⟨by omega, by omega⟩ (fun c9 => absurd hcd c9) (fun c9 => ?_)
    refine r_aload_n 6 X dL_law_1171 rfl ?_
    refine r_iconst X dL_law_1172 ?_
    refine r_laload X dL_law_1173 hg2 ⟨by omega, by omega⟩ (by decide) ?_
    refine WW_e (congrArg (fun z => z :: []) (show jv (g1 (0 : Int).toNat) = jv (on σ p Sx) from hgE)) ?_
    show WW K D z0 10 h2 (kc + 2) (ks + 12) 1174 [(7, jv (on σ p Sx)), (6, iv (ms σ p 2)), (5, iv n5), (0, .ref sb), (1, .ref ox), (2, .ref my), (3, .ref ra), (4, .ref rd)] [jv (on σ p Sx)]
    refine r_lload 0 X dL_law_1174 rfl ?_
    refine r_lcmp_eqS 1182 X dL_law_1176 dL_law_1177 (by decide) ?_
    refine r_goto 2541 X dL_law_1182 (by decide) ?_
    refine WW_sub (L' := [(5, iv n5), (0, .ref sb), (1, .ref ox), (2, .ref my), (3, .ref ra), (4, .ref rd)]) [2, 3, 4, 5, 6, 7] rfl ?_
    refine WW_room (show kc + 2 ≤ kc + 100 by omega) (show ks + 12 ≤ ks + 1000 by omega) ?_
    exact kk _ _ _ _ _ ⟨CS_WM hC1 hm1 ho hKW, ⟨_, e19, e29, e39, hi2, lo2, rf2, sq2, hm2, hE2⟩, ho, ⟨_, WM_a hm1 hKW hg1 rfl (Or.inl rfl)⟩, ⟨_, WM_a hm1 hKW hj1 rfl (Or.inr rfl)⟩⟩ hp
  · obtain ⟨rfl, e19, e29, e39, hi2, lo2, rf2, sq2, hm2, hE2⟩ := hM2 hcd
    obtain ⟨hC1, g1, hg1⟩ := hB1 hcd
    have ht2 := CS_TVs hC1
    show WW K D z0 10 h2 (kc + 2) (ks + 12) 1153 [(6, iv (ms σ p 2)), (5, iv n5), (0, .ref sb), (1, .ref ox), (2, .ref my), (3, .ref ra), (4, .ref rd)] [jv 0]
    have hg2 := WM_a hm1 hKW hg1 rfl (Or.inl rfl)
    refine r_lstore (L' := [(7, jv 0), (6, iv (ms σ p 2)), (5, iv n5), (0, .ref sb), (1, .ref ox), (2, .ref my), (3, .ref ra), (4, .ref rd)]) X dL_law_1153 (by decide) rfl ?_
    refine r_aload_n 5 X dL_law_1155 rfl ?_
    refine r_callV_v X dL_law_1156 kL_141 hm2.1 (c_X7_thrown (CX_l X) D z0 h2 hm2 ht2) [] rfl rfl (Nat.le_of_ble_eq_true rfl) (by decide) rfl rfl (show kc + 2 ≤ 601024 ∧ ks + 12 ≤ 7293034 by omega) ?_
    show WW K D z0 10 h2 (kc + 2) (ks + 12) 1159 [(7, jv 0), (6, iv (ms σ p 2)), (5, iv n5), (0, .ref sb), (1, .ref ox), (2, .ref my), (3, .ref ra), (4, .ref rd)] [iv (ms σ p 2)]
    refine r_iload 1 X dL_law_1159 rfl ?_
    refine r_icmp_eqS 1166 X dL_law_1161 (by decide) ?_
    refine r_iload 1 X dL_law_1166 rfl ?_
    refine r_if_ne 1182 X dL_law_1168 (by decide) ⟨by omega, by omega⟩ (fun c9 => ?_) (fun c9 => absurd c9 hcd)
    refine r_goto 2541 X dL_law_1182 (by decide) ?_
    refine WW_sub (L' := [(5, iv n5), (0, .ref sb), (1, .ref ox), (2, .ref my), (3, .ref ra), (4, .ref rd)]) [2, 3, 4, 5, 6, 7] rfl ?_
    refine WW_room (show kc + 2 ≤ kc + 100 by omega) (show ks + 12 ≤ ks + 1000 by omega) ?_
    exact kk _ _ _ _ _ ⟨CS_WM hC1 hm1 ho hKW, ⟨_, e19, e29, e39, hi2, lo2, rf2, sq2, hm2, hE2⟩, ho, ⟨_, WM_a hm1 hKW hg1 rfl (Or.inl rfl)⟩, ⟨_, WM_a hm1 hKW hj1 rfl (Or.inr rfl)⟩⟩ hp
theorem case_bits {K : KT} {D : va_G} {z0 : Nat} {h : Hp} {kc ks : Nat} (X : CX K D z0 cL_law 10 RL room_1) {sb N : Nat} {xs : Nat → Int32} (S : SX K z0 sb N xs) {ox my ra rd oo : Nat} {mv : Nat → Nat} {σ : Tg} {r : List Nat} {m : Nat} {od : Nat → Int} (J : JS D h ox my ra rd oo mv σ r m od) (hp : PI r m od) (n5 : Int) (hn5 : 0 ≤ n5 ∧ n5 + 5 ≤ (N : Int)) (hkc : kc + 100 ≤ 601024 ∧ ks + 1000 ≤ 7293034) (kk : ∀ (h' : Hp) (σ' : Tg) (r' : List Nat) (m' : Nat) (od' : Nat → Int), JS D h' ox my ra rd oo mv σ' r' m' od' → PI r' m' od' → WW K D z0 10 h' (kc + 100) (ks + 1000) 2541 [(5, iv n5), (0, .ref sb), (1, .ref ox), (2, .ref my), (3, .ref ra), (4, .ref rd)] []) : WW K D z0 10 h kc ks 1185 [(5, iv n5), (0, .ref sb), (1, .ref ox), (2, .ref my), (3, .ref ra), (4, .ref rd)] [] := by
  obtain ⟨hC, ⟨tc, e1, e2, e3, hi9, lo9, rf9, sq9, hm, hE⟩, ho, ⟨ga, hga⟩, gd, hgd⟩ := J
  have hoo := CS_o hC
  have ht := CS_TVs hC
  obtain ⟨p, pd⟩ : ∃ u, u = (xs (n5 + 1).toNat).toInt := ⟨_, rfl⟩
  have p_ : I32 p := by rw [pd]; exact i32_toI _
  show WW K D z0 10 h (kc + 0) (ks + 0) 1185 [(5, iv n5), (0, .ref sb), (1, .ref ox), (2, .ref my), (3, .ref ra), (4, .ref rd)] []
  refine r_aload_n 2 X dL_law_1185 rfl ?_
  refine r_aload_n 1 X dL_law_1186 rfl ?_
  refine r_iload 0 X dL_law_1187 rfl ?_
  refine r_iconst X dL_law_1189 ?_
  refine r_iadd X dL_law_1190 ?_
  refine r_sld (v := p) X S dL_law_1191 ⟨by omega, by omega⟩ pd ?_
  refine r_aload_n 4 X dL_law_1192 rfl ?_
  refine r_callH X dL_law_1193 kL_191 (c_L_bits (CX_l X) D z0 h hC hp p p_ hga) [] rfl rfl (Nat.le_of_ble_eq_true rfl) (by decide) (show kc + 2 ≤ 601024 ∧ ks + 12 ≤ 7293034 by omega) (fun w9 h1 hw9 => ?_)
  obtain ⟨rfl, hcdb, hA1, hB1, hKA⟩ := hw9
  have hm1 := Mz_fr hm hKA ho ⟨_, hoo⟩ hga rfl (Or.inl rfl)
  have hj1 := KA_d hKA hoo hga hgd
  show WW K D z0 10 h1 (kc + 2) (ks + 12) 1196 [(5, iv n5), (0, .ref sb), (1, .ref ox), (2, .ref my), (3, .ref ra), (4, .ref rd)] [iv (ms σ p 2)]
  refine r_istore (L' := [(6, iv (ms σ p 2)), (5, iv n5), (0, .ref sb), (1, .ref ox), (2, .ref my), (3, .ref ra), (4, .ref rd)]) X dL_law_1196 (by decide) rfl ?_
  refine r_aload_n 4 X dL_law_1198 rfl ?_
  refine r_aload_n 2 X dL_law_1199 rfl ?_
  refine r_iload 1 X dL_law_1200 rfl ?_
  refine r_iconst X dL_law_1202 ?_
  refine r_iadd X dL_law_1203 ?_
  refine r_sld (v := p) X S dL_law_1204 ⟨by omega, by omega⟩ pd ?_
  refine r_callV X dL_law_1205 kL_193 hm1.1 (c_X7_bits (CX_l X) D z0 h1 hm1 ht p p_) [] rfl rfl (Nat.le_of_ble_eq_true rfl) (by decide) (show kc + 2 ≤ 601024 ∧ ks + 12 ≤ 7293034 by omega) (fun _ _ z => z.elim) (fun w8 h2 hw8 => ?_)
  obtain ⟨hM1, hM2, hKW⟩ := MO_MW hE hw8
  by_cases hcd : ms σ p 2 = 0
  · obtain ⟨rfl, e19, e29, e39, hi2, lo2, rf2, sq2, hm2, hE2⟩ := hM1 hcd
    obtain ⟨hC1, g1, hg1, hgE⟩ := hA1 hcd
    have ht2 := CS_TVs hC1
    show WW K D z0 10 h2 (kc + 2) (ks + 12) 1208 [(6, iv (ms σ p 2)), (5, iv n5), (0, .ref sb), (1, .ref ox), (2, .ref my), (3, .ref ra), (4, .ref rd)] [iv (on σ p (fun a b c => ((bl (Sx a b c).toNat : Nat) : Int)))]
    have hg2 := WM_a hm1 hKW hg1 rfl (Or.inl rfl)
    refine r_istore (L' := [(7, iv (on σ p (fun a b c => ((bl (Sx a b c).toNat : Nat) : Int)))), (6, iv (ms σ p 2)), (5, iv n5), (0, .ref sb), (1, .ref ox), (2, .ref my), (3, .ref ra), (4, .ref rd)]) X dL_law_1208 (by decide) rfl ?_
    refine r_aload_n 5 X dL_law_1210 rfl ?_
    refine r_callV_v X dL_law_1211 kL_141 hm2.1 (c_X7_thrown (CX_l X) D z0 h2 hm2 ht2) [] rfl rfl (Nat.le_of_ble_eq_true rfl) (by decide) rfl rfl (show kc + 2 ≤ 601024 ∧ ks + 12 ≤ 7293034 by omega) ?_
    show WW K D z0 10 h2 (kc + 2) (ks + 12) 1214 [(7, iv (on σ p (fun a b c => ((bl (Sx a b c).toNat : Nat) : Int)))), (6, iv (ms σ p 2)), (5, iv n5), (0, .ref sb), (1, .ref ox), (2, .ref my), (3, .ref ra), (4, .ref rd)] [iv (ms σ p 2)]
    refine r_iload 1 X dL_law_1214 rfl ?_
    refine r_icmp_eqS 1221 X dL_law_1216 (by decide) ?_
    refine r_iload 1 X dL_law_1221 rfl ?_
    refine r_if_ne 1238 X dL_law_1223 (by decide) ⟨by omega, by omega⟩ (fun c9 => absurd hcd c9) (fun c9 => ?_)
    refine r_aload_n 6 X dL_law_1226 rfl ?_
    refine r_iconst X dL_law_1227 ?_
    refine r_laload X dL_law_1228 hg2 ⟨by omega, by omega⟩ (by decide) ?_
    refine WW_e (congrArg (fun z => z :: []) (show jv (g1 (0 : Int).toNat) = jv (w32 (on σ p (fun a b c => ((bl (Sx a b c).toNat : Nat) : Int)))) from hgE)) ?_
    show WW K D z0 10 h2 (kc + 2) (ks + 12) 1229 [(7, iv (on σ p (fun a b c => ((bl (Sx a b c).toNat : Nat) : Int)))), (6, iv (ms σ p 2)), (5, iv n5), (0, .ref sb), (1, .ref ox), (2, .ref my), (3, .ref ra), (4, .ref rd)] [jv (w32 (on σ p (fun a b c => ((bl (Sx a b c).toNat : Nat) : Int))))]
    refine r_iload 0 X dL_law_1229 rfl ?_
    refine r_i2lS X dL_law_1231 ?_
    refine r_lcmp_eqS 1238 X dL_law_1232 dL_law_1233 (by decide) ?_
    refine r_goto 2541 X dL_law_1238 (by decide) ?_
    refine WW_sub (L' := [(5, iv n5), (0, .ref sb), (1, .ref ox), (2, .ref my), (3, .ref ra), (4, .ref rd)]) [2, 3, 4, 5, 6, 7] rfl ?_
    refine WW_room (show kc + 2 ≤ kc + 100 by omega) (show ks + 12 ≤ ks + 1000 by omega) ?_
    exact kk _ _ _ _ _ ⟨CS_WM hC1 hm1 ho hKW, ⟨_, e19, e29, e39, hi2, lo2, rf2, sq2, hm2, hE2⟩, ho, ⟨_, WM_a hm1 hKW hg1 rfl (Or.inl rfl)⟩, ⟨_, WM_a hm1 hKW hj1 rfl (Or.inr rfl)⟩⟩ hp
  · obtain ⟨rfl, e19, e29, e39, hi2, lo2, rf2, sq2, hm2, hE2⟩ := hM2 hcd
    obtain ⟨hC1, g1, hg1⟩ := hB1 hcd
    have ht2 := CS_TVs hC1
    show WW K D z0 10 h2 (kc + 2) (ks + 12) 1208 [(6, iv (ms σ p 2)), (5, iv n5), (0, .ref sb), (1, .ref ox), (2, .ref my), (3, .ref ra), (4, .ref rd)] [iv 0]
    have hg2 := WM_a hm1 hKW hg1 rfl (Or.inl rfl)
    refine r_istore (L' := [(7, iv 0), (6, iv (ms σ p 2)), (5, iv n5), (0, .ref sb), (1, .ref ox), (2, .ref my), (3, .ref ra), (4, .ref rd)]) X dL_law_1208 (by decide) rfl ?_
    refine r_aload_n 5 X dL_law_1210 rfl ?_
    refine r_callV_v X dL_law_1211 kL_141 hm2.1 (c_X7_thrown (CX_l X) D z0 h2 hm2 ht2) [] rfl rfl (Nat.le_of_ble_eq_true rfl) (by decide) rfl rfl (show kc + 2 ≤ 601024 ∧ ks + 12 ≤ 7293034 by omega) ?_
    show WW K D z0 10 h2 (kc + 2) (ks + 12) 1214 [(7, iv 0), (6, iv (ms σ p 2)), (5, iv n5), (0, .ref sb), (1, .ref ox), (2, .ref my), (3, .ref ra), (4, .ref rd)] [iv (ms σ p 2)]
    refine r_iload 1 X dL_law_1214 rfl ?_
    refine r_icmp_eqS 1221 X dL_law_1216 (by decide) ?_
    refine r_iload 1 X dL_law_1221 rfl ?_
    refine r_if_ne 1238 X dL_law_1223 (by decide) ⟨by omega, by omega⟩ (fun c9 => ?_) (fun c9 => absurd c9 hcd)
    refine r_goto 2541 X dL_law_1238 (by decide) ?_
    refine WW_sub (L' := [(5, iv n5), (0, .ref sb), (1, .ref ox), (2, .ref my), (3, .ref ra), (4, .ref rd)]) [2, 3, 4, 5, 6, 7] rfl ?_
    refine WW_room (show kc + 2 ≤ kc + 100 by omega) (show ks + 12 ≤ ks + 1000 by omega) ?_
    exact kk _ _ _ _ _ ⟨CS_WM hC1 hm1 ho hKW, ⟨_, e19, e29, e39, hi2, lo2, rf2, sq2, hm2, hE2⟩, ho, ⟨_, WM_a hm1 hKW hg1 rfl (Or.inl rfl)⟩, ⟨_, WM_a hm1 hKW hj1 rfl (Or.inr rfl)⟩⟩ hp
theorem case_hypot {K : KT} {D : va_G} {z0 : Nat} {h : Hp} {kc ks : Nat} (X : CX K D z0 cL_law 10 RL room_1) {sb N : Nat} {xs : Nat → Int32} (S : SX K z0 sb N xs) {ox my ra rd oo : Nat} {mv : Nat → Nat} {σ : Tg} {r : List Nat} {m : Nat} {od : Nat → Int} (J : JS D h ox my ra rd oo mv σ r m od) (hp : PI r m od) (n5 : Int) (hn5 : 0 ≤ n5 ∧ n5 + 5 ≤ (N : Int)) (hkc : kc + 100 ≤ 601024 ∧ ks + 1000 ≤ 7293034) (kk : ∀ (h' : Hp) (σ' : Tg) (r' : List Nat) (m' : Nat) (od' : Nat → Int), JS D h' ox my ra rd oo mv σ' r' m' od' → PI r' m' od' → WW K D z0 10 h' (kc + 100) (ks + 1000) 2541 [(5, iv n5), (0, .ref sb), (1, .ref ox), (2, .ref my), (3, .ref ra), (4, .ref rd)] []) : WW K D z0 10 h kc ks 1241 [(5, iv n5), (0, .ref sb), (1, .ref ox), (2, .ref my), (3, .ref ra), (4, .ref rd)] [] := by
  obtain ⟨hC, ⟨tc, e1, e2, e3, hi9, lo9, rf9, sq9, hm, hE⟩, ho, ⟨ga, hga⟩, gd, hgd⟩ := J
  have hoo := CS_o hC
  have ht := CS_TVs hC
  obtain ⟨p, pd⟩ : ∃ u, u = (xs (n5 + 1).toNat).toInt := ⟨_, rfl⟩
  have p_ : I32 p := by rw [pd]; exact i32_toI _
  obtain ⟨i, id⟩ : ∃ u, u = (xs (n5 + 2).toNat).toInt := ⟨_, rfl⟩
  have i_ : I32 i := by rw [id]; exact i32_toI _
  obtain ⟨k9, k9d⟩ : ∃ u, u = (xs (n5 + 3).toNat).toInt := ⟨_, rfl⟩
  have k9_ : I32 k9 := by rw [k9d]; exact i32_toI _
  show WW K D z0 10 h (kc + 0) (ks + 0) 1241 [(5, iv n5), (0, .ref sb), (1, .ref ox), (2, .ref my), (3, .ref ra), (4, .ref rd)] []
  refine r_aload_n 2 X dL_law_1241 rfl ?_
  refine r_aload_n 1 X dL_law_1242 rfl ?_
  refine r_iload 0 X dL_law_1243 rfl ?_
  refine r_iconst X dL_law_1245 ?_
  refine r_iadd X dL_law_1246 ?_
  refine r_sld (v := p) X S dL_law_1247 ⟨by omega, by omega⟩ pd ?_
  refine r_aload_n 1 X dL_law_1248 rfl ?_
  refine r_iload 0 X dL_law_1249 rfl ?_
  refine r_iconst X dL_law_1251 ?_
  refine r_iadd X dL_law_1252 ?_
  refine r_sld (v := i) X S dL_law_1253 ⟨by omega, by omega⟩ id ?_
  refine r_aload_n 1 X dL_law_1254 rfl ?_
  refine r_iload 0 X dL_law_1255 rfl ?_
  refine r_iconst X dL_law_1257 ?_
  refine r_iadd X dL_law_1258 ?_
  refine r_sld (v := k9) X S dL_law_1259 ⟨by omega, by omega⟩ k9d ?_
  refine r_aload 5 X dL_law_1260 rfl ?_
  refine r_callH X dL_law_1262 kL_194 (c_L_hypot (CX_l X) D z0 h hC hp p p_ i i_ k9 k9_ hgd) [] rfl rfl (Nat.le_of_ble_eq_true rfl) (by decide) (show kc + 5 ≤ 601024 ∧ ks + 30 ≤ 7293034 by omega) (fun w9 h1 hw9 => ?_)
  obtain ⟨rfl, hcdb, hA1, hB1, hKA⟩ := hw9
  have hm1 := Mz_fr hm hKA ho ⟨_, hoo⟩ hgd rfl (Or.inr rfl)
  have hj1 := KA_j hKA hoo hga hgd
  show WW K D z0 10 h1 (kc + 5) (ks + 30) 1265 [(5, iv n5), (0, .ref sb), (1, .ref ox), (2, .ref my), (3, .ref ra), (4, .ref rd)] [iv (cdHy σ p i k9)]
  refine r_istore (L' := [(6, iv (cdHy σ p i k9)), (5, iv n5), (0, .ref sb), (1, .ref ox), (2, .ref my), (3, .ref ra), (4, .ref rd)]) X dL_law_1265 (by decide) rfl ?_
  refine r_aload_n 4 X dL_law_1267 rfl ?_
  refine r_aload_n 2 X dL_law_1268 rfl ?_
  refine r_iload 1 X dL_law_1269 rfl ?_
  refine r_iconst X dL_law_1271 ?_
  refine r_iadd X dL_law_1272 ?_
  refine r_sld (v := p) X S dL_law_1273 ⟨by omega, by omega⟩ pd ?_
  refine r_aload_n 2 X dL_law_1274 rfl ?_
  refine r_iload 1 X dL_law_1275 rfl ?_
  refine r_iconst X dL_law_1277 ?_
  refine r_iadd X dL_law_1278 ?_
  refine r_sld (v := i) X S dL_law_1279 ⟨by omega, by omega⟩ id ?_
  refine r_aload_n 2 X dL_law_1280 rfl ?_
  refine r_iload 1 X dL_law_1281 rfl ?_
  refine r_iconst X dL_law_1283 ?_
  refine r_iadd X dL_law_1284 ?_
  refine r_sld (v := k9) X S dL_law_1285 ⟨by omega, by omega⟩ k9d ?_
  refine r_callV X dL_law_1286 kL_197 hm1.1 (c_X7_hypot (CX_l X) D z0 h1 hm1 ht p p_ i k9 i_ k9_) [] rfl rfl (Nat.le_of_ble_eq_true rfl) (by decide) (show kc + 5 ≤ 601024 ∧ ks + 30 ≤ 7293034 by omega) (fun _ _ z => z.elim) (fun w8 h2 hw8 => ?_)
  obtain ⟨hM1, hM2, hKW⟩ := MO_MW hE hw8
  by_cases hcd : cdHy σ p i k9 = 0
  · obtain ⟨rfl, e19, e29, e39, hi2, lo2, rf2, sq2, hm2, hE2⟩ := hM1 hcd
    obtain ⟨hC1, g1, hg1, hgE⟩ := hA1 hcd
    have ht2 := CS_TVs hC1
    show WW K D z0 10 h2 (kc + 5) (ks + 30) 1289 [(6, iv (cdHy σ p i k9)), (5, iv n5), (0, .ref sb), (1, .ref ox), (2, .ref my), (3, .ref ra), (4, .ref rd)] [.double (dR (hyN σ p i k9))]
    have hg2 := WM_a hm1 hKW hg1 rfl (Or.inr rfl)
    refine r_dstore (L' := [(7, .double (dR (hyN σ p i k9))), (6, iv (cdHy σ p i k9)), (5, iv n5), (0, .ref sb), (1, .ref ox), (2, .ref my), (3, .ref ra), (4, .ref rd)]) X dL_law_1289 (by decide) rfl ?_
    refine r_aload_n 5 X dL_law_1291 rfl ?_
    refine r_callV_v X dL_law_1292 kL_141 hm2.1 (c_X7_thrown (CX_l X) D z0 h2 hm2 ht2) [] rfl rfl (Nat.le_of_ble_eq_true rfl) (by decide) rfl rfl (show kc + 5 ≤ 601024 ∧ ks + 30 ≤ 7293034 by omega) ?_
    show WW K D z0 10 h2 (kc + 5) (ks + 30) 1295 [(7, .double (dR (hyN σ p i k9))), (6, iv (cdHy σ p i k9)), (5, iv n5), (0, .ref sb), (1, .ref ox), (2, .ref my), (3, .ref ra), (4, .ref rd)] [iv (cdHy σ p i k9)]
    refine r_iload 1 X dL_law_1295 rfl ?_
    refine r_icmp_eqS 1302 X dL_law_1297 (by decide) ?_
    refine r_iload 1 X dL_law_1302 rfl ?_
    refine r_if_ne 1339 X dL_law_1304 (by decide) ⟨by omega, by omega⟩ (fun c9 => absurd hcd c9) (fun c9 => ?_)
    refine r_aload 7 X dL_law_1307 rfl ?_
    refine r_iconst X dL_law_1309 ?_
    refine r_daload X dL_law_1310 hg2 ⟨by omega, by omega⟩ (by decide) ?_
    refine WW_e (congrArg (fun z => Value.double z :: []) (show g1 (0 : Int).toNat = (dR (hyN σ p i k9)) from hgE)) ?_
    show WW K D z0 10 h2 (kc + 5) (ks + 30) 1311 [(7, .double (dR (hyN σ p i k9))), (6, iv (cdHy σ p i k9)), (5, iv n5), (0, .ref sb), (1, .ref ox), (2, .ref my), (3, .ref ra), (4, .ref rd)] [.double (dR (hyN σ p i k9))]
    refine r_dload 0 X dL_law_1311 rfl ?_
    refine r_dcmpS X dL_law_1313 ?_
    refine r_if_eq 1339 X dL_law_1314 (by decide) (i32_toI _) (fun c9 => ?_) (fun c9 => ?_)
    · refine r_goto 2541 X dL_law_1339 (by decide) ?_
      refine WW_sub (L' := [(5, iv n5), (0, .ref sb), (1, .ref ox), (2, .ref my), (3, .ref ra), (4, .ref rd)]) [2, 3, 4, 5, 6, 7] rfl ?_
      refine WW_room (show kc + 5 ≤ kc + 100 by omega) (show ks + 30 ≤ ks + 1000 by omega) ?_
      exact kk _ _ _ _ _ ⟨CS_WM hC1 hm1 ho hKW, ⟨_, e19, e29, e39, hi2, lo2, rf2, sq2, hm2, hE2⟩, ho, ⟨_, WM_a hm1 hKW hj1 rfl (Or.inl rfl)⟩, ⟨_, WM_a hm1 hKW hg1 rfl (Or.inr rfl)⟩⟩ hp
    · refine r_aload 7 X dL_law_1317 rfl ?_
      refine r_iconst X dL_law_1319 ?_
      refine r_daload X dL_law_1320 hg2 ⟨by omega, by omega⟩ (by decide) ?_
      refine WW_e (congrArg (fun z => Value.double z :: []) (show g1 (0 : Int).toNat = (dR (hyN σ p i k9)) from hgE)) ?_
      show WW K D z0 10 h2 (kc + 5) (ks + 30) 1321 [(7, .double (dR (hyN σ p i k9))), (6, iv (cdHy σ p i k9)), (5, iv n5), (0, .ref sb), (1, .ref ox), (2, .ref my), (3, .ref ra), (4, .ref rd)] [.double (dR (hyN σ p i k9))]
      refine r_aload 7 X dL_law_1321 rfl ?_
      refine r_iconst X dL_law_1323 ?_
      refine r_daload X dL_law_1324 hg2 ⟨by omega, by omega⟩ (by decide) ?_
      refine WW_e (congrArg (fun z => Value.double z :: [.double (dR (hyN σ p i k9))]) (show g1 (0 : Int).toNat = (dR (hyN σ p i k9)) from hgE)) ?_
      show WW K D z0 10 h2 (kc + 5) (ks + 30) 1325 [(7, .double (dR (hyN σ p i k9))), (6, iv (cdHy σ p i k9)), (5, iv n5), (0, .ref sb), (1, .ref ox), (2, .ref my), (3, .ref ra), (4, .ref rd)] [.double (dR (hyN σ p i k9)), .double (dR (hyN σ p i k9))]
      refine r_dcmpS X dL_law_1325 ?_
      refine r_if_eq 1337 X dL_law_1326 (by decide) (i32_toI _) (fun c8 => absurd c8 c9) (fun c8 => ?_)
      refine r_dload 0 X dL_law_1329 rfl ?_
      refine r_dload 0 X dL_law_1331 rfl ?_
      refine r_dcmpS X dL_law_1333 ?_
      refine r_if_ne 1339 X dL_law_1334 (by decide) (i32_toI _) (fun c8 => ?_) (fun c8 => absurd c8 c9)
      refine r_goto 2541 X dL_law_1339 (by decide) ?_
      refine WW_sub (L' := [(5, iv n5), (0, .ref sb), (1, .ref ox), (2, .ref my), (3, .ref ra), (4, .ref rd)]) [2, 3, 4, 5, 6, 7] rfl ?_
      refine WW_room (show kc + 5 ≤ kc + 100 by omega) (show ks + 30 ≤ ks + 1000 by omega) ?_
      exact kk _ _ _ _ _ ⟨CS_WM hC1 hm1 ho hKW, ⟨_, e19, e29, e39, hi2, lo2, rf2, sq2, hm2, hE2⟩, ho, ⟨_, WM_a hm1 hKW hj1 rfl (Or.inl rfl)⟩, ⟨_, WM_a hm1 hKW hg1 rfl (Or.inr rfl)⟩⟩ hp
  · obtain ⟨rfl, e19, e29, e39, hi2, lo2, rf2, sq2, hm2, hE2⟩ := hM2 hcd
    obtain ⟨hC1, g1, hg1⟩ := hB1 hcd
    have ht2 := CS_TVs hC1
    show WW K D z0 10 h2 (kc + 5) (ks + 30) 1289 [(6, iv (cdHy σ p i k9)), (5, iv n5), (0, .ref sb), (1, .ref ox), (2, .ref my), (3, .ref ra), (4, .ref rd)] [.double FP.dconst0]
    have hg2 := WM_a hm1 hKW hg1 rfl (Or.inr rfl)
    refine r_dstore (L' := [(7, .double FP.dconst0), (6, iv (cdHy σ p i k9)), (5, iv n5), (0, .ref sb), (1, .ref ox), (2, .ref my), (3, .ref ra), (4, .ref rd)]) X dL_law_1289 (by decide) rfl ?_
    refine r_aload_n 5 X dL_law_1291 rfl ?_
    refine r_callV_v X dL_law_1292 kL_141 hm2.1 (c_X7_thrown (CX_l X) D z0 h2 hm2 ht2) [] rfl rfl (Nat.le_of_ble_eq_true rfl) (by decide) rfl rfl (show kc + 5 ≤ 601024 ∧ ks + 30 ≤ 7293034 by omega) ?_
    show WW K D z0 10 h2 (kc + 5) (ks + 30) 1295 [(7, .double FP.dconst0), (6, iv (cdHy σ p i k9)), (5, iv n5), (0, .ref sb), (1, .ref ox), (2, .ref my), (3, .ref ra), (4, .ref rd)] [iv (cdHy σ p i k9)]
    refine r_iload 1 X dL_law_1295 rfl ?_
    refine r_icmp_eqS 1302 X dL_law_1297 (by decide) ?_
    refine r_iload 1 X dL_law_1302 rfl ?_
    refine r_if_ne 1339 X dL_law_1304 (by decide) ⟨by omega, by omega⟩ (fun c9 => ?_) (fun c9 => absurd c9 hcd)
    refine r_goto 2541 X dL_law_1339 (by decide) ?_
    refine WW_sub (L' := [(5, iv n5), (0, .ref sb), (1, .ref ox), (2, .ref my), (3, .ref ra), (4, .ref rd)]) [2, 3, 4, 5, 6, 7] rfl ?_
    refine WW_room (show kc + 5 ≤ kc + 100 by omega) (show ks + 30 ≤ ks + 1000 by omega) ?_
    exact kk _ _ _ _ _ ⟨CS_WM hC1 hm1 ho hKW, ⟨_, e19, e29, e39, hi2, lo2, rf2, sq2, hm2, hE2⟩, ho, ⟨_, WM_a hm1 hKW hj1 rfl (Or.inl rfl)⟩, ⟨_, WM_a hm1 hKW hg1 rfl (Or.inr rfl)⟩⟩ hp
theorem case_root {K : KT} {D : va_G} {z0 : Nat} {h : Hp} {kc ks : Nat} (X : CX K D z0 cL_law 10 RL room_1) {sb N : Nat} {xs : Nat → Int32} (S : SX K z0 sb N xs) {ox my ra rd oo : Nat} {mv : Nat → Nat} {σ : Tg} {r : List Nat} {m : Nat} {od : Nat → Int} (J : JS D h ox my ra rd oo mv σ r m od) (hp : PI r m od) (n5 : Int) (hn5 : 0 ≤ n5 ∧ n5 + 5 ≤ (N : Int)) (hkc : kc + 100 ≤ 601024 ∧ ks + 1000 ≤ 7293034) (kk : ∀ (h' : Hp) (σ' : Tg) (r' : List Nat) (m' : Nat) (od' : Nat → Int), JS D h' ox my ra rd oo mv σ' r' m' od' → PI r' m' od' → WW K D z0 10 h' (kc + 100) (ks + 1000) 2541 [(5, iv n5), (0, .ref sb), (1, .ref ox), (2, .ref my), (3, .ref ra), (4, .ref rd)] []) : WW K D z0 10 h kc ks 1342 [(5, iv n5), (0, .ref sb), (1, .ref ox), (2, .ref my), (3, .ref ra), (4, .ref rd)] [] := by
  obtain ⟨hC, ⟨tc, e1, e2, e3, hi9, lo9, rf9, sq9, hm, hE⟩, ho, ⟨ga, hga⟩, gd, hgd⟩ := J
  have hoo := CS_o hC
  have ht := CS_TVs hC
  obtain ⟨u1, hu1⟩ : ∃ u, u = (xs (n5 + 1).toNat).toInt := ⟨_, rfl⟩
  have u1_ : I32 u1 := by rw [hu1]; exact i32_toI _
  obtain ⟨u2, hu2⟩ : ∃ u, u = (xs (n5 + 2).toNat).toInt := ⟨_, rfl⟩
  have u2_ : I32 u2 := by rw [hu2]; exact i32_toI _
  obtain ⟨p, pd⟩ : ∃ z, z = (u1 * 4294967296) + (u2 % 4294967296) := ⟨_, rfl⟩
  have p_ : I64 p := ⟨by omega, by omega⟩
  show WW K D z0 10 h (kc + 0) (ks + 0) 1342 [(5, iv n5), (0, .ref sb), (1, .ref ox), (2, .ref my), (3, .ref ra), (4, .ref rd)] []
  refine r_aload_n 2 X dL_law_1342 rfl ?_
  refine r_aload_n 1 X dL_law_1343 rfl ?_
  refine r_iload 0 X dL_law_1344 rfl ?_
  refine r_iconst X dL_law_1346 ?_
  refine r_iadd X dL_law_1347 ?_
  refine r_sld (v := u1) X S dL_law_1348 ⟨by omega, by omega⟩ hu1 ?_
  refine r_i2l X dL_law_1349 ⟨by omega, by omega⟩ ?_
  refine r_bipush X dL_law_1350 (by decide) ?_
  refine r_lshl X dL_law_1352 32 4294967296 (by decide) (by decide) (by decide) ?_
  refine r_aload_n 1 X dL_law_1353 rfl ?_
  refine r_iload 0 X dL_law_1354 rfl ?_
  refine r_iconst X dL_law_1356 ?_
  refine r_iadd X dL_law_1357 ?_
  refine r_sld (v := u2) X S dL_law_1358 ⟨by omega, by omega⟩ hu2 ?_
  refine r_i2l X dL_law_1359 ⟨by omega, by omega⟩ ?_
  refine r_ldc2 4294967295 X dL_law_1360 nL_198 (by decide) ?_
  refine r_land X dL_law_1363 32 4294967296 (by decide) (by decide) (by decide) ?_
  refine r_lor X dL_law_1364 u1 32 4294967296 (by decide) (by decide) rfl ⟨by omega, by omega⟩ ?_
  refine WW_e (congrArg (fun z => jv z :: [.ref ox]) (show (u1 * 4294967296) + (u2 % 4294967296) = p from pd.symm)) ?_
  show WW K D z0 10 h (kc + 0) (ks + 0) 1365 [(5, iv n5), (0, .ref sb), (1, .ref ox), (2, .ref my), (3, .ref ra), (4, .ref rd)] [jv p, .ref ox]
  refine r_aload 5 X dL_law_1365 rfl ?_
  refine r_callH X dL_law_1367 kL_200 (c_L_root (CX_l X) D z0 h hC hp p p_ hgd) [] rfl rfl (Nat.le_of_ble_eq_true rfl) (by decide) (show kc + 1 ≤ 601024 ∧ ks + 6 ≤ 7293034 by omega) (fun w9 h1 hw9 => ?_)
  obtain ⟨rfl, hcdb, hA1, hB1, hKA⟩ := hw9
  have hm1 := Mz_fr hm hKA ho ⟨_, hoo⟩ hgd rfl (Or.inr rfl)
  have hj1 := KA_j hKA hoo hga hgd
  show WW K D z0 10 h1 (kc + 1) (ks + 6) 1370 [(5, iv n5), (0, .ref sb), (1, .ref ox), (2, .ref my), (3, .ref ra), (4, .ref rd)] [iv (cdRo p)]
  refine r_istore (L' := [(6, iv (cdRo p)), (5, iv n5), (0, .ref sb), (1, .ref ox), (2, .ref my), (3, .ref ra), (4, .ref rd)]) X dL_law_1370 (by decide) rfl ?_
  refine r_aload_n 4 X dL_law_1372 rfl ?_
  refine r_aload_n 2 X dL_law_1373 rfl ?_
  refine r_iload 1 X dL_law_1374 rfl ?_
  refine r_iconst X dL_law_1376 ?_
  refine r_iadd X dL_law_1377 ?_
  refine r_sld (v := u1) X S dL_law_1378 ⟨by omega, by omega⟩ hu1 ?_
  refine r_i2l X dL_law_1379 ⟨by omega, by omega⟩ ?_
  refine r_bipush X dL_law_1380 (by decide) ?_
  refine r_lshl X dL_law_1382 32 4294967296 (by decide) (by decide) (by decide) ?_
  refine r_aload_n 2 X dL_law_1383 rfl ?_
  refine r_iload 1 X dL_law_1384 rfl ?_
  refine r_iconst X dL_law_1386 ?_
  refine r_iadd X dL_law_1387 ?_
  refine r_sld (v := u2) X S dL_law_1388 ⟨by omega, by omega⟩ hu2 ?_
  refine r_i2l X dL_law_1389 ⟨by omega, by omega⟩ ?_
  refine r_ldc2 4294967295 X dL_law_1390 nL_198 (by decide) ?_
  refine r_land X dL_law_1393 32 4294967296 (by decide) (by decide) (by decide) ?_
  refine r_lor X dL_law_1394 u1 32 4294967296 (by decide) (by decide) rfl ⟨by omega, by omega⟩ ?_
  refine WW_e (congrArg (fun z => jv z :: [.ref my]) (show (u1 * 4294967296) + (u2 % 4294967296) = p from pd.symm)) ?_
  show WW K D z0 10 h1 (kc + 1) (ks + 6) 1395 [(6, iv (cdRo p)), (5, iv n5), (0, .ref sb), (1, .ref ox), (2, .ref my), (3, .ref ra), (4, .ref rd)] [jv p, .ref my]
  refine r_callV X dL_law_1395 kL_203 hm1.1 (c_X7_root (CX_l X) D z0 h1 hm1 ht p p_) [] rfl rfl (Nat.le_of_ble_eq_true rfl) (by decide) (show kc + 1 ≤ 601024 ∧ ks + 6 ≤ 7293034 by omega) (fun _ _ z => z.elim) (fun w8 h2 hw8 => ?_)
  obtain ⟨hM1, hM2, hKW⟩ := MO_MW hE hw8
  by_cases hcd : cdRo p = 0
  · obtain ⟨rfl, e19, e29, e39, hi2, lo2, rf2, sq2, hm2, hE2⟩ := hM1 hcd
    obtain ⟨hC1, g1, hg1, hgE⟩ := hA1 hcd
    have ht2 := CS_TVs hC1
    show WW K D z0 10 h2 (kc + 1) (ks + 6) 1398 [(6, iv (cdRo p)), (5, iv n5), (0, .ref sb), (1, .ref ox), (2, .ref my), (3, .ref ra), (4, .ref rd)] [.double (dR p.toNat)]
    have hg2 := WM_a hm1 hKW hg1 rfl (Or.inr rfl)
    refine r_dstore (L' := [(7, .double (dR p.toNat)), (6, iv (cdRo p)), (5, iv n5), (0, .ref sb), (1, .ref ox), (2, .ref my), (3, .ref ra), (4, .ref rd)]) X dL_law_1398 (by decide) rfl ?_
    refine r_aload_n 5 X dL_law_1400 rfl ?_
    refine r_callV_v X dL_law_1401 kL_141 hm2.1 (c_X7_thrown (CX_l X) D z0 h2 hm2 ht2) [] rfl rfl (Nat.le_of_ble_eq_true rfl) (by decide) rfl rfl (show kc + 1 ≤ 601024 ∧ ks + 6 ≤ 7293034 by omega) ?_
    show WW K D z0 10 h2 (kc + 1) (ks + 6) 1404 [(7, .double (dR p.toNat)), (6, iv (cdRo p)), (5, iv n5), (0, .ref sb), (1, .ref ox), (2, .ref my), (3, .ref ra), (4, .ref rd)] [iv (cdRo p)]
    refine r_iload 1 X dL_law_1404 rfl ?_
    refine r_icmp_eqS 1411 X dL_law_1406 (by decide) ?_
    refine r_iload 1 X dL_law_1411 rfl ?_
    refine r_if_ne 1448 X dL_law_1413 (by decide) ⟨by omega, by omega⟩ (fun c9 => absurd hcd c9) (fun c9 => ?_)
    refine r_aload 7 X dL_law_1416 rfl ?_
    refine r_iconst X dL_law_1418 ?_
    refine r_daload X dL_law_1419 hg2 ⟨by omega, by omega⟩ (by decide) ?_
    refine WW_e (congrArg (fun z => Value.double z :: []) (show g1 (0 : Int).toNat = (dR p.toNat) from hgE)) ?_
    show WW K D z0 10 h2 (kc + 1) (ks + 6) 1420 [(7, .double (dR p.toNat)), (6, iv (cdRo p)), (5, iv n5), (0, .ref sb), (1, .ref ox), (2, .ref my), (3, .ref ra), (4, .ref rd)] [.double (dR p.toNat)]
    refine r_dload 0 X dL_law_1420 rfl ?_
    refine r_dcmpS X dL_law_1422 ?_
    refine r_if_eq 1448 X dL_law_1423 (by decide) (i32_toI _) (fun c9 => ?_) (fun c9 => ?_)
    · refine r_goto 2541 X dL_law_1448 (by decide) ?_
      refine WW_sub (L' := [(5, iv n5), (0, .ref sb), (1, .ref ox), (2, .ref my), (3, .ref ra), (4, .ref rd)]) [2, 3, 4, 5, 6, 7] rfl ?_
      refine WW_room (show kc + 1 ≤ kc + 100 by omega) (show ks + 6 ≤ ks + 1000 by omega) ?_
      exact kk _ _ _ _ _ ⟨CS_WM hC1 hm1 ho hKW, ⟨_, e19, e29, e39, hi2, lo2, rf2, sq2, hm2, hE2⟩, ho, ⟨_, WM_a hm1 hKW hj1 rfl (Or.inl rfl)⟩, ⟨_, WM_a hm1 hKW hg1 rfl (Or.inr rfl)⟩⟩ hp
    · refine r_aload 7 X dL_law_1426 rfl ?_
      refine r_iconst X dL_law_1428 ?_
      refine r_daload X dL_law_1429 hg2 ⟨by omega, by omega⟩ (by decide) ?_
      refine WW_e (congrArg (fun z => Value.double z :: []) (show g1 (0 : Int).toNat = (dR p.toNat) from hgE)) ?_
      show WW K D z0 10 h2 (kc + 1) (ks + 6) 1430 [(7, .double (dR p.toNat)), (6, iv (cdRo p)), (5, iv n5), (0, .ref sb), (1, .ref ox), (2, .ref my), (3, .ref ra), (4, .ref rd)] [.double (dR p.toNat)]
      refine r_aload 7 X dL_law_1430 rfl ?_
      refine r_iconst X dL_law_1432 ?_
      refine r_daload X dL_law_1433 hg2 ⟨by omega, by omega⟩ (by decide) ?_
      refine WW_e (congrArg (fun z => Value.double z :: [.double (dR p.toNat)]) (show g1 (0 : Int).toNat = (dR p.toNat) from hgE)) ?_
      show WW K D z0 10 h2 (kc + 1) (ks + 6) 1434 [(7, .double (dR p.toNat)), (6, iv (cdRo p)), (5, iv n5), (0, .ref sb), (1, .ref ox), (2, .ref my), (3, .ref ra), (4, .ref rd)] [.double (dR p.toNat), .double (dR p.toNat)]
      refine r_dcmpS X dL_law_1434 ?_
      refine r_if_eq 1446 X dL_law_1435 (by decide) (i32_toI _) (fun c8 => absurd c8 c9) (fun c8 => ?_)
      refine r_dload 0 X dL_law_1438 rfl ?_
      refine r_dload 0 X dL_law_1440 rfl ?_
      refine r_dcmpS X dL_law_1442 ?_
      refine r_if_ne 1448 X dL_law_1443 (by decide) (i32_toI _) (fun c8 => ?_) (fun c8 => absurd c8 c9)
      refine r_goto 2541 X dL_law_1448 (by decide) ?_
      refine WW_sub (L' := [(5, iv n5), (0, .ref sb), (1, .ref ox), (2, .ref my), (3, .ref ra), (4, .ref rd)]) [2, 3, 4, 5, 6, 7] rfl ?_
      refine WW_room (show kc + 1 ≤ kc + 100 by omega) (show ks + 6 ≤ ks + 1000 by omega) ?_
      exact kk _ _ _ _ _ ⟨CS_WM hC1 hm1 ho hKW, ⟨_, e19, e29, e39, hi2, lo2, rf2, sq2, hm2, hE2⟩, ho, ⟨_, WM_a hm1 hKW hj1 rfl (Or.inl rfl)⟩, ⟨_, WM_a hm1 hKW hg1 rfl (Or.inr rfl)⟩⟩ hp
  · obtain ⟨rfl, e19, e29, e39, hi2, lo2, rf2, sq2, hm2, hE2⟩ := hM2 hcd
    obtain ⟨hC1, g1, hg1⟩ := hB1 hcd
    have ht2 := CS_TVs hC1
    show WW K D z0 10 h2 (kc + 1) (ks + 6) 1398 [(6, iv (cdRo p)), (5, iv n5), (0, .ref sb), (1, .ref ox), (2, .ref my), (3, .ref ra), (4, .ref rd)] [.double FP.dconst0]
    have hg2 := WM_a hm1 hKW hg1 rfl (Or.inr rfl)
    refine r_dstore (L' := [(7, .double FP.dconst0), (6, iv (cdRo p)), (5, iv n5), (0, .ref sb), (1, .ref ox), (2, .ref my), (3, .ref ra), (4, .ref rd)]) X dL_law_1398 (by decide) rfl ?_
    refine r_aload_n 5 X dL_law_1400 rfl ?_
    refine r_callV_v X dL_law_1401 kL_141 hm2.1 (c_X7_thrown (CX_l X) D z0 h2 hm2 ht2) [] rfl rfl (Nat.le_of_ble_eq_true rfl) (by decide) rfl rfl (show kc + 1 ≤ 601024 ∧ ks + 6 ≤ 7293034 by omega) ?_
    show WW K D z0 10 h2 (kc + 1) (ks + 6) 1404 [(7, .double FP.dconst0), (6, iv (cdRo p)), (5, iv n5), (0, .ref sb), (1, .ref ox), (2, .ref my), (3, .ref ra), (4, .ref rd)] [iv (cdRo p)]
    refine r_iload 1 X dL_law_1404 rfl ?_
    refine r_icmp_eqS 1411 X dL_law_1406 (by decide) ?_
    refine r_iload 1 X dL_law_1411 rfl ?_
    refine r_if_ne 1448 X dL_law_1413 (by decide) ⟨by omega, by omega⟩ (fun c9 => ?_) (fun c9 => absurd c9 hcd)
    refine r_goto 2541 X dL_law_1448 (by decide) ?_
    refine WW_sub (L' := [(5, iv n5), (0, .ref sb), (1, .ref ox), (2, .ref my), (3, .ref ra), (4, .ref rd)]) [2, 3, 4, 5, 6, 7] rfl ?_
    refine WW_room (show kc + 1 ≤ kc + 100 by omega) (show ks + 6 ≤ ks + 1000 by omega) ?_
    exact kk _ _ _ _ _ ⟨CS_WM hC1 hm1 ho hKW, ⟨_, e19, e29, e39, hi2, lo2, rf2, sq2, hm2, hE2⟩, ho, ⟨_, WM_a hm1 hKW hj1 rfl (Or.inl rfl)⟩, ⟨_, WM_a hm1 hKW hg1 rfl (Or.inr rfl)⟩⟩ hp
theorem case_shape {K : KT} {D : va_G} {z0 : Nat} {h : Hp} {kc ks : Nat} (X : CX K D z0 cL_law 10 RL room_1) {sb N : Nat} {xs : Nat → Int32} (S : SX K z0 sb N xs) {ox my ra rd oo : Nat} {mv : Nat → Nat} {σ : Tg} {r : List Nat} {m : Nat} {od : Nat → Int} (J : JS D h ox my ra rd oo mv σ r m od) (hp : PI r m od) (n5 : Int) (hn5 : 0 ≤ n5 ∧ n5 + 5 ≤ (N : Int)) (hkc : kc + 100 ≤ 601024 ∧ ks + 1000 ≤ 7293034) (kk : ∀ (h' : Hp) (σ' : Tg) (r' : List Nat) (m' : Nat) (od' : Nat → Int), JS D h' ox my ra rd oo mv σ' r' m' od' → PI r' m' od' → WW K D z0 10 h' (kc + 100) (ks + 1000) 2541 [(5, iv n5), (0, .ref sb), (1, .ref ox), (2, .ref my), (3, .ref ra), (4, .ref rd)] []) : WW K D z0 10 h kc ks 1451 [(5, iv n5), (0, .ref sb), (1, .ref ox), (2, .ref my), (3, .ref ra), (4, .ref rd)] [] := by
  obtain ⟨hC, ⟨tc, e1, e2, e3, hi9, lo9, rf9, sq9, hm, hE⟩, ho, ⟨ga, hga⟩, gd, hgd⟩ := J
  have hoo := CS_o hC
  have ht := CS_TVs hC
  obtain ⟨p, pd⟩ : ∃ u, u = (xs (n5 + 1).toNat).toInt := ⟨_, rfl⟩
  have p_ : I32 p := by rw [pd]; exact i32_toI _
  show WW K D z0 10 h (kc + 0) (ks + 0) 1451 [(5, iv n5), (0, .ref sb), (1, .ref ox), (2, .ref my), (3, .ref ra), (4, .ref rd)] []
  refine r_aload_n 2 X dL_law_1451 rfl ?_
  refine r_aload_n 1 X dL_law_1452 rfl ?_
  refine r_iload 0 X dL_law_1453 rfl ?_
  refine r_iconst X dL_law_1455 ?_
  refine r_iadd X dL_law_1456 ?_
  refine r_sld (v := p) X S dL_law_1457 ⟨by omega, by omega⟩ pd ?_
  refine r_aload 5 X dL_law_1458 rfl ?_
  refine r_callH X dL_law_1460 kL_204 (c_L_shape (CX_l X) D z0 h hC hp p p_ hgd) [] rfl rfl (Nat.le_of_ble_eq_true rfl) (by decide) (show kc + 2 ≤ 601024 ∧ ks + 12 ≤ 7293034 by omega) (fun w9 h1 hw9 => ?_)
  obtain ⟨rfl, hcdb, hA1, hB1, hKA⟩ := hw9
  have hm1 := Mz_fr hm hKA ho ⟨_, hoo⟩ hgd rfl (Or.inr rfl)
  have hj1 := KA_j hKA hoo hga hgd
  show WW K D z0 10 h1 (kc + 2) (ks + 12) 1463 [(5, iv n5), (0, .ref sb), (1, .ref ox), (2, .ref my), (3, .ref ra), (4, .ref rd)] [iv (ms σ p 2)]
  refine r_istore (L' := [(6, iv (ms σ p 2)), (5, iv n5), (0, .ref sb), (1, .ref ox), (2, .ref my), (3, .ref ra), (4, .ref rd)]) X dL_law_1463 (by decide) rfl ?_
  refine r_aload_n 4 X dL_law_1465 rfl ?_
  refine r_aload_n 2 X dL_law_1466 rfl ?_
  refine r_iload 1 X dL_law_1467 rfl ?_
  refine r_iconst X dL_law_1469 ?_
  refine r_iadd X dL_law_1470 ?_
  refine r_sld (v := p) X S dL_law_1471 ⟨by omega, by omega⟩ pd ?_
  refine r_callV X dL_law_1472 kL_207 hm1.1 (c_X7_shape (CX_l X) D z0 h1 hm1 ht p p_) [] rfl rfl (Nat.le_of_ble_eq_true rfl) (by decide) (show kc + 2 ≤ 601024 ∧ ks + 12 ≤ 7293034 by omega) (fun _ _ z => z.elim) (fun w8 h2 hw8 => ?_)
  obtain ⟨hM1, hM2, hKW⟩ := MO_MW hE hw8
  by_cases hcd : ms σ p 2 = 0
  · obtain ⟨rfl, e19, e29, e39, hi2, lo2, rf2, sq2, hm2, hE2⟩ := hM1 hcd
    obtain ⟨hC1, g1, hg1, hgE⟩ := hA1 hcd
    have ht2 := CS_TVs hC1
    show WW K D z0 10 h2 (kc + 2) (ks + 12) 1475 [(6, iv (ms σ p 2)), (5, iv n5), (0, .ref sb), (1, .ref ox), (2, .ref my), (3, .ref ra), (4, .ref rd)] [.float (fSh σ p)]
    have hg2 := WM_a hm1 hKW hg1 rfl (Or.inr rfl)
    refine r_fstore (L' := [(7, .float (fSh σ p)), (6, iv (ms σ p 2)), (5, iv n5), (0, .ref sb), (1, .ref ox), (2, .ref my), (3, .ref ra), (4, .ref rd)]) X dL_law_1475 (by decide) rfl ?_
    refine r_aload_n 5 X dL_law_1477 rfl ?_
    refine r_callV_v X dL_law_1478 kL_141 hm2.1 (c_X7_thrown (CX_l X) D z0 h2 hm2 ht2) [] rfl rfl (Nat.le_of_ble_eq_true rfl) (by decide) rfl rfl (show kc + 2 ≤ 601024 ∧ ks + 12 ≤ 7293034 by omega) ?_
    show WW K D z0 10 h2 (kc + 2) (ks + 12) 1481 [(7, .float (fSh σ p)), (6, iv (ms σ p 2)), (5, iv n5), (0, .ref sb), (1, .ref ox), (2, .ref my), (3, .ref ra), (4, .ref rd)] [iv (ms σ p 2)]
    refine r_iload 1 X dL_law_1481 rfl ?_
    refine r_icmp_eqS 1488 X dL_law_1483 (by decide) ?_
    refine r_iload 1 X dL_law_1488 rfl ?_
    refine r_if_ne 1526 X dL_law_1490 (by decide) ⟨by omega, by omega⟩ (fun c9 => absurd hcd c9) (fun c9 => ?_)
    refine r_aload 7 X dL_law_1493 rfl ?_
    refine r_iconst X dL_law_1495 ?_
    refine r_daload X dL_law_1496 hg2 ⟨by omega, by omega⟩ (by decide) ?_
    refine WW_e (congrArg (fun z => Value.double z :: []) (show g1 (0 : Int).toNat = (FP.f2d (fSh σ p)) from hgE)) ?_
    show WW K D z0 10 h2 (kc + 2) (ks + 12) 1497 [(7, .float (fSh σ p)), (6, iv (ms σ p 2)), (5, iv n5), (0, .ref sb), (1, .ref ox), (2, .ref my), (3, .ref ra), (4, .ref rd)] [.double (FP.f2d (fSh σ p))]
    refine r_fload 0 X dL_law_1497 rfl ?_
    refine r_f2d (FP.f2d (fSh σ p)) X dL_law_1499 rfl (fSh_nn ht hcd) ?_
    refine r_dcmpS X dL_law_1500 ?_
    refine r_if_eq 1526 X dL_law_1501 (by decide) (i32_toI _) (fun c9 => ?_) (fun c9 => absurd (cm64_nn (fSh_nn ht hcd)) c9)
    refine r_goto 2541 X dL_law_1526 (by decide) ?_
    refine WW_sub (L' := [(5, iv n5), (0, .ref sb), (1, .ref ox), (2, .ref my), (3, .ref ra), (4, .ref rd)]) [2, 3, 4, 5, 6, 7] rfl ?_
    refine WW_room (show kc + 2 ≤ kc + 100 by omega) (show ks + 12 ≤ ks + 1000 by omega) ?_
    exact kk _ _ _ _ _ ⟨CS_WM hC1 hm1 ho hKW, ⟨_, e19, e29, e39, hi2, lo2, rf2, sq2, hm2, hE2⟩, ho, ⟨_, WM_a hm1 hKW hj1 rfl (Or.inl rfl)⟩, ⟨_, WM_a hm1 hKW hg1 rfl (Or.inr rfl)⟩⟩ hp
  · obtain ⟨rfl, e19, e29, e39, hi2, lo2, rf2, sq2, hm2, hE2⟩ := hM2 hcd
    obtain ⟨hC1, g1, hg1⟩ := hB1 hcd
    have ht2 := CS_TVs hC1
    show WW K D z0 10 h2 (kc + 2) (ks + 12) 1475 [(6, iv (ms σ p 2)), (5, iv n5), (0, .ref sb), (1, .ref ox), (2, .ref my), (3, .ref ra), (4, .ref rd)] [.float FP.fconst0]
    have hg2 := WM_a hm1 hKW hg1 rfl (Or.inr rfl)
    refine r_fstore (L' := [(7, .float FP.fconst0), (6, iv (ms σ p 2)), (5, iv n5), (0, .ref sb), (1, .ref ox), (2, .ref my), (3, .ref ra), (4, .ref rd)]) X dL_law_1475 (by decide) rfl ?_
    refine r_aload_n 5 X dL_law_1477 rfl ?_
    refine r_callV_v X dL_law_1478 kL_141 hm2.1 (c_X7_thrown (CX_l X) D z0 h2 hm2 ht2) [] rfl rfl (Nat.le_of_ble_eq_true rfl) (by decide) rfl rfl (show kc + 2 ≤ 601024 ∧ ks + 12 ≤ 7293034 by omega) ?_
    show WW K D z0 10 h2 (kc + 2) (ks + 12) 1481 [(7, .float FP.fconst0), (6, iv (ms σ p 2)), (5, iv n5), (0, .ref sb), (1, .ref ox), (2, .ref my), (3, .ref ra), (4, .ref rd)] [iv (ms σ p 2)]
    refine r_iload 1 X dL_law_1481 rfl ?_
    refine r_icmp_eqS 1488 X dL_law_1483 (by decide) ?_
    refine r_iload 1 X dL_law_1488 rfl ?_
    refine r_if_ne 1526 X dL_law_1490 (by decide) ⟨by omega, by omega⟩ (fun c9 => ?_) (fun c9 => absurd c9 hcd)
    refine r_goto 2541 X dL_law_1526 (by decide) ?_
    refine WW_sub (L' := [(5, iv n5), (0, .ref sb), (1, .ref ox), (2, .ref my), (3, .ref ra), (4, .ref rd)]) [2, 3, 4, 5, 6, 7] rfl ?_
    refine WW_room (show kc + 2 ≤ kc + 100 by omega) (show ks + 12 ≤ ks + 1000 by omega) ?_
    exact kk _ _ _ _ _ ⟨CS_WM hC1 hm1 ho hKW, ⟨_, e19, e29, e39, hi2, lo2, rf2, sq2, hm2, hE2⟩, ho, ⟨_, WM_a hm1 hKW hj1 rfl (Or.inl rfl)⟩, ⟨_, WM_a hm1 hKW hg1 rfl (Or.inr rfl)⟩⟩ hp
theorem case_mean {K : KT} {D : va_G} {z0 : Nat} {h : Hp} {kc ks : Nat} (X : CX K D z0 cL_law 10 RL room_1) {sb N : Nat} {xs : Nat → Int32} (S : SX K z0 sb N xs) {ox my ra rd oo : Nat} {mv : Nat → Nat} {σ : Tg} {r : List Nat} {m : Nat} {od : Nat → Int} (J : JS D h ox my ra rd oo mv σ r m od) (hp : PI r m od) (n5 : Int) (hn5 : 0 ≤ n5 ∧ n5 + 5 ≤ (N : Int)) (hkc : kc + 100 ≤ 601024 ∧ ks + 1000 ≤ 7293034) (kk : ∀ (h' : Hp) (σ' : Tg) (r' : List Nat) (m' : Nat) (od' : Nat → Int), JS D h' ox my ra rd oo mv σ' r' m' od' → PI r' m' od' → WW K D z0 10 h' (kc + 100) (ks + 1000) 2541 [(5, iv n5), (0, .ref sb), (1, .ref ox), (2, .ref my), (3, .ref ra), (4, .ref rd)] []) : WW K D z0 10 h kc ks 1529 [(5, iv n5), (0, .ref sb), (1, .ref ox), (2, .ref my), (3, .ref ra), (4, .ref rd)] [] := by
  obtain ⟨hC, ⟨tc, e1, e2, e3, hi9, lo9, rf9, sq9, hm, hE⟩, ho, ⟨ga, hga⟩, gd, hgd⟩ := J
  have hoo := CS_o hC
  have ht := CS_TVs hC
  obtain ⟨fs9, hx9⟩ := CS_x' hC
  show WW K D z0 10 h (kc + 0) (ks + 0) 1529 [(5, iv n5), (0, .ref sb), (1, .ref ox), (2, .ref my), (3, .ref ra), (4, .ref rd)] []
  refine r_aload_n 2 X dL_law_1529 rfl ?_
  refine r_callV_v X dL_law_1530 kL_208 hx9 (c6_mean (CX_l X) D z0 h hC) [] rfl rfl (Nat.le_of_ble_eq_true rfl) (by decide) rfl rfl (show kc + 0 ≤ 601024 ∧ ks + 0 ≤ 7293034 by omega) ?_
  show WW K D z0 10 h (kc + 0) (ks + 0) 1533 [(5, iv n5), (0, .ref sb), (1, .ref ox), (2, .ref my), (3, .ref ra), (4, .ref rd)] [.double (dMe σ)]
  refine r_dstore (L' := [(6, .double (dMe σ)), (5, iv n5), (0, .ref sb), (1, .ref ox), (2, .ref my), (3, .ref ra), (4, .ref rd)]) X dL_law_1533 (by decide) rfl ?_
  refine r_aload_n 4 X dL_law_1535 rfl ?_
  refine r_callV X dL_law_1536 kL_212 hm.1 (c_X7_mean (CX_l X) D z0 h hm ht) [] rfl rfl (Nat.le_of_ble_eq_true rfl) (by decide) (show kc + 0 ≤ 601024 ∧ ks + 0 ≤ 7293034 by omega) (fun _ _ z => z.elim) (fun w8 h2 hw8 => ?_)
  obtain ⟨rfl, hm2, hKW⟩ := hw8
  show WW K D z0 10 h2 (kc + 0) (ks + 0) 1539 [(6, .double (dMe σ)), (5, iv n5), (0, .ref sb), (1, .ref ox), (2, .ref my), (3, .ref ra), (4, .ref rd)] [.double (dMe σ)]
  refine r_dstore (L' := [(8, .double (dMe σ)), (6, .double (dMe σ)), (5, iv n5), (0, .ref sb), (1, .ref ox), (2, .ref my), (3, .ref ra), (4, .ref rd)]) X dL_law_1539 (by decide) rfl ?_
  refine r_dload 1 X dL_law_1541 rfl ?_
  refine r_dload 0 X dL_law_1543 rfl ?_
  refine r_dcmpS X dL_law_1545 ?_
  refine r_if_eq 1567 X dL_law_1546 (by decide) (i32_toI _) (fun c9 => ?_) (fun c9 => ?_)
  · refine r_goto 2541 X dL_law_1567 (by decide) ?_
    refine WW_sub (L' := [(5, iv n5), (0, .ref sb), (1, .ref ox), (2, .ref my), (3, .ref ra), (4, .ref rd)]) [2, 3, 4, 5, 6, 7] rfl ?_
    refine WW_room (show kc + 0 ≤ kc + 100 by omega) (show ks + 0 ≤ ks + 1000 by omega) ?_
    exact kk _ _ _ _ _ ⟨CS_WM hC hm ho hKW, ⟨_, e1, e2, e3, _, _, _, _, hm2, hE⟩, ho, ⟨_, WM_a hm hKW hga rfl (Or.inl rfl)⟩, ⟨_, WM_a hm hKW hgd rfl (Or.inr rfl)⟩⟩ hp
  · refine r_dload 1 X dL_law_1549 rfl ?_
    refine r_dload 1 X dL_law_1551 rfl ?_
    refine r_dcmpS X dL_law_1553 ?_
    refine r_if_eq 1565 X dL_law_1554 (by decide) (i32_toI _) (fun c8 => absurd c8 c9) (fun c8 => ?_)
    refine r_dload 0 X dL_law_1557 rfl ?_
    refine r_dload 0 X dL_law_1559 rfl ?_
    refine r_dcmpS X dL_law_1561 ?_
    refine r_if_ne 1567 X dL_law_1562 (by decide) (i32_toI _) (fun c8 => ?_) (fun c8 => absurd c8 c9)
    refine r_goto 2541 X dL_law_1567 (by decide) ?_
    refine WW_sub (L' := [(5, iv n5), (0, .ref sb), (1, .ref ox), (2, .ref my), (3, .ref ra), (4, .ref rd)]) [2, 3, 4, 5, 6, 7] rfl ?_
    refine WW_room (show kc + 0 ≤ kc + 100 by omega) (show ks + 0 ≤ ks + 1000 by omega) ?_
    exact kk _ _ _ _ _ ⟨CS_WM hC hm ho hKW, ⟨_, e1, e2, e3, _, _, _, _, hm2, hE⟩, ho, ⟨_, WM_a hm hKW hga rfl (Or.inl rfl)⟩, ⟨_, WM_a hm hKW hgd rfl (Or.inr rfl)⟩⟩ hp
theorem case_euclid {K : KT} {D : va_G} {z0 : Nat} {h : Hp} {kc ks : Nat} (X : CX K D z0 cL_law 10 RL room_1) {sb N : Nat} {xs : Nat → Int32} (S : SX K z0 sb N xs) {ox my ra rd oo : Nat} {mv : Nat → Nat} {σ : Tg} {r : List Nat} {m : Nat} {od : Nat → Int} (J : JS D h ox my ra rd oo mv σ r m od) (hp : PI r m od) (n5 : Int) (hn5 : 0 ≤ n5 ∧ n5 + 5 ≤ (N : Int)) (hkc : kc + 100 ≤ 601024 ∧ ks + 1000 ≤ 7293034) (kk : ∀ (h' : Hp) (σ' : Tg) (r' : List Nat) (m' : Nat) (od' : Nat → Int), JS D h' ox my ra rd oo mv σ' r' m' od' → PI r' m' od' → WW K D z0 10 h' (kc + 100) (ks + 1000) 2541 [(5, iv n5), (0, .ref sb), (1, .ref ox), (2, .ref my), (3, .ref ra), (4, .ref rd)] []) : WW K D z0 10 h kc ks 1570 [(5, iv n5), (0, .ref sb), (1, .ref ox), (2, .ref my), (3, .ref ra), (4, .ref rd)] [] := by
  obtain ⟨hC, ⟨tc, e1, e2, e3, hi9, lo9, rf9, sq9, hm, hE⟩, ho, ⟨ga, hga⟩, gd, hgd⟩ := J
  have hoo := CS_o hC
  have ht := CS_TVs hC
  obtain ⟨p, pd⟩ : ∃ u, u = (xs (n5 + 1).toNat).toInt := ⟨_, rfl⟩
  have p_ : I32 p := by rw [pd]; exact i32_toI _
  obtain ⟨m9, m9d⟩ : ∃ u, u = (xs (n5 + 2).toNat).toInt := ⟨_, rfl⟩
  have m9_ : I32 m9 := by rw [m9d]; exact i32_toI _
  obtain ⟨k9, k9d⟩ : ∃ u, u = (xs (n5 + 3).toNat).toInt := ⟨_, rfl⟩
  have k9_ : I32 k9 := by rw [k9d]; exact i32_toI _
  show WW K D z0 10 h (kc + 0) (ks + 0) 1570 [(5, iv n5), (0, .ref sb), (1, .ref ox), (2, .ref my), (3, .ref ra), (4, .ref rd)] []
  refine r_aload_n 2 X dL_law_1570 rfl ?_
  refine r_aload_n 1 X dL_law_1571 rfl ?_
  refine r_iload 0 X dL_law_1572 rfl ?_
  refine r_iconst X dL_law_1574 ?_
  refine r_iadd X dL_law_1575 ?_
  refine r_sld (v := p) X S dL_law_1576 ⟨by omega, by omega⟩ pd ?_
  refine r_aload_n 1 X dL_law_1577 rfl ?_
  refine r_iload 0 X dL_law_1578 rfl ?_
  refine r_iconst X dL_law_1580 ?_
  refine r_iadd X dL_law_1581 ?_
  refine r_sld (v := m9) X S dL_law_1582 ⟨by omega, by omega⟩ m9d ?_
  refine r_aload_n 1 X dL_law_1583 rfl ?_
  refine r_iload 0 X dL_law_1584 rfl ?_
  refine r_iconst X dL_law_1586 ?_
  refine r_iadd X dL_law_1587 ?_
  refine r_sld (v := k9) X S dL_law_1588 ⟨by omega, by omega⟩ k9d ?_
  refine r_aload_n 4 X dL_law_1589 rfl ?_
  refine r_callH X dL_law_1590 kL_213 (c_L_euclid (CX_l X) D z0 h hC hp p p_ m9 m9_ k9 k9_ hga) [] rfl rfl (Nat.le_of_ble_eq_true rfl) (by decide) (show kc + 4 ≤ 601024 ∧ ks + 23 ≤ 7293034 by omega) (fun w9 h1 hw9 => ?_)
  obtain ⟨rfl, hcdb, hA1, hB1, hKA⟩ := hw9
  have hm1 := Mz_fr hm hKA ho ⟨_, hoo⟩ hga rfl (Or.inl rfl)
  have hj1 := KA_d hKA hoo hga hgd
  show WW K D z0 10 h1 (kc + 4) (ks + 23) 1593 [(5, iv n5), (0, .ref sb), (1, .ref ox), (2, .ref my), (3, .ref ra), (4, .ref rd)] [iv (cdEu p m9 k9)]
  refine r_istore (L' := [(6, iv (cdEu p m9 k9)), (5, iv n5), (0, .ref sb), (1, .ref ox), (2, .ref my), (3, .ref ra), (4, .ref rd)]) X dL_law_1593 (by decide) rfl ?_
  refine r_aload_n 4 X dL_law_1595 rfl ?_
  refine r_aload_n 2 X dL_law_1596 rfl ?_
  refine r_iload 1 X dL_law_1597 rfl ?_
  refine r_iconst X dL_law_1599 ?_
  refine r_iadd X dL_law_1600 ?_
  refine r_sld (v := p) X S dL_law_1601 ⟨by omega, by omega⟩ pd ?_
  refine r_aload_n 2 X dL_law_1602 rfl ?_
  refine r_iload 1 X dL_law_1603 rfl ?_
  refine r_iconst X dL_law_1605 ?_
  refine r_iadd X dL_law_1606 ?_
  refine r_sld (v := m9) X S dL_law_1607 ⟨by omega, by omega⟩ m9d ?_
  refine r_aload_n 2 X dL_law_1608 rfl ?_
  refine r_iload 1 X dL_law_1609 rfl ?_
  refine r_iconst X dL_law_1611 ?_
  refine r_iadd X dL_law_1612 ?_
  refine r_sld (v := k9) X S dL_law_1613 ⟨by omega, by omega⟩ k9d ?_
  refine r_callV X dL_law_1614 kL_215 hm1.1 (c_X7_euclid (CX_l X) D z0 h1 hm1 ht p p_ m9 k9 m9_ k9_) [] rfl rfl (Nat.le_of_ble_eq_true rfl) (by decide) (show kc + 4 ≤ 601024 ∧ ks + 23 ≤ 7293034 by omega) (fun _ _ z => z.elim) (fun w8 h2 hw8 => ?_)
  obtain ⟨hM1, hM2, hKW⟩ := MO_MW hE hw8
  by_cases hcd : cdEu p m9 k9 = 0
  · obtain ⟨rfl, e19, e29, e39, hi2, lo2, rf2, sq2, hm2, hE2⟩ := hM1 hcd
    obtain ⟨hC1, g1, hg1, hgE⟩ := hA1 hcd
    have ht2 := CS_TVs hC1
    show WW K D z0 10 h2 (kc + 4) (ks + 23) 1617 [(6, iv (cdEu p m9 k9)), (5, iv n5), (0, .ref sb), (1, .ref ox), (2, .ref my), (3, .ref ra), (4, .ref rd)] [iv (m9 * m9 + k9 * k9)]
    have hg2 := WM_a hm1 hKW hg1 rfl (Or.inl rfl)
    refine r_istore (L' := [(7, iv (m9 * m9 + k9 * k9)), (6, iv (cdEu p m9 k9)), (5, iv n5), (0, .ref sb), (1, .ref ox), (2, .ref my), (3, .ref ra), (4, .ref rd)]) X dL_law_1617 (by decide) rfl ?_
    refine r_aload_n 5 X dL_law_1619 rfl ?_
    refine r_callV_v X dL_law_1620 kL_141 hm2.1 (c_X7_thrown (CX_l X) D z0 h2 hm2 ht2) [] rfl rfl (Nat.le_of_ble_eq_true rfl) (by decide) rfl rfl (show kc + 4 ≤ 601024 ∧ ks + 23 ≤ 7293034 by omega) ?_
    show WW K D z0 10 h2 (kc + 4) (ks + 23) 1623 [(7, iv (m9 * m9 + k9 * k9)), (6, iv (cdEu p m9 k9)), (5, iv n5), (0, .ref sb), (1, .ref ox), (2, .ref my), (3, .ref ra), (4, .ref rd)] [iv (cdEu p m9 k9)]
    refine r_iload 1 X dL_law_1623 rfl ?_
    refine r_icmp_eqS 1630 X dL_law_1625 (by decide) ?_
    refine r_iload 1 X dL_law_1630 rfl ?_
    refine r_if_ne 1647 X dL_law_1632 (by decide) ⟨by omega, by omega⟩ (fun c9 => absurd hcd c9) (fun c9 => ?_)
    refine r_aload_n 6 X dL_law_1635 rfl ?_
    refine r_iconst X dL_law_1636 ?_
    refine r_laload X dL_law_1637 hg2 ⟨by omega, by omega⟩ (by decide) ?_
    refine WW_e (congrArg (fun z => z :: []) (show jv (g1 (0 : Int).toNat) = jv (w32 (m9 * m9 + k9 * k9)) from hgE)) ?_
    show WW K D z0 10 h2 (kc + 4) (ks + 23) 1638 [(7, iv (m9 * m9 + k9 * k9)), (6, iv (cdEu p m9 k9)), (5, iv n5), (0, .ref sb), (1, .ref ox), (2, .ref my), (3, .ref ra), (4, .ref rd)] [jv (w32 (m9 * m9 + k9 * k9))]
    refine r_iload 0 X dL_law_1638 rfl ?_
    refine r_i2lS X dL_law_1640 ?_
    refine r_lcmp_eqS 1647 X dL_law_1641 dL_law_1642 (by decide) ?_
    refine r_goto 2541 X dL_law_1647 (by decide) ?_
    refine WW_sub (L' := [(5, iv n5), (0, .ref sb), (1, .ref ox), (2, .ref my), (3, .ref ra), (4, .ref rd)]) [2, 3, 4, 5, 6, 7] rfl ?_
    refine WW_room (show kc + 4 ≤ kc + 100 by omega) (show ks + 23 ≤ ks + 1000 by omega) ?_
    exact kk _ _ _ _ _ ⟨CS_WM hC1 hm1 ho hKW, ⟨_, e19, e29, e39, hi2, lo2, rf2, sq2, hm2, hE2⟩, ho, ⟨_, WM_a hm1 hKW hg1 rfl (Or.inl rfl)⟩, ⟨_, WM_a hm1 hKW hj1 rfl (Or.inr rfl)⟩⟩ hp
  · obtain ⟨rfl, e19, e29, e39, hi2, lo2, rf2, sq2, hm2, hE2⟩ := hM2 hcd
    obtain ⟨hC1, g1, hg1⟩ := hB1 hcd
    have ht2 := CS_TVs hC1
    show WW K D z0 10 h2 (kc + 4) (ks + 23) 1617 [(6, iv (cdEu p m9 k9)), (5, iv n5), (0, .ref sb), (1, .ref ox), (2, .ref my), (3, .ref ra), (4, .ref rd)] [iv 0]
    have hg2 := WM_a hm1 hKW hg1 rfl (Or.inl rfl)
    refine r_istore (L' := [(7, iv 0), (6, iv (cdEu p m9 k9)), (5, iv n5), (0, .ref sb), (1, .ref ox), (2, .ref my), (3, .ref ra), (4, .ref rd)]) X dL_law_1617 (by decide) rfl ?_
    refine r_aload_n 5 X dL_law_1619 rfl ?_
    refine r_callV_v X dL_law_1620 kL_141 hm2.1 (c_X7_thrown (CX_l X) D z0 h2 hm2 ht2) [] rfl rfl (Nat.le_of_ble_eq_true rfl) (by decide) rfl rfl (show kc + 4 ≤ 601024 ∧ ks + 23 ≤ 7293034 by omega) ?_
    show WW K D z0 10 h2 (kc + 4) (ks + 23) 1623 [(7, iv 0), (6, iv (cdEu p m9 k9)), (5, iv n5), (0, .ref sb), (1, .ref ox), (2, .ref my), (3, .ref ra), (4, .ref rd)] [iv (cdEu p m9 k9)]
    refine r_iload 1 X dL_law_1623 rfl ?_
    refine r_icmp_eqS 1630 X dL_law_1625 (by decide) ?_
    refine r_iload 1 X dL_law_1630 rfl ?_
    refine r_if_ne 1647 X dL_law_1632 (by decide) ⟨by omega, by omega⟩ (fun c9 => ?_) (fun c9 => absurd c9 hcd)
    refine r_goto 2541 X dL_law_1647 (by decide) ?_
    refine WW_sub (L' := [(5, iv n5), (0, .ref sb), (1, .ref ox), (2, .ref my), (3, .ref ra), (4, .ref rd)]) [2, 3, 4, 5, 6, 7] rfl ?_
    refine WW_room (show kc + 4 ≤ kc + 100 by omega) (show ks + 23 ≤ ks + 1000 by omega) ?_
    exact kk _ _ _ _ _ ⟨CS_WM hC1 hm1 ho hKW, ⟨_, e19, e29, e39, hi2, lo2, rf2, sq2, hm2, hE2⟩, ho, ⟨_, WM_a hm1 hKW hg1 rfl (Or.inl rfl)⟩, ⟨_, WM_a hm1 hKW hj1 rfl (Or.inr rfl)⟩⟩ hp
theorem case_step {K : KT} {D : va_G} {z0 : Nat} {h : Hp} {kc ks : Nat} (X : CX K D z0 cL_law 10 RL room_1) {sb N : Nat} {xs : Nat → Int32} (S : SX K z0 sb N xs) {ox my ra rd oo : Nat} {mv : Nat → Nat} {σ : Tg} {r : List Nat} {m : Nat} {od : Nat → Int} (J : JS D h ox my ra rd oo mv σ r m od) (hp : PI r m od) (n5 : Int) (hn5 : 0 ≤ n5 ∧ n5 + 5 ≤ (N : Int)) (hkc : kc + 100 ≤ 601024 ∧ ks + 1000 ≤ 7293034) (kk : ∀ (h' : Hp) (σ' : Tg) (r' : List Nat) (m' : Nat) (od' : Nat → Int), JS D h' ox my ra rd oo mv σ' r' m' od' → PI r' m' od' → WW K D z0 10 h' (kc + 100) (ks + 1000) 2541 [(5, iv n5), (0, .ref sb), (1, .ref ox), (2, .ref my), (3, .ref ra), (4, .ref rd)] []) : WW K D z0 10 h kc ks 1650 [(5, iv n5), (0, .ref sb), (1, .ref ox), (2, .ref my), (3, .ref ra), (4, .ref rd)] [] := by
  obtain ⟨hC, ⟨tc, e1, e2, e3, hi9, lo9, rf9, sq9, hm, hE⟩, ho, ⟨ga, hga⟩, gd, hgd⟩ := J
  have hoo := CS_o hC
  have ht := CS_TVs hC
  obtain ⟨p, pd⟩ : ∃ u, u = (xs (n5 + 1).toNat).toInt := ⟨_, rfl⟩
  have p_ : I32 p := by rw [pd]; exact i32_toI _
  obtain ⟨u2, hu2⟩ : ∃ u, u = (xs (n5 + 2).toNat).toInt := ⟨_, rfl⟩
  have u2_ : I32 u2 := by rw [hu2]; exact i32_toI _
  obtain ⟨w, wd⟩ : ∃ z, z = u2 % 65536 := ⟨_, rfl⟩
  have w_ : 0 ≤ w ∧ w ≤ 65535 := by omega
  show WW K D z0 10 h (kc + 0) (ks + 0) 1650 [(5, iv n5), (0, .ref sb), (1, .ref ox), (2, .ref my), (3, .ref ra), (4, .ref rd)] []
  refine r_aload_n 2 X dL_law_1650 rfl ?_
  refine r_aload_n 1 X dL_law_1651 rfl ?_
  refine r_iload 0 X dL_law_1652 rfl ?_
  refine r_iconst X dL_law_1654 ?_
  refine r_iadd X dL_law_1655 ?_
  refine r_sld (v := p) X S dL_law_1656 ⟨by omega, by omega⟩ pd ?_
  refine r_aload_n 1 X dL_law_1657 rfl ?_
  refine r_iload 0 X dL_law_1658 rfl ?_
  refine r_iconst X dL_law_1660 ?_
  refine r_iadd X dL_law_1661 ?_
  refine r_sld (v := u2) X S dL_law_1662 ⟨by omega, by omega⟩ hu2 ?_
  refine r_i2c X dL_law_1663 ?_
  refine WW_e (congrArg (fun z => iv z :: [iv p, .ref ox]) (show u2 % 65536 = w from wd.symm)) ?_
  show WW K D z0 10 h (kc + 0) (ks + 0) 1664 [(5, iv n5), (0, .ref sb), (1, .ref ox), (2, .ref my), (3, .ref ra), (4, .ref rd)] [iv w, iv p, .ref ox]
  refine r_aload_n 4 X dL_law_1664 rfl ?_
  refine r_callH X dL_law_1665 kL_216 (c_L_step (CX_l X) D z0 h hC hp p p_ w w_ hga) [] rfl rfl (Nat.le_of_ble_eq_true rfl) (by decide) (show kc + 10 ≤ 601024 ∧ ks + 58 ≤ 7293034 by omega) (fun w9 h1 hw9 => ?_)
  obtain ⟨rfl, hcdb, hA1, hB1, hKA⟩ := hw9
  have hm1 := Mz_fr hm hKA ho ⟨_, hoo⟩ hga rfl (Or.inl rfl)
  have hj1 := KA_d hKA hoo hga hgd
  show WW K D z0 10 h1 (kc + 10) (ks + 58) 1668 [(5, iv n5), (0, .ref sb), (1, .ref ox), (2, .ref my), (3, .ref ra), (4, .ref rd)] [iv (cdSt σ p w)]
  refine r_istore (L' := [(6, iv (cdSt σ p w)), (5, iv n5), (0, .ref sb), (1, .ref ox), (2, .ref my), (3, .ref ra), (4, .ref rd)]) X dL_law_1668 (by decide) rfl ?_
  refine r_aload_n 4 X dL_law_1670 rfl ?_
  refine r_aload_n 2 X dL_law_1671 rfl ?_
  refine r_iload 1 X dL_law_1672 rfl ?_
  refine r_iconst X dL_law_1674 ?_
  refine r_iadd X dL_law_1675 ?_
  refine r_sld (v := p) X S dL_law_1676 ⟨by omega, by omega⟩ pd ?_
  refine r_aload_n 2 X dL_law_1677 rfl ?_
  refine r_iload 1 X dL_law_1678 rfl ?_
  refine r_iconst X dL_law_1680 ?_
  refine r_iadd X dL_law_1681 ?_
  refine r_sld (v := u2) X S dL_law_1682 ⟨by omega, by omega⟩ hu2 ?_
  refine r_i2c X dL_law_1683 ?_
  refine WW_e (congrArg (fun z => iv z :: [iv p, .ref my]) (show u2 % 65536 = w from wd.symm)) ?_
  show WW K D z0 10 h1 (kc + 10) (ks + 58) 1684 [(6, iv (cdSt σ p w)), (5, iv n5), (0, .ref sb), (1, .ref ox), (2, .ref my), (3, .ref ra), (4, .ref rd)] [iv w, iv p, .ref my]
  refine r_callV X dL_law_1684 kL_218 hm1.1 (c_X7_step (CX_l X) D z0 h1 hm1 ht p p_ w w_) [] rfl rfl (Nat.le_of_ble_eq_true rfl) (by decide) (show kc + 10 ≤ 601024 ∧ ks + 58 ≤ 7293034 by omega) (fun _ _ z => z.elim) (fun w8 h2 hw8 => ?_)
  obtain ⟨hM1, hM2, hKW⟩ := MO_MW hE hw8
  by_cases hcd : cdSt σ p w = 0
  · obtain ⟨rfl, e19, e29, e39, hi2, lo2, rf2, sq2, hm2, hE2⟩ := hM1 hcd
    obtain ⟨hC1, g1, hg1, hgE⟩ := hA1 hcd
    have ht2 := CS_TVs hC1
    show WW K D z0 10 h2 (kc + 10) (ks + 58) 1687 [(6, iv (cdSt σ p w)), (5, iv n5), (0, .ref sb), (1, .ref ox), (2, .ref my), (3, .ref ra), (4, .ref rd)] [iv (on σ p (fun a b c => mx3 (stX w (odd2 a b) (eve2 a b) c) (stY w (odd2 a b) (eve2 a b) c) (stZ w (odd2 a b) (eve2 a b) c)))]
    have hg2 := WM_a hm1 hKW hg1 rfl (Or.inl rfl)
    refine r_istore (L' := [(7, iv (on σ p (fun a b c => mx3 (stX w (odd2 a b) (eve2 a b) c) (stY w (odd2 a b) (eve2 a b) c) (stZ w (odd2 a b) (eve2 a b) c)))), (6, iv (cdSt σ p w)), (5, iv n5), (0, .ref sb), (1, .ref ox), (2, .ref my), (3, .ref ra), (4, .ref rd)]) X dL_law_1687 (by decide) rfl ?_
    refine r_aload_n 5 X dL_law_1689 rfl ?_
    refine r_callV_v X dL_law_1690 kL_141 hm2.1 (c_X7_thrown (CX_l X) D z0 h2 hm2 ht2) [] rfl rfl (Nat.le_of_ble_eq_true rfl) (by decide) rfl rfl (show kc + 10 ≤ 601024 ∧ ks + 58 ≤ 7293034 by omega) ?_
    show WW K D z0 10 h2 (kc + 10) (ks + 58) 1693 [(7, iv (on σ p (fun a b c => mx3 (stX w (odd2 a b) (eve2 a b) c) (stY w (odd2 a b) (eve2 a b) c) (stZ w (odd2 a b) (eve2 a b) c)))), (6, iv (cdSt σ p w)), (5, iv n5), (0, .ref sb), (1, .ref ox), (2, .ref my), (3, .ref ra), (4, .ref rd)] [iv (cdSt σ p w)]
    refine r_iload 1 X dL_law_1693 rfl ?_
    refine r_icmp_eqS 1700 X dL_law_1695 (by decide) ?_
    refine r_iload 1 X dL_law_1700 rfl ?_
    refine r_if_ne 1717 X dL_law_1702 (by decide) ⟨by omega, by omega⟩ (fun c9 => absurd hcd c9) (fun c9 => ?_)
    refine r_aload_n 6 X dL_law_1705 rfl ?_
    refine r_iconst X dL_law_1706 ?_
    refine r_laload X dL_law_1707 hg2 ⟨by omega, by omega⟩ (by decide) ?_
    refine WW_e (congrArg (fun z => z :: []) (show jv (g1 (0 : Int).toNat) = jv (w32 (on σ p (fun a b c => mx3 (stX w (odd2 a b) (eve2 a b) c) (stY w (odd2 a b) (eve2 a b) c) (stZ w (odd2 a b) (eve2 a b) c)))) from hgE)) ?_
    show WW K D z0 10 h2 (kc + 10) (ks + 58) 1708 [(7, iv (on σ p (fun a b c => mx3 (stX w (odd2 a b) (eve2 a b) c) (stY w (odd2 a b) (eve2 a b) c) (stZ w (odd2 a b) (eve2 a b) c)))), (6, iv (cdSt σ p w)), (5, iv n5), (0, .ref sb), (1, .ref ox), (2, .ref my), (3, .ref ra), (4, .ref rd)] [jv (w32 (on σ p (fun a b c => mx3 (stX w (odd2 a b) (eve2 a b) c) (stY w (odd2 a b) (eve2 a b) c) (stZ w (odd2 a b) (eve2 a b) c))))]
    refine r_iload 0 X dL_law_1708 rfl ?_
    refine r_i2lS X dL_law_1710 ?_
    refine r_lcmp_eqS 1717 X dL_law_1711 dL_law_1712 (by decide) ?_
    refine r_goto 2541 X dL_law_1717 (by decide) ?_
    refine WW_sub (L' := [(5, iv n5), (0, .ref sb), (1, .ref ox), (2, .ref my), (3, .ref ra), (4, .ref rd)]) [2, 3, 4, 5, 6, 7] rfl ?_
    refine WW_room (show kc + 10 ≤ kc + 100 by omega) (show ks + 58 ≤ ks + 1000 by omega) ?_
    exact kk _ _ _ _ _ ⟨CS_WM hC1 hm1 ho hKW, ⟨_, e19, e29, e39, hi2, lo2, rf2, sq2, hm2, hE2⟩, ho, ⟨_, WM_a hm1 hKW hg1 rfl (Or.inl rfl)⟩, ⟨_, WM_a hm1 hKW hj1 rfl (Or.inr rfl)⟩⟩ hp
  · obtain ⟨rfl, e19, e29, e39, hi2, lo2, rf2, sq2, hm2, hE2⟩ := hM2 hcd
    obtain ⟨hC1, g1, hg1⟩ := hB1 hcd
    have ht2 := CS_TVs hC1
    show WW K D z0 10 h2 (kc + 10) (ks + 58) 1687 [(6, iv (cdSt σ p w)), (5, iv n5), (0, .ref sb), (1, .ref ox), (2, .ref my), (3, .ref ra), (4, .ref rd)] [iv 0]
    have hg2 := WM_a hm1 hKW hg1 rfl (Or.inl rfl)
    refine r_istore (L' := [(7, iv 0), (6, iv (cdSt σ p w)), (5, iv n5), (0, .ref sb), (1, .ref ox), (2, .ref my), (3, .ref ra), (4, .ref rd)]) X dL_law_1687 (by decide) rfl ?_
    refine r_aload_n 5 X dL_law_1689 rfl ?_
    refine r_callV_v X dL_law_1690 kL_141 hm2.1 (c_X7_thrown (CX_l X) D z0 h2 hm2 ht2) [] rfl rfl (Nat.le_of_ble_eq_true rfl) (by decide) rfl rfl (show kc + 10 ≤ 601024 ∧ ks + 58 ≤ 7293034 by omega) ?_
    show WW K D z0 10 h2 (kc + 10) (ks + 58) 1693 [(7, iv 0), (6, iv (cdSt σ p w)), (5, iv n5), (0, .ref sb), (1, .ref ox), (2, .ref my), (3, .ref ra), (4, .ref rd)] [iv (cdSt σ p w)]
    refine r_iload 1 X dL_law_1693 rfl ?_
    refine r_icmp_eqS 1700 X dL_law_1695 (by decide) ?_
    refine r_iload 1 X dL_law_1700 rfl ?_
    refine r_if_ne 1717 X dL_law_1702 (by decide) ⟨by omega, by omega⟩ (fun c9 => ?_) (fun c9 => absurd c9 hcd)
    refine r_goto 2541 X dL_law_1717 (by decide) ?_
    refine WW_sub (L' := [(5, iv n5), (0, .ref sb), (1, .ref ox), (2, .ref my), (3, .ref ra), (4, .ref rd)]) [2, 3, 4, 5, 6, 7] rfl ?_
    refine WW_room (show kc + 10 ≤ kc + 100 by omega) (show ks + 58 ≤ ks + 1000 by omega) ?_
    exact kk _ _ _ _ _ ⟨CS_WM hC1 hm1 ho hKW, ⟨_, e19, e29, e39, hi2, lo2, rf2, sq2, hm2, hE2⟩, ho, ⟨_, WM_a hm1 hKW hg1 rfl (Or.inl rfl)⟩, ⟨_, WM_a hm1 hKW hj1 rfl (Or.inr rfl)⟩⟩ hp
theorem case_depth {K : KT} {D : va_G} {z0 : Nat} {h : Hp} {kc ks : Nat} (X : CX K D z0 cL_law 10 RL room_1) {sb N : Nat} {xs : Nat → Int32} (S : SX K z0 sb N xs) {ox my ra rd oo : Nat} {mv : Nat → Nat} {σ : Tg} {r : List Nat} {m : Nat} {od : Nat → Int} (J : JS D h ox my ra rd oo mv σ r m od) (hp : PI r m od) (n5 : Int) (hn5 : 0 ≤ n5 ∧ n5 + 5 ≤ (N : Int)) (hkc : kc + 100 ≤ 601024 ∧ ks + 1000 ≤ 7293034) (kk : ∀ (h' : Hp) (σ' : Tg) (r' : List Nat) (m' : Nat) (od' : Nat → Int), JS D h' ox my ra rd oo mv σ' r' m' od' → PI r' m' od' → WW K D z0 10 h' (kc + 100) (ks + 1000) 2541 [(5, iv n5), (0, .ref sb), (1, .ref ox), (2, .ref my), (3, .ref ra), (4, .ref rd)] []) : WW K D z0 10 h kc ks 1720 [(5, iv n5), (0, .ref sb), (1, .ref ox), (2, .ref my), (3, .ref ra), (4, .ref rd)] [] := by
  obtain ⟨hC, ⟨tc, e1, e2, e3, hi9, lo9, rf9, sq9, hm, hE⟩, ho, ⟨ga, hga⟩, gd, hgd⟩ := J
  have hoo := CS_o hC
  have ht := CS_TVs hC
  obtain ⟨p, pd⟩ : ∃ u, u = (xs (n5 + 1).toNat).toInt := ⟨_, rfl⟩
  have p_ : I32 p := by rw [pd]; exact i32_toI _
  show WW K D z0 10 h (kc + 0) (ks + 0) 1720 [(5, iv n5), (0, .ref sb), (1, .ref ox), (2, .ref my), (3, .ref ra), (4, .ref rd)] []
  refine r_aload_n 2 X dL_law_1720 rfl ?_
  refine r_aload_n 1 X dL_law_1721 rfl ?_
  refine r_iload 0 X dL_law_1722 rfl ?_
  refine r_iconst X dL_law_1724 ?_
  refine r_iadd X dL_law_1725 ?_
  refine r_sld (v := p) X S dL_law_1726 ⟨by omega, by omega⟩ pd ?_
  refine r_aload_n 4 X dL_law_1727 rfl ?_
  refine r_callH X dL_law_1728 kL_219 (c_L_depth (CX_l X) D z0 h hC hp p p_ hga) [] rfl rfl (Nat.le_of_ble_eq_true rfl) (by decide) (show kc + 3 ≤ 601024 ∧ ks + 18 ≤ 7293034 by omega) (fun w9 h1 hw9 => ?_)
  obtain ⟨rfl, hcdb, hA1, hB1, hKA⟩ := hw9
  have hm1 := Mz_fr hm hKA ho ⟨_, hoo⟩ hga rfl (Or.inl rfl)
  have hj1 := KA_d hKA hoo hga hgd
  show WW K D z0 10 h1 (kc + 3) (ks + 18) 1731 [(5, iv n5), (0, .ref sb), (1, .ref ox), (2, .ref my), (3, .ref ra), (4, .ref rd)] [iv (cdPr σ p)]
  refine r_istore (L' := [(6, iv (cdPr σ p)), (5, iv n5), (0, .ref sb), (1, .ref ox), (2, .ref my), (3, .ref ra), (4, .ref rd)]) X dL_law_1731 (by decide) rfl ?_
  refine r_aload_n 4 X dL_law_1733 rfl ?_
  refine r_aload_n 2 X dL_law_1734 rfl ?_
  refine r_iload 1 X dL_law_1735 rfl ?_
  refine r_iconst X dL_law_1737 ?_
  refine r_iadd X dL_law_1738 ?_
  refine r_sld (v := p) X S dL_law_1739 ⟨by omega, by omega⟩ pd ?_
  refine r_callV X dL_law_1740 kL_221 hm1.1 (c_X7_depth (CX_l X) D z0 h1 hm1 ht p p_) [] rfl rfl (Nat.le_of_ble_eq_true rfl) (by decide) (show kc + 3 ≤ 601024 ∧ ks + 18 ≤ 7293034 by omega) (fun _ _ z => z.elim) (fun w8 h2 hw8 => ?_)
  obtain ⟨hM1, hM2, hKW⟩ := MO_MW hE hw8
  by_cases hcd : cdPr σ p = 0
  · obtain ⟨rfl, e19, e29, e39, hi2, lo2, rf2, sq2, hm2, hE2⟩ := hM1 hcd
    obtain ⟨hC1, g1, hg1, hgE⟩ := hA1 hcd
    have ht2 := CS_TVs hC1
    show WW K D z0 10 h2 (kc + 3) (ks + 18) 1743 [(6, iv (cdPr σ p)), (5, iv n5), (0, .ref sb), (1, .ref ox), (2, .ref my), (3, .ref ra), (4, .ref rd)] [iv (vDe σ p)]
    have hg2 := WM_a hm1 hKW hg1 rfl (Or.inl rfl)
    refine r_istore (L' := [(7, iv (vDe σ p)), (6, iv (cdPr σ p)), (5, iv n5), (0, .ref sb), (1, .ref ox), (2, .ref my), (3, .ref ra), (4, .ref rd)]) X dL_law_1743 (by decide) rfl ?_
    refine r_aload_n 5 X dL_law_1745 rfl ?_
    refine r_callV_v X dL_law_1746 kL_141 hm2.1 (c_X7_thrown (CX_l X) D z0 h2 hm2 ht2) [] rfl rfl (Nat.le_of_ble_eq_true rfl) (by decide) rfl rfl (show kc + 3 ≤ 601024 ∧ ks + 18 ≤ 7293034 by omega) ?_
    show WW K D z0 10 h2 (kc + 3) (ks + 18) 1749 [(7, iv (vDe σ p)), (6, iv (cdPr σ p)), (5, iv n5), (0, .ref sb), (1, .ref ox), (2, .ref my), (3, .ref ra), (4, .ref rd)] [iv (cdPr σ p)]
    refine r_iload 1 X dL_law_1749 rfl ?_
    refine r_icmp_eqS 1756 X dL_law_1751 (by decide) ?_
    refine r_iload 1 X dL_law_1756 rfl ?_
    refine r_if_ne 1773 X dL_law_1758 (by decide) ⟨by omega, by omega⟩ (fun c9 => absurd hcd c9) (fun c9 => ?_)
    refine r_aload_n 6 X dL_law_1761 rfl ?_
    refine r_iconst X dL_law_1762 ?_
    refine r_laload X dL_law_1763 hg2 ⟨by omega, by omega⟩ (by decide) ?_
    refine WW_e (congrArg (fun z => z :: []) (show jv (g1 (0 : Int).toNat) = jv (w32 (vDe σ p)) from hgE)) ?_
    show WW K D z0 10 h2 (kc + 3) (ks + 18) 1764 [(7, iv (vDe σ p)), (6, iv (cdPr σ p)), (5, iv n5), (0, .ref sb), (1, .ref ox), (2, .ref my), (3, .ref ra), (4, .ref rd)] [jv (w32 (vDe σ p))]
    refine r_iload 0 X dL_law_1764 rfl ?_
    refine r_i2lS X dL_law_1766 ?_
    refine r_lcmp_eqS 1773 X dL_law_1767 dL_law_1768 (by decide) ?_
    refine r_goto 2541 X dL_law_1773 (by decide) ?_
    refine WW_sub (L' := [(5, iv n5), (0, .ref sb), (1, .ref ox), (2, .ref my), (3, .ref ra), (4, .ref rd)]) [2, 3, 4, 5, 6, 7] rfl ?_
    refine WW_room (show kc + 3 ≤ kc + 100 by omega) (show ks + 18 ≤ ks + 1000 by omega) ?_
    exact kk _ _ _ _ _ ⟨CS_WM hC1 hm1 ho hKW, ⟨_, e19, e29, e39, hi2, lo2, rf2, sq2, hm2, hE2⟩, ho, ⟨_, WM_a hm1 hKW hg1 rfl (Or.inl rfl)⟩, ⟨_, WM_a hm1 hKW hj1 rfl (Or.inr rfl)⟩⟩ hp
  · obtain ⟨rfl, e19, e29, e39, hi2, lo2, rf2, sq2, hm2, hE2⟩ := hM2 hcd
    obtain ⟨hC1, g1, hg1⟩ := hB1 hcd
    have ht2 := CS_TVs hC1
    show WW K D z0 10 h2 (kc + 3) (ks + 18) 1743 [(6, iv (cdPr σ p)), (5, iv n5), (0, .ref sb), (1, .ref ox), (2, .ref my), (3, .ref ra), (4, .ref rd)] [iv 0]
    have hg2 := WM_a hm1 hKW hg1 rfl (Or.inl rfl)
    refine r_istore (L' := [(7, iv 0), (6, iv (cdPr σ p)), (5, iv n5), (0, .ref sb), (1, .ref ox), (2, .ref my), (3, .ref ra), (4, .ref rd)]) X dL_law_1743 (by decide) rfl ?_
    refine r_aload_n 5 X dL_law_1745 rfl ?_
    refine r_callV_v X dL_law_1746 kL_141 hm2.1 (c_X7_thrown (CX_l X) D z0 h2 hm2 ht2) [] rfl rfl (Nat.le_of_ble_eq_true rfl) (by decide) rfl rfl (show kc + 3 ≤ 601024 ∧ ks + 18 ≤ 7293034 by omega) ?_
    show WW K D z0 10 h2 (kc + 3) (ks + 18) 1749 [(7, iv 0), (6, iv (cdPr σ p)), (5, iv n5), (0, .ref sb), (1, .ref ox), (2, .ref my), (3, .ref ra), (4, .ref rd)] [iv (cdPr σ p)]
    refine r_iload 1 X dL_law_1749 rfl ?_
    refine r_icmp_eqS 1756 X dL_law_1751 (by decide) ?_
    refine r_iload 1 X dL_law_1756 rfl ?_
    refine r_if_ne 1773 X dL_law_1758 (by decide) ⟨by omega, by omega⟩ (fun c9 => ?_) (fun c9 => absurd c9 hcd)
    refine r_goto 2541 X dL_law_1773 (by decide) ?_
    refine WW_sub (L' := [(5, iv n5), (0, .ref sb), (1, .ref ox), (2, .ref my), (3, .ref ra), (4, .ref rd)]) [2, 3, 4, 5, 6, 7] rfl ?_
    refine WW_room (show kc + 3 ≤ kc + 100 by omega) (show ks + 18 ≤ ks + 1000 by omega) ?_
    exact kk _ _ _ _ _ ⟨CS_WM hC1 hm1 ho hKW, ⟨_, e19, e29, e39, hi2, lo2, rf2, sq2, hm2, hE2⟩, ho, ⟨_, WM_a hm1 hKW hg1 rfl (Or.inl rfl)⟩, ⟨_, WM_a hm1 hKW hj1 rfl (Or.inr rfl)⟩⟩ hp
theorem case_generator {K : KT} {D : va_G} {z0 : Nat} {h : Hp} {kc ks : Nat} (X : CX K D z0 cL_law 10 RL room_1) {sb N : Nat} {xs : Nat → Int32} (S : SX K z0 sb N xs) {ox my ra rd oo : Nat} {mv : Nat → Nat} {σ : Tg} {r : List Nat} {m : Nat} {od : Nat → Int} (J : JS D h ox my ra rd oo mv σ r m od) (hp : PI r m od) (n5 : Int) (hn5 : 0 ≤ n5 ∧ n5 + 5 ≤ (N : Int)) (hkc : kc + 100 ≤ 601024 ∧ ks + 1000 ≤ 7293034) (kk : ∀ (h' : Hp) (σ' : Tg) (r' : List Nat) (m' : Nat) (od' : Nat → Int), JS D h' ox my ra rd oo mv σ' r' m' od' → PI r' m' od' → WW K D z0 10 h' (kc + 100) (ks + 1000) 2541 [(5, iv n5), (0, .ref sb), (1, .ref ox), (2, .ref my), (3, .ref ra), (4, .ref rd)] []) : WW K D z0 10 h kc ks 1776 [(5, iv n5), (0, .ref sb), (1, .ref ox), (2, .ref my), (3, .ref ra), (4, .ref rd)] [] := by
  obtain ⟨hC, ⟨tc, e1, e2, e3, hi9, lo9, rf9, sq9, hm, hE⟩, ho, ⟨ga, hga⟩, gd, hgd⟩ := J
  have hoo := CS_o hC
  have ht := CS_TVs hC
  obtain ⟨p, pd⟩ : ∃ u, u = (xs (n5 + 1).toNat).toInt := ⟨_, rfl⟩
  have p_ : I32 p := by rw [pd]; exact i32_toI _
  obtain ⟨u2, hu2⟩ : ∃ u, u = (xs (n5 + 2).toNat).toInt := ⟨_, rfl⟩
  have u2_ : I32 u2 := by rw [hu2]; exact i32_toI _
  obtain ⟨w, wd⟩ : ∃ z, z = u2 % 65536 := ⟨_, rfl⟩
  have w_ : 0 ≤ w ∧ w ≤ 65535 := by omega
  show WW K D z0 10 h (kc + 0) (ks + 0) 1776 [(5, iv n5), (0, .ref sb), (1, .ref ox), (2, .ref my), (3, .ref ra), (4, .ref rd)] []
  refine r_aload_n 2 X dL_law_1776 rfl ?_
  refine r_aload_n 1 X dL_law_1777 rfl ?_
  refine r_iload 0 X dL_law_1778 rfl ?_
  refine r_iconst X dL_law_1780 ?_
  refine r_iadd X dL_law_1781 ?_
  refine r_sld (v := p) X S dL_law_1782 ⟨by omega, by omega⟩ pd ?_
  refine r_aload_n 1 X dL_law_1783 rfl ?_
  refine r_iload 0 X dL_law_1784 rfl ?_
  refine r_iconst X dL_law_1786 ?_
  refine r_iadd X dL_law_1787 ?_
  refine r_sld (v := u2) X S dL_law_1788 ⟨by omega, by omega⟩ hu2 ?_
  refine r_i2c X dL_law_1789 ?_
  refine WW_e (congrArg (fun z => iv z :: [iv p, .ref ox]) (show u2 % 65536 = w from wd.symm)) ?_
  show WW K D z0 10 h (kc + 0) (ks + 0) 1790 [(5, iv n5), (0, .ref sb), (1, .ref ox), (2, .ref my), (3, .ref ra), (4, .ref rd)] [iv w, iv p, .ref ox]
  refine r_aload_n 4 X dL_law_1790 rfl ?_
  refine r_callH X dL_law_1791 kL_222 (c_L_generator (CX_l X) D z0 h hC hp p p_ w w_ hga) [] rfl rfl (Nat.le_of_ble_eq_true rfl) (by decide) (show kc + 5 ≤ 601024 ∧ ks + 30 ≤ 7293034 by omega) (fun w9 h1 hw9 => ?_)
  obtain ⟨rfl, hcdb, hA1, hB1, hKA⟩ := hw9
  have hm1 := Mz_fr hm hKA ho ⟨_, hoo⟩ hga rfl (Or.inl rfl)
  have hj1 := KA_d hKA hoo hga hgd
  show WW K D z0 10 h1 (kc + 5) (ks + 30) 1794 [(5, iv n5), (0, .ref sb), (1, .ref ox), (2, .ref my), (3, .ref ra), (4, .ref rd)] [iv (cdGe σ p w)]
  refine r_istore (L' := [(6, iv (cdGe σ p w)), (5, iv n5), (0, .ref sb), (1, .ref ox), (2, .ref my), (3, .ref ra), (4, .ref rd)]) X dL_law_1794 (by decide) rfl ?_
  refine r_aload_n 4 X dL_law_1796 rfl ?_
  refine r_aload_n 2 X dL_law_1797 rfl ?_
  refine r_iload 1 X dL_law_1798 rfl ?_
  refine r_iconst X dL_law_1800 ?_
  refine r_iadd X dL_law_1801 ?_
  refine r_sld (v := p) X S dL_law_1802 ⟨by omega, by omega⟩ pd ?_
  refine r_aload_n 2 X dL_law_1803 rfl ?_
  refine r_iload 1 X dL_law_1804 rfl ?_
  refine r_iconst X dL_law_1806 ?_
  refine r_iadd X dL_law_1807 ?_
  refine r_sld (v := u2) X S dL_law_1808 ⟨by omega, by omega⟩ hu2 ?_
  refine r_i2c X dL_law_1809 ?_
  refine WW_e (congrArg (fun z => iv z :: [iv p, .ref my]) (show u2 % 65536 = w from wd.symm)) ?_
  show WW K D z0 10 h1 (kc + 5) (ks + 30) 1810 [(6, iv (cdGe σ p w)), (5, iv n5), (0, .ref sb), (1, .ref ox), (2, .ref my), (3, .ref ra), (4, .ref rd)] [iv w, iv p, .ref my]
  refine r_callV X dL_law_1810 kL_224 hm1.1 (c_X7_generator (CX_l X) D z0 h1 hm1 ht p p_ w w_) [] rfl rfl (Nat.le_of_ble_eq_true rfl) (by decide) (show kc + 5 ≤ 601024 ∧ ks + 30 ≤ 7293034 by omega) (fun _ _ z => z.elim) (fun w8 h2 hw8 => ?_)
  obtain ⟨hM1, hM2, hKW⟩ := MO_MW hE hw8
  by_cases hcd : cdGe σ p w = 0
  · obtain ⟨rfl, e19, e29, e39, hi2, lo2, rf2, sq2, hm2, hE2⟩ := hM1 hcd
    obtain ⟨hC1, g1, hg1, hgE⟩ := hA1 hcd
    have ht2 := CS_TVs hC1
    show WW K D z0 10 h2 (kc + 5) (ks + 30) 1813 [(6, iv (cdGe σ p w)), (5, iv n5), (0, .ref sb), (1, .ref ox), (2, .ref my), (3, .ref ra), (4, .ref rd)] [iv (vGe σ p w)]
    have hg2 := WM_a hm1 hKW hg1 rfl (Or.inl rfl)
    refine r_istore (L' := [(7, iv (vGe σ p w)), (6, iv (cdGe σ p w)), (5, iv n5), (0, .ref sb), (1, .ref ox), (2, .ref my), (3, .ref ra), (4, .ref rd)]) X dL_law_1813 (by decide) rfl ?_
    refine r_aload_n 5 X dL_law_1815 rfl ?_
    refine r_callV_v X dL_law_1816 kL_141 hm2.1 (c_X7_thrown (CX_l X) D z0 h2 hm2 ht2) [] rfl rfl (Nat.le_of_ble_eq_true rfl) (by decide) rfl rfl (show kc + 5 ≤ 601024 ∧ ks + 30 ≤ 7293034 by omega) ?_
    show WW K D z0 10 h2 (kc + 5) (ks + 30) 1819 [(7, iv (vGe σ p w)), (6, iv (cdGe σ p w)), (5, iv n5), (0, .ref sb), (1, .ref ox), (2, .ref my), (3, .ref ra), (4, .ref rd)] [iv (cdGe σ p w)]
    refine r_iload 1 X dL_law_1819 rfl ?_
    refine r_icmp_eqS 1826 X dL_law_1821 (by decide) ?_
    refine r_iload 1 X dL_law_1826 rfl ?_
    refine r_if_ne 1843 X dL_law_1828 (by decide) ⟨by omega, by omega⟩ (fun c9 => absurd hcd c9) (fun c9 => ?_)
    refine r_aload_n 6 X dL_law_1831 rfl ?_
    refine r_iconst X dL_law_1832 ?_
    refine r_laload X dL_law_1833 hg2 ⟨by omega, by omega⟩ (by decide) ?_
    refine WW_e (congrArg (fun z => z :: []) (show jv (g1 (0 : Int).toNat) = jv (w32 (vGe σ p w)) from hgE)) ?_
    show WW K D z0 10 h2 (kc + 5) (ks + 30) 1834 [(7, iv (vGe σ p w)), (6, iv (cdGe σ p w)), (5, iv n5), (0, .ref sb), (1, .ref ox), (2, .ref my), (3, .ref ra), (4, .ref rd)] [jv (w32 (vGe σ p w))]
    refine r_iload 0 X dL_law_1834 rfl ?_
    refine r_i2lS X dL_law_1836 ?_
    refine r_lcmp_eqS 1843 X dL_law_1837 dL_law_1838 (by decide) ?_
    refine r_goto 2541 X dL_law_1843 (by decide) ?_
    refine WW_sub (L' := [(5, iv n5), (0, .ref sb), (1, .ref ox), (2, .ref my), (3, .ref ra), (4, .ref rd)]) [2, 3, 4, 5, 6, 7] rfl ?_
    refine WW_room (show kc + 5 ≤ kc + 100 by omega) (show ks + 30 ≤ ks + 1000 by omega) ?_
    exact kk _ _ _ _ _ ⟨CS_WM hC1 hm1 ho hKW, ⟨_, e19, e29, e39, hi2, lo2, rf2, sq2, hm2, hE2⟩, ho, ⟨_, WM_a hm1 hKW hg1 rfl (Or.inl rfl)⟩, ⟨_, WM_a hm1 hKW hj1 rfl (Or.inr rfl)⟩⟩ hp
  · obtain ⟨rfl, e19, e29, e39, hi2, lo2, rf2, sq2, hm2, hE2⟩ := hM2 hcd
    obtain ⟨hC1, g1, hg1⟩ := hB1 hcd
    have ht2 := CS_TVs hC1
    show WW K D z0 10 h2 (kc + 5) (ks + 30) 1813 [(6, iv (cdGe σ p w)), (5, iv n5), (0, .ref sb), (1, .ref ox), (2, .ref my), (3, .ref ra), (4, .ref rd)] [iv 0]
    have hg2 := WM_a hm1 hKW hg1 rfl (Or.inl rfl)
    refine r_istore (L' := [(7, iv 0), (6, iv (cdGe σ p w)), (5, iv n5), (0, .ref sb), (1, .ref ox), (2, .ref my), (3, .ref ra), (4, .ref rd)]) X dL_law_1813 (by decide) rfl ?_
    refine r_aload_n 5 X dL_law_1815 rfl ?_
    refine r_callV_v X dL_law_1816 kL_141 hm2.1 (c_X7_thrown (CX_l X) D z0 h2 hm2 ht2) [] rfl rfl (Nat.le_of_ble_eq_true rfl) (by decide) rfl rfl (show kc + 5 ≤ 601024 ∧ ks + 30 ≤ 7293034 by omega) ?_
    show WW K D z0 10 h2 (kc + 5) (ks + 30) 1819 [(7, iv 0), (6, iv (cdGe σ p w)), (5, iv n5), (0, .ref sb), (1, .ref ox), (2, .ref my), (3, .ref ra), (4, .ref rd)] [iv (cdGe σ p w)]
    refine r_iload 1 X dL_law_1819 rfl ?_
    refine r_icmp_eqS 1826 X dL_law_1821 (by decide) ?_
    refine r_iload 1 X dL_law_1826 rfl ?_
    refine r_if_ne 1843 X dL_law_1828 (by decide) ⟨by omega, by omega⟩ (fun c9 => ?_) (fun c9 => absurd c9 hcd)
    refine r_goto 2541 X dL_law_1843 (by decide) ?_
    refine WW_sub (L' := [(5, iv n5), (0, .ref sb), (1, .ref ox), (2, .ref my), (3, .ref ra), (4, .ref rd)]) [2, 3, 4, 5, 6, 7] rfl ?_
    refine WW_room (show kc + 5 ≤ kc + 100 by omega) (show ks + 30 ≤ ks + 1000 by omega) ?_
    exact kk _ _ _ _ _ ⟨CS_WM hC1 hm1 ho hKW, ⟨_, e19, e29, e39, hi2, lo2, rf2, sq2, hm2, hE2⟩, ho, ⟨_, WM_a hm1 hKW hg1 rfl (Or.inl rfl)⟩, ⟨_, WM_a hm1 hKW hj1 rfl (Or.inr rfl)⟩⟩ hp
theorem case_list {K : KT} {D : va_G} {z0 : Nat} {h : Hp} {kc ks : Nat} (X : CX K D z0 cL_law 10 RL room_1) {sb N : Nat} {xs : Nat → Int32} (S : SX K z0 sb N xs) {ox my ra rd oo : Nat} {mv : Nat → Nat} {σ : Tg} {r : List Nat} {m : Nat} {od : Nat → Int} (J : JS D h ox my ra rd oo mv σ r m od) (hp : PI r m od) (n5 : Int) (hn5 : 0 ≤ n5 ∧ n5 + 5 ≤ (N : Int)) (hkc : kc + 100 ≤ 601024 ∧ ks + 1000 ≤ 7293034) (kk : ∀ (h' : Hp) (σ' : Tg) (r' : List Nat) (m' : Nat) (od' : Nat → Int), JS D h' ox my ra rd oo mv σ' r' m' od' → PI r' m' od' → WW K D z0 10 h' (kc + 100) (ks + 1000) 2541 [(5, iv n5), (0, .ref sb), (1, .ref ox), (2, .ref my), (3, .ref ra), (4, .ref rd)] []) : WW K D z0 10 h kc ks 1846 [(5, iv n5), (0, .ref sb), (1, .ref ox), (2, .ref my), (3, .ref ra), (4, .ref rd)] [] := by
  obtain ⟨hC, ⟨tc, e1, e2, e3, hi9, lo9, rf9, sq9, hm, hE⟩, ho, ⟨ga, hga⟩, gd, hgd⟩ := J
  have hoo := CS_o hC
  have ht := CS_TVs hC
  obtain ⟨u1, hu1⟩ : ∃ u, u = (xs (n5 + 1).toNat).toInt := ⟨_, rfl⟩
  have u1_ : I32 u1 := by rw [hu1]; exact i32_toI _
  obtain ⟨w, wd⟩ : ∃ z, z = u1 % 65536 := ⟨_, rfl⟩
  have w_ : 0 ≤ w ∧ w ≤ 65535 := by omega
  obtain ⟨b9, b9d⟩ : ∃ u, u = (xs (n5 + 2).toNat).toInt := ⟨_, rfl⟩
  have b9_ : I32 b9 := by rw [b9d]; exact i32_toI _
  show WW K D z0 10 h (kc + 0) (ks + 0) 1846 [(5, iv n5), (0, .ref sb), (1, .ref ox), (2, .ref my), (3, .ref ra), (4, .ref rd)] []
  refine r_aload_n 2 X dL_law_1846 rfl ?_
  refine r_aload_n 1 X dL_law_1847 rfl ?_
  refine r_iload 0 X dL_law_1848 rfl ?_
  refine r_iconst X dL_law_1850 ?_
  refine r_iadd X dL_law_1851 ?_
  refine r_sld (v := u1) X S dL_law_1852 ⟨by omega, by omega⟩ hu1 ?_
  refine r_i2c X dL_law_1853 ?_
  refine WW_e (congrArg (fun z => iv z :: [.ref ox]) (show u1 % 65536 = w from wd.symm)) ?_
  show WW K D z0 10 h (kc + 0) (ks + 0) 1854 [(5, iv n5), (0, .ref sb), (1, .ref ox), (2, .ref my), (3, .ref ra), (4, .ref rd)] [iv w, .ref ox]
  refine r_aload_n 1 X dL_law_1854 rfl ?_
  refine r_iload 0 X dL_law_1855 rfl ?_
  refine r_iconst X dL_law_1857 ?_
  refine r_iadd X dL_law_1858 ?_
  refine r_sld (v := b9) X S dL_law_1859 ⟨by omega, by omega⟩ b9d ?_
  refine r_aload_n 4 X dL_law_1860 rfl ?_
  refine r_callH X dL_law_1861 kL_225 (c_L_list (CX_l X) D z0 h hC hp w w_ b9 b9_ hga) [] rfl rfl (Nat.le_of_ble_eq_true rfl) (by decide) (show kc + 2 ≤ 601024 ∧ ks + 12 ≤ 7293034 by omega) (fun w9 h1 hw9 => ?_)
  obtain ⟨rfl, hcdb, hA1, hB1, hKA⟩ := hw9
  have hm1 := Mz_fr hm hKA ho ⟨_, hoo⟩ hga rfl (Or.inl rfl)
  have hj1 := KA_d hKA hoo hga hgd
  show WW K D z0 10 h1 (kc + 2) (ks + 12) 1864 [(5, iv n5), (0, .ref sb), (1, .ref ox), (2, .ref my), (3, .ref ra), (4, .ref rd)] [iv (cdLi w b9)]
  refine r_istore (L' := [(6, iv (cdLi w b9)), (5, iv n5), (0, .ref sb), (1, .ref ox), (2, .ref my), (3, .ref ra), (4, .ref rd)]) X dL_law_1864 (by decide) rfl ?_
  refine r_aload_n 4 X dL_law_1866 rfl ?_
  refine r_aload_n 2 X dL_law_1867 rfl ?_
  refine r_iload 1 X dL_law_1868 rfl ?_
  refine r_iconst X dL_law_1870 ?_
  refine r_iadd X dL_law_1871 ?_
  refine r_sld (v := u1) X S dL_law_1872 ⟨by omega, by omega⟩ hu1 ?_
  refine r_i2c X dL_law_1873 ?_
  refine WW_e (congrArg (fun z => iv z :: [.ref my]) (show u1 % 65536 = w from wd.symm)) ?_
  show WW K D z0 10 h1 (kc + 2) (ks + 12) 1874 [(6, iv (cdLi w b9)), (5, iv n5), (0, .ref sb), (1, .ref ox), (2, .ref my), (3, .ref ra), (4, .ref rd)] [iv w, .ref my]
  refine r_aload_n 2 X dL_law_1874 rfl ?_
  refine r_iload 1 X dL_law_1875 rfl ?_
  refine r_iconst X dL_law_1877 ?_
  refine r_iadd X dL_law_1878 ?_
  refine r_sld (v := b9) X S dL_law_1879 ⟨by omega, by omega⟩ b9d ?_
  refine r_callV X dL_law_1880 kL_228 hm1.1 (c_X7_list (CX_l X) D z0 h1 hm1 ht w b9 w_ b9_) [] rfl rfl (Nat.le_of_ble_eq_true rfl) (by decide) (show kc + 2 ≤ 601024 ∧ ks + 12 ≤ 7293034 by omega) (fun _ _ z => z.elim) (fun w8 h2 hw8 => ?_)
  obtain ⟨hM1, hM2, hKW⟩ := LI_MW hE hw8
  by_cases hcd : cdLi w b9 = 0
  · obtain ⟨rfl, e19, e29, e39, hi2, lo2, rf2, sq2, hm2, hE2⟩ := hM1 hcd
    obtain ⟨hC1, g1, hg1, hgE⟩ := hA1 hcd
    have ht2 := CS_TVs hC1
    show WW K D z0 10 h2 (kc + 2) (ks + 12) 1883 [(6, iv (cdLi w b9)), (5, iv n5), (0, .ref sb), (1, .ref ox), (2, .ref my), (3, .ref ra), (4, .ref rd)] [iv ((eR b9.toNat).length : Int)]
    have hg2 := WM_a hm1 hKW hg1 rfl (Or.inl rfl)
    refine r_istore (L' := [(7, iv ((eR b9.toNat).length : Int)), (6, iv (cdLi w b9)), (5, iv n5), (0, .ref sb), (1, .ref ox), (2, .ref my), (3, .ref ra), (4, .ref rd)]) X dL_law_1883 (by decide) rfl ?_
    refine r_aload_n 5 X dL_law_1885 rfl ?_
    refine r_callV_v X dL_law_1886 kL_141 hm2.1 (c_X7_thrown (CX_l X) D z0 h2 hm2 ht2) [] rfl rfl (Nat.le_of_ble_eq_true rfl) (by decide) rfl rfl (show kc + 2 ≤ 601024 ∧ ks + 12 ≤ 7293034 by omega) ?_
    show WW K D z0 10 h2 (kc + 2) (ks + 12) 1889 [(7, iv ((eR b9.toNat).length : Int)), (6, iv (cdLi w b9)), (5, iv n5), (0, .ref sb), (1, .ref ox), (2, .ref my), (3, .ref ra), (4, .ref rd)] [iv (cdLi w b9)]
    refine r_iload 1 X dL_law_1889 rfl ?_
    refine r_icmp_eqS 1896 X dL_law_1891 (by decide) ?_
    refine r_iload 1 X dL_law_1896 rfl ?_
    refine r_if_ne 1913 X dL_law_1898 (by decide) ⟨by omega, by omega⟩ (fun c9 => absurd hcd c9) (fun c9 => ?_)
    refine r_aload_n 6 X dL_law_1901 rfl ?_
    refine r_iconst X dL_law_1902 ?_
    refine r_laload X dL_law_1903 hg2 ⟨by omega, by omega⟩ (by decide) ?_
    refine WW_e (congrArg (fun z => z :: []) (show jv (g1 (0 : Int).toNat) = jv (w32 (((eR b9.toNat).length : Int))) from hgE)) ?_
    show WW K D z0 10 h2 (kc + 2) (ks + 12) 1904 [(7, iv ((eR b9.toNat).length : Int)), (6, iv (cdLi w b9)), (5, iv n5), (0, .ref sb), (1, .ref ox), (2, .ref my), (3, .ref ra), (4, .ref rd)] [jv (w32 (((eR b9.toNat).length : Int)))]
    refine r_iload 0 X dL_law_1904 rfl ?_
    refine r_i2lS X dL_law_1906 ?_
    refine r_lcmp_eqS 1913 X dL_law_1907 dL_law_1908 (by decide) ?_
    refine r_goto 2541 X dL_law_1913 (by decide) ?_
    refine WW_sub (L' := [(5, iv n5), (0, .ref sb), (1, .ref ox), (2, .ref my), (3, .ref ra), (4, .ref rd)]) [2, 3, 4, 5, 6, 7] rfl ?_
    refine WW_room (show kc + 2 ≤ kc + 100 by omega) (show ks + 12 ≤ ks + 1000 by omega) ?_
    exact kk _ _ _ _ _ ⟨CS_WM hC1 hm1 ho hKW, ⟨_, e19, e29, e39, hi2, lo2, rf2, sq2, hm2, hE2⟩, ho, ⟨_, WM_a hm1 hKW hg1 rfl (Or.inl rfl)⟩, ⟨_, WM_a hm1 hKW hj1 rfl (Or.inr rfl)⟩⟩ (PI_L hp hcd)
  · obtain ⟨rfl, e19, e29, e39, hi2, lo2, rf2, sq2, hm2, hE2⟩ := hM2 hcd
    obtain ⟨hC1, g1, hg1⟩ := hB1 hcd
    have ht2 := CS_TVs hC1
    show WW K D z0 10 h2 (kc + 2) (ks + 12) 1883 [(6, iv (cdLi w b9)), (5, iv n5), (0, .ref sb), (1, .ref ox), (2, .ref my), (3, .ref ra), (4, .ref rd)] [iv 0]
    have hg2 := WM_a hm1 hKW hg1 rfl (Or.inl rfl)
    refine r_istore (L' := [(7, iv 0), (6, iv (cdLi w b9)), (5, iv n5), (0, .ref sb), (1, .ref ox), (2, .ref my), (3, .ref ra), (4, .ref rd)]) X dL_law_1883 (by decide) rfl ?_
    refine r_aload_n 5 X dL_law_1885 rfl ?_
    refine r_callV_v X dL_law_1886 kL_141 hm2.1 (c_X7_thrown (CX_l X) D z0 h2 hm2 ht2) [] rfl rfl (Nat.le_of_ble_eq_true rfl) (by decide) rfl rfl (show kc + 2 ≤ 601024 ∧ ks + 12 ≤ 7293034 by omega) ?_
    show WW K D z0 10 h2 (kc + 2) (ks + 12) 1889 [(7, iv 0), (6, iv (cdLi w b9)), (5, iv n5), (0, .ref sb), (1, .ref ox), (2, .ref my), (3, .ref ra), (4, .ref rd)] [iv (cdLi w b9)]
    refine r_iload 1 X dL_law_1889 rfl ?_
    refine r_icmp_eqS 1896 X dL_law_1891 (by decide) ?_
    refine r_iload 1 X dL_law_1896 rfl ?_
    refine r_if_ne 1913 X dL_law_1898 (by decide) ⟨by omega, by omega⟩ (fun c9 => ?_) (fun c9 => absurd c9 hcd)
    refine r_goto 2541 X dL_law_1913 (by decide) ?_
    refine WW_sub (L' := [(5, iv n5), (0, .ref sb), (1, .ref ox), (2, .ref my), (3, .ref ra), (4, .ref rd)]) [2, 3, 4, 5, 6, 7] rfl ?_
    refine WW_room (show kc + 2 ≤ kc + 100 by omega) (show ks + 12 ≤ ks + 1000 by omega) ?_
    exact kk _ _ _ _ _ ⟨CS_WM hC1 hm1 ho hKW, ⟨_, e19, e29, e39, hi2, lo2, rf2, sq2, hm2, hE2⟩, ho, ⟨_, WM_a hm1 hKW hg1 rfl (Or.inl rfl)⟩, ⟨_, WM_a hm1 hKW hj1 rfl (Or.inr rfl)⟩⟩ hp
theorem case_listed {K : KT} {D : va_G} {z0 : Nat} {h : Hp} {kc ks : Nat} (X : CX K D z0 cL_law 10 RL room_1) {sb N : Nat} {xs : Nat → Int32} (S : SX K z0 sb N xs) {ox my ra rd oo : Nat} {mv : Nat → Nat} {σ : Tg} {r : List Nat} {m : Nat} {od : Nat → Int} (J : JS D h ox my ra rd oo mv σ r m od) (hp : PI r m od) (n5 : Int) (hn5 : 0 ≤ n5 ∧ n5 + 5 ≤ (N : Int)) (hkc : kc + 100 ≤ 601024 ∧ ks + 1000 ≤ 7293034) (kk : ∀ (h' : Hp) (σ' : Tg) (r' : List Nat) (m' : Nat) (od' : Nat → Int), JS D h' ox my ra rd oo mv σ' r' m' od' → PI r' m' od' → WW K D z0 10 h' (kc + 100) (ks + 1000) 2541 [(5, iv n5), (0, .ref sb), (1, .ref ox), (2, .ref my), (3, .ref ra), (4, .ref rd)] []) : WW K D z0 10 h kc ks 1916 [(5, iv n5), (0, .ref sb), (1, .ref ox), (2, .ref my), (3, .ref ra), (4, .ref rd)] [] := by
  obtain ⟨hC, ⟨tc, e1, e2, e3, hi9, lo9, rf9, sq9, hm, hE⟩, ho, ⟨ga, hga⟩, gd, hgd⟩ := J
  have hoo := CS_o hC
  have ht := CS_TVs hC
  obtain ⟨i, id⟩ : ∃ u, u = (xs (n5 + 1).toNat).toInt := ⟨_, rfl⟩
  have i_ : I32 i := by rw [id]; exact i32_toI _
  obtain ⟨w, wd⟩ : ∃ u, u = (xs (n5 + 2).toNat).toInt := ⟨_, rfl⟩
  have w_ : I32 w := by rw [wd]; exact i32_toI _
  show WW K D z0 10 h (kc + 0) (ks + 0) 1916 [(5, iv n5), (0, .ref sb), (1, .ref ox), (2, .ref my), (3, .ref ra), (4, .ref rd)] []
  refine r_aload_n 2 X dL_law_1916 rfl ?_
  refine r_aload_n 1 X dL_law_1917 rfl ?_
  refine r_iload 0 X dL_law_1918 rfl ?_
  refine r_iconst X dL_law_1920 ?_
  refine r_iadd X dL_law_1921 ?_
  refine r_sld (v := i) X S dL_law_1922 ⟨by omega, by omega⟩ id ?_
  refine r_aload_n 1 X dL_law_1923 rfl ?_
  refine r_iload 0 X dL_law_1924 rfl ?_
  refine r_iconst X dL_law_1926 ?_
  refine r_iadd X dL_law_1927 ?_
  refine r_sld (v := w) X S dL_law_1928 ⟨by omega, by omega⟩ wd ?_
  refine r_aload_n 4 X dL_law_1929 rfl ?_
  refine r_callH X dL_law_1930 kL_229 (c_L_listed (CX_l X) D z0 h hC hp i i_ w w_ hga) [] rfl rfl (Nat.le_of_ble_eq_true rfl) (by decide) (show kc + 2 ≤ 601024 ∧ ks + 12 ≤ 7293034 by omega) (fun w9 h1 hw9 => ?_)
  obtain ⟨rfl, hcdb, hA1, hB1, hKA⟩ := hw9
  have hm1 := Mz_fr hm hKA ho ⟨_, hoo⟩ hga rfl (Or.inl rfl)
  have hj1 := KA_d hKA hoo hga hgd
  show WW K D z0 10 h1 (kc + 2) (ks + 12) 1933 [(5, iv n5), (0, .ref sb), (1, .ref ox), (2, .ref my), (3, .ref ra), (4, .ref rd)] [iv (cdLd r.length i w)]
  refine r_istore (L' := [(6, iv (cdLd r.length i w)), (5, iv n5), (0, .ref sb), (1, .ref ox), (2, .ref my), (3, .ref ra), (4, .ref rd)]) X dL_law_1933 (by decide) rfl ?_
  refine r_aload_n 4 X dL_law_1935 rfl ?_
  refine r_aload_n 2 X dL_law_1936 rfl ?_
  refine r_iload 1 X dL_law_1937 rfl ?_
  refine r_iconst X dL_law_1939 ?_
  refine r_iadd X dL_law_1940 ?_
  refine r_sld (v := i) X S dL_law_1941 ⟨by omega, by omega⟩ id ?_
  refine r_aload_n 2 X dL_law_1942 rfl ?_
  refine r_iload 1 X dL_law_1943 rfl ?_
  refine r_iconst X dL_law_1945 ?_
  refine r_iadd X dL_law_1946 ?_
  refine r_sld (v := w) X S dL_law_1947 ⟨by omega, by omega⟩ wd ?_
  refine r_callV X dL_law_1948 kL_231 hm1.1 (c_X7_listed (CX_l X) D z0 h1 hm1 ht i w i_ w_ r rfl hp.1.1 hE) [] rfl rfl (Nat.le_of_ble_eq_true rfl) (by decide) (show kc + 2 ≤ 601024 ∧ ks + 12 ≤ 7293034 by omega) (fun _ _ z => z.elim) (fun w8 h2 hw8 => ?_)
  obtain ⟨hM1, hM2, hKW⟩ := MO_MW hE hw8
  by_cases hcd : cdLd r.length i w = 0
  · obtain ⟨rfl, e19, e29, e39, hi2, lo2, rf2, sq2, hm2, hE2⟩ := hM1 hcd
    obtain ⟨hC1, g1, hg1, hgE⟩ := hA1 hcd
    have ht2 := CS_TVs hC1
    show WW K D z0 10 h2 (kc + 2) (ks + 12) 1951 [(6, iv (cdLd r.length i w)), (5, iv n5), (0, .ref sb), (1, .ref ox), (2, .ref my), (3, .ref ra), (4, .ref rd)] [iv (lnK ((nthR r i.toNat : Nat) : Int) w)]
    have hg2 := WM_a hm1 hKW hg1 rfl (Or.inl rfl)
    refine r_istore (L' := [(7, iv (lnK ((nthR r i.toNat : Nat) : Int) w)), (6, iv (cdLd r.length i w)), (5, iv n5), (0, .ref sb), (1, .ref ox), (2, .ref my), (3, .ref ra), (4, .ref rd)]) X dL_law_1951 (by decide) rfl ?_
    refine r_aload_n 5 X dL_law_1953 rfl ?_
    refine r_callV_v X dL_law_1954 kL_141 hm2.1 (c_X7_thrown (CX_l X) D z0 h2 hm2 ht2) [] rfl rfl (Nat.le_of_ble_eq_true rfl) (by decide) rfl rfl (show kc + 2 ≤ 601024 ∧ ks + 12 ≤ 7293034 by omega) ?_
    show WW K D z0 10 h2 (kc + 2) (ks + 12) 1957 [(7, iv (lnK ((nthR r i.toNat : Nat) : Int) w)), (6, iv (cdLd r.length i w)), (5, iv n5), (0, .ref sb), (1, .ref ox), (2, .ref my), (3, .ref ra), (4, .ref rd)] [iv (cdLd r.length i w)]
    refine r_iload 1 X dL_law_1957 rfl ?_
    refine r_icmp_eqS 1964 X dL_law_1959 (by decide) ?_
    refine r_iload 1 X dL_law_1964 rfl ?_
    refine r_if_ne 1981 X dL_law_1966 (by decide) ⟨by omega, by omega⟩ (fun c9 => absurd hcd c9) (fun c9 => ?_)
    refine r_aload_n 6 X dL_law_1969 rfl ?_
    refine r_iconst X dL_law_1970 ?_
    refine r_laload X dL_law_1971 hg2 ⟨by omega, by omega⟩ (by decide) ?_
    refine WW_e (congrArg (fun z => z :: []) (show jv (g1 (0 : Int).toNat) = jv (w32 (lnK ((nthR r i.toNat : Nat) : Int) w)) from hgE)) ?_
    show WW K D z0 10 h2 (kc + 2) (ks + 12) 1972 [(7, iv (lnK ((nthR r i.toNat : Nat) : Int) w)), (6, iv (cdLd r.length i w)), (5, iv n5), (0, .ref sb), (1, .ref ox), (2, .ref my), (3, .ref ra), (4, .ref rd)] [jv (w32 (lnK ((nthR r i.toNat : Nat) : Int) w))]
    refine r_iload 0 X dL_law_1972 rfl ?_
    refine r_i2lS X dL_law_1974 ?_
    refine r_lcmp_eqS 1981 X dL_law_1975 dL_law_1976 (by decide) ?_
    refine r_goto 2541 X dL_law_1981 (by decide) ?_
    refine WW_sub (L' := [(5, iv n5), (0, .ref sb), (1, .ref ox), (2, .ref my), (3, .ref ra), (4, .ref rd)]) [2, 3, 4, 5, 6, 7] rfl ?_
    refine WW_room (show kc + 2 ≤ kc + 100 by omega) (show ks + 12 ≤ ks + 1000 by omega) ?_
    exact kk _ _ _ _ _ ⟨CS_WM hC1 hm1 ho hKW, ⟨_, e19, e29, e39, hi2, lo2, rf2, sq2, hm2, hE2⟩, ho, ⟨_, WM_a hm1 hKW hg1 rfl (Or.inl rfl)⟩, ⟨_, WM_a hm1 hKW hj1 rfl (Or.inr rfl)⟩⟩ hp
  · obtain ⟨rfl, e19, e29, e39, hi2, lo2, rf2, sq2, hm2, hE2⟩ := hM2 hcd
    obtain ⟨hC1, g1, hg1⟩ := hB1 hcd
    have ht2 := CS_TVs hC1
    show WW K D z0 10 h2 (kc + 2) (ks + 12) 1951 [(6, iv (cdLd r.length i w)), (5, iv n5), (0, .ref sb), (1, .ref ox), (2, .ref my), (3, .ref ra), (4, .ref rd)] [iv 0]
    have hg2 := WM_a hm1 hKW hg1 rfl (Or.inl rfl)
    refine r_istore (L' := [(7, iv 0), (6, iv (cdLd r.length i w)), (5, iv n5), (0, .ref sb), (1, .ref ox), (2, .ref my), (3, .ref ra), (4, .ref rd)]) X dL_law_1951 (by decide) rfl ?_
    refine r_aload_n 5 X dL_law_1953 rfl ?_
    refine r_callV_v X dL_law_1954 kL_141 hm2.1 (c_X7_thrown (CX_l X) D z0 h2 hm2 ht2) [] rfl rfl (Nat.le_of_ble_eq_true rfl) (by decide) rfl rfl (show kc + 2 ≤ 601024 ∧ ks + 12 ≤ 7293034 by omega) ?_
    show WW K D z0 10 h2 (kc + 2) (ks + 12) 1957 [(7, iv 0), (6, iv (cdLd r.length i w)), (5, iv n5), (0, .ref sb), (1, .ref ox), (2, .ref my), (3, .ref ra), (4, .ref rd)] [iv (cdLd r.length i w)]
    refine r_iload 1 X dL_law_1957 rfl ?_
    refine r_icmp_eqS 1964 X dL_law_1959 (by decide) ?_
    refine r_iload 1 X dL_law_1964 rfl ?_
    refine r_if_ne 1981 X dL_law_1966 (by decide) ⟨by omega, by omega⟩ (fun c9 => ?_) (fun c9 => absurd c9 hcd)
    refine r_goto 2541 X dL_law_1981 (by decide) ?_
    refine WW_sub (L' := [(5, iv n5), (0, .ref sb), (1, .ref ox), (2, .ref my), (3, .ref ra), (4, .ref rd)]) [2, 3, 4, 5, 6, 7] rfl ?_
    refine WW_room (show kc + 2 ≤ kc + 100 by omega) (show ks + 12 ≤ ks + 1000 by omega) ?_
    exact kk _ _ _ _ _ ⟨CS_WM hC1 hm1 ho hKW, ⟨_, e19, e29, e39, hi2, lo2, rf2, sq2, hm2, hE2⟩, ho, ⟨_, WM_a hm1 hKW hg1 rfl (Or.inl rfl)⟩, ⟨_, WM_a hm1 hKW hj1 rfl (Or.inr rfl)⟩⟩ hp
theorem case_counts {K : KT} {D : va_G} {z0 : Nat} {h : Hp} {kc ks : Nat} (X : CX K D z0 cL_law 10 RL room_1) {sb N : Nat} {xs : Nat → Int32} (S : SX K z0 sb N xs) {ox my ra rd oo : Nat} {mv : Nat → Nat} {σ : Tg} {r : List Nat} {m : Nat} {od : Nat → Int} (J : JS D h ox my ra rd oo mv σ r m od) (hp : PI r m od) (n5 : Int) (hn5 : 0 ≤ n5 ∧ n5 + 5 ≤ (N : Int)) (hkc : kc + 100 ≤ 601024 ∧ ks + 1000 ≤ 7293034) (kk : ∀ (h' : Hp) (σ' : Tg) (r' : List Nat) (m' : Nat) (od' : Nat → Int), JS D h' ox my ra rd oo mv σ' r' m' od' → PI r' m' od' → WW K D z0 10 h' (kc + 100) (ks + 1000) 2541 [(5, iv n5), (0, .ref sb), (1, .ref ox), (2, .ref my), (3, .ref ra), (4, .ref rd)] []) : WW K D z0 10 h kc ks 1984 [(5, iv n5), (0, .ref sb), (1, .ref ox), (2, .ref my), (3, .ref ra), (4, .ref rd)] [] := by
  obtain ⟨hC, ⟨tc, e1, e2, e3, hi9, lo9, rf9, sq9, hm, hE⟩, ho, ⟨ga, hga⟩, gd, hgd⟩ := J
  have hoo := CS_o hC
  have ht := CS_TVs hC
  obtain ⟨u1, hu1⟩ : ∃ u, u = (xs (n5 + 1).toNat).toInt := ⟨_, rfl⟩
  have u1_ : I32 u1 := by rw [hu1]; exact i32_toI _
  obtain ⟨w, wd⟩ : ∃ z, z = u1 % 65536 := ⟨_, rfl⟩
  have w_ : 0 ≤ w ∧ w ≤ 65535 := by omega
  obtain ⟨p, pd⟩ : ∃ u, u = (xs (n5 + 2).toNat).toInt := ⟨_, rfl⟩
  have p_ : I32 p := by rw [pd]; exact i32_toI _
  show WW K D z0 10 h (kc + 0) (ks + 0) 1984 [(5, iv n5), (0, .ref sb), (1, .ref ox), (2, .ref my), (3, .ref ra), (4, .ref rd)] []
  refine r_aload_n 2 X dL_law_1984 rfl ?_
  refine r_aload_n 1 X dL_law_1985 rfl ?_
  refine r_iload 0 X dL_law_1986 rfl ?_
  refine r_iconst X dL_law_1988 ?_
  refine r_iadd X dL_law_1989 ?_
  refine r_sld (v := u1) X S dL_law_1990 ⟨by omega, by omega⟩ hu1 ?_
  refine r_i2c X dL_law_1991 ?_
  refine WW_e (congrArg (fun z => iv z :: [.ref ox]) (show u1 % 65536 = w from wd.symm)) ?_
  show WW K D z0 10 h (kc + 0) (ks + 0) 1992 [(5, iv n5), (0, .ref sb), (1, .ref ox), (2, .ref my), (3, .ref ra), (4, .ref rd)] [iv w, .ref ox]
  refine r_aload_n 1 X dL_law_1992 rfl ?_
  refine r_iload 0 X dL_law_1993 rfl ?_
  refine r_iconst X dL_law_1995 ?_
  refine r_iadd X dL_law_1996 ?_
  refine r_sld (v := p) X S dL_law_1997 ⟨by omega, by omega⟩ pd ?_
  refine r_aload_n 4 X dL_law_1998 rfl ?_
  refine r_callH X dL_law_1999 kL_232 (c_L_counts (CX_l X) D z0 h hC hp w w_ p p_ hga) [] rfl rfl (Nat.le_of_ble_eq_true rfl) (by decide) (show kc + 2 ≤ 601024 ∧ ks + 12 ≤ 7293034 by omega) (fun w9 h1 hw9 => ?_)
  obtain ⟨rfl, hcdb, hA1, hB1, hKA⟩ := hw9
  have hm1 := Mz_fr hm hKA ho ⟨_, hoo⟩ hga rfl (Or.inl rfl)
  have hj1 := KA_d hKA hoo hga hgd
  show WW K D z0 10 h1 (kc + 2) (ks + 12) 2002 [(5, iv n5), (0, .ref sb), (1, .ref ox), (2, .ref my), (3, .ref ra), (4, .ref rd)] [iv (cdCn w p)]
  refine r_istore (L' := [(6, iv (cdCn w p)), (5, iv n5), (0, .ref sb), (1, .ref ox), (2, .ref my), (3, .ref ra), (4, .ref rd)]) X dL_law_2002 (by decide) rfl ?_
  refine r_aload_n 4 X dL_law_2004 rfl ?_
  refine r_aload_n 2 X dL_law_2005 rfl ?_
  refine r_iload 1 X dL_law_2006 rfl ?_
  refine r_iconst X dL_law_2008 ?_
  refine r_iadd X dL_law_2009 ?_
  refine r_sld (v := u1) X S dL_law_2010 ⟨by omega, by omega⟩ hu1 ?_
  refine r_i2c X dL_law_2011 ?_
  refine WW_e (congrArg (fun z => iv z :: [.ref my]) (show u1 % 65536 = w from wd.symm)) ?_
  show WW K D z0 10 h1 (kc + 2) (ks + 12) 2012 [(6, iv (cdCn w p)), (5, iv n5), (0, .ref sb), (1, .ref ox), (2, .ref my), (3, .ref ra), (4, .ref rd)] [iv w, .ref my]
  refine r_aload_n 2 X dL_law_2012 rfl ?_
  refine r_iload 1 X dL_law_2013 rfl ?_
  refine r_iconst X dL_law_2015 ?_
  refine r_iadd X dL_law_2016 ?_
  refine r_sld (v := p) X S dL_law_2017 ⟨by omega, by omega⟩ pd ?_
  refine r_callV X dL_law_2018 kL_234 hm1.1 (c_X7_counts (CX_l X) D z0 h1 hm1 ht w p w_ p_) [] rfl rfl (Nat.le_of_ble_eq_true rfl) (by decide) (show kc + 2 ≤ 601024 ∧ ks + 12 ≤ 7293034 by omega) (fun _ _ z => z.elim) (fun w8 h2 hw8 => ?_)
  obtain ⟨hM1, hM2, hKW⟩ := MO_MW hE hw8
  by_cases hcd : cdCn w p = 0
  · obtain ⟨rfl, e19, e29, e39, hi2, lo2, rf2, sq2, hm2, hE2⟩ := hM1 hcd
    obtain ⟨hC1, g1, hg1, hgE⟩ := hA1 hcd
    have ht2 := CS_TVs hC1
    show WW K D z0 10 h2 (kc + 2) (ks + 12) 2021 [(6, iv (cdCn w p)), (5, iv n5), (0, .ref sb), (1, .ref ox), (2, .ref my), (3, .ref ra), (4, .ref rd)] [iv (vCn w p)]
    have hg2 := WM_a hm1 hKW hg1 rfl (Or.inl rfl)
    refine r_istore (L' := [(7, iv (vCn w p)), (6, iv (cdCn w p)), (5, iv n5), (0, .ref sb), (1, .ref ox), (2, .ref my), (3, .ref ra), (4, .ref rd)]) X dL_law_2021 (by decide) rfl ?_
    refine r_aload_n 5 X dL_law_2023 rfl ?_
    refine r_callV_v X dL_law_2024 kL_141 hm2.1 (c_X7_thrown (CX_l X) D z0 h2 hm2 ht2) [] rfl rfl (Nat.le_of_ble_eq_true rfl) (by decide) rfl rfl (show kc + 2 ≤ 601024 ∧ ks + 12 ≤ 7293034 by omega) ?_
    show WW K D z0 10 h2 (kc + 2) (ks + 12) 2027 [(7, iv (vCn w p)), (6, iv (cdCn w p)), (5, iv n5), (0, .ref sb), (1, .ref ox), (2, .ref my), (3, .ref ra), (4, .ref rd)] [iv (cdCn w p)]
    refine r_iload 1 X dL_law_2027 rfl ?_
    refine r_icmp_eqS 2034 X dL_law_2029 (by decide) ?_
    refine r_iload 1 X dL_law_2034 rfl ?_
    refine r_if_ne 2051 X dL_law_2036 (by decide) ⟨by omega, by omega⟩ (fun c9 => absurd hcd c9) (fun c9 => ?_)
    refine r_aload_n 6 X dL_law_2039 rfl ?_
    refine r_iconst X dL_law_2040 ?_
    refine r_laload X dL_law_2041 hg2 ⟨by omega, by omega⟩ (by decide) ?_
    refine WW_e (congrArg (fun z => z :: []) (show jv (g1 (0 : Int).toNat) = jv (w32 (vCn w p)) from hgE)) ?_
    show WW K D z0 10 h2 (kc + 2) (ks + 12) 2042 [(7, iv (vCn w p)), (6, iv (cdCn w p)), (5, iv n5), (0, .ref sb), (1, .ref ox), (2, .ref my), (3, .ref ra), (4, .ref rd)] [jv (w32 (vCn w p))]
    refine r_iload 0 X dL_law_2042 rfl ?_
    refine r_i2lS X dL_law_2044 ?_
    refine r_lcmp_eqS 2051 X dL_law_2045 dL_law_2046 (by decide) ?_
    refine r_goto 2541 X dL_law_2051 (by decide) ?_
    refine WW_sub (L' := [(5, iv n5), (0, .ref sb), (1, .ref ox), (2, .ref my), (3, .ref ra), (4, .ref rd)]) [2, 3, 4, 5, 6, 7] rfl ?_
    refine WW_room (show kc + 2 ≤ kc + 100 by omega) (show ks + 12 ≤ ks + 1000 by omega) ?_
    exact kk _ _ _ _ _ ⟨CS_WM hC1 hm1 ho hKW, ⟨_, e19, e29, e39, hi2, lo2, rf2, sq2, hm2, hE2⟩, ho, ⟨_, WM_a hm1 hKW hg1 rfl (Or.inl rfl)⟩, ⟨_, WM_a hm1 hKW hj1 rfl (Or.inr rfl)⟩⟩ hp
  · obtain ⟨rfl, e19, e29, e39, hi2, lo2, rf2, sq2, hm2, hE2⟩ := hM2 hcd
    obtain ⟨hC1, g1, hg1⟩ := hB1 hcd
    have ht2 := CS_TVs hC1
    show WW K D z0 10 h2 (kc + 2) (ks + 12) 2021 [(6, iv (cdCn w p)), (5, iv n5), (0, .ref sb), (1, .ref ox), (2, .ref my), (3, .ref ra), (4, .ref rd)] [iv 0]
    have hg2 := WM_a hm1 hKW hg1 rfl (Or.inl rfl)
    refine r_istore (L' := [(7, iv 0), (6, iv (cdCn w p)), (5, iv n5), (0, .ref sb), (1, .ref ox), (2, .ref my), (3, .ref ra), (4, .ref rd)]) X dL_law_2021 (by decide) rfl ?_
    refine r_aload_n 5 X dL_law_2023 rfl ?_
    refine r_callV_v X dL_law_2024 kL_141 hm2.1 (c_X7_thrown (CX_l X) D z0 h2 hm2 ht2) [] rfl rfl (Nat.le_of_ble_eq_true rfl) (by decide) rfl rfl (show kc + 2 ≤ 601024 ∧ ks + 12 ≤ 7293034 by omega) ?_
    show WW K D z0 10 h2 (kc + 2) (ks + 12) 2027 [(7, iv 0), (6, iv (cdCn w p)), (5, iv n5), (0, .ref sb), (1, .ref ox), (2, .ref my), (3, .ref ra), (4, .ref rd)] [iv (cdCn w p)]
    refine r_iload 1 X dL_law_2027 rfl ?_
    refine r_icmp_eqS 2034 X dL_law_2029 (by decide) ?_
    refine r_iload 1 X dL_law_2034 rfl ?_
    refine r_if_ne 2051 X dL_law_2036 (by decide) ⟨by omega, by omega⟩ (fun c9 => ?_) (fun c9 => absurd c9 hcd)
    refine r_goto 2541 X dL_law_2051 (by decide) ?_
    refine WW_sub (L' := [(5, iv n5), (0, .ref sb), (1, .ref ox), (2, .ref my), (3, .ref ra), (4, .ref rd)]) [2, 3, 4, 5, 6, 7] rfl ?_
    refine WW_room (show kc + 2 ≤ kc + 100 by omega) (show ks + 12 ≤ ks + 1000 by omega) ?_
    exact kk _ _ _ _ _ ⟨CS_WM hC1 hm1 ho hKW, ⟨_, e19, e29, e39, hi2, lo2, rf2, sq2, hm2, hE2⟩, ho, ⟨_, WM_a hm1 hKW hg1 rfl (Or.inl rfl)⟩, ⟨_, WM_a hm1 hKW hj1 rfl (Or.inr rfl)⟩⟩ hp
theorem case_sort {K : KT} {D : va_G} {z0 : Nat} {h : Hp} {kc ks : Nat} (X : CX K D z0 cL_law 10 RL room_1) {sb N : Nat} {xs : Nat → Int32} (S : SX K z0 sb N xs) {ox my ra rd oo : Nat} {mv : Nat → Nat} {σ : Tg} {r : List Nat} {m : Nat} {od : Nat → Int} (J : JS D h ox my ra rd oo mv σ r m od) (hp : PI r m od) (n5 : Int) (hn5 : 0 ≤ n5 ∧ n5 + 5 ≤ (N : Int)) (hkc : kc + 100 ≤ 601024 ∧ ks + 1000 ≤ 7293034) (kk : ∀ (h' : Hp) (σ' : Tg) (r' : List Nat) (m' : Nat) (od' : Nat → Int), JS D h' ox my ra rd oo mv σ' r' m' od' → PI r' m' od' → WW K D z0 10 h' (kc + 100) (ks + 1000) 2541 [(5, iv n5), (0, .ref sb), (1, .ref ox), (2, .ref my), (3, .ref ra), (4, .ref rd)] []) : WW K D z0 10 h kc ks 2054 [(5, iv n5), (0, .ref sb), (1, .ref ox), (2, .ref my), (3, .ref ra), (4, .ref rd)] [] := by
  obtain ⟨hC, ⟨tc, e1, e2, e3, hi9, lo9, rf9, sq9, hm, hE⟩, ho, ⟨ga, hga⟩, gd, hgd⟩ := J
  have hoo := CS_o hC
  have ht := CS_TVs hC
  obtain ⟨u1, hu1⟩ : ∃ u, u = (xs (n5 + 1).toNat).toInt := ⟨_, rfl⟩
  have u1_ : I32 u1 := by rw [hu1]; exact i32_toI _
  obtain ⟨w, wd⟩ : ∃ z, z = u1 % 65536 := ⟨_, rfl⟩
  have w_ : 0 ≤ w ∧ w ≤ 65535 := by omega
  show WW K D z0 10 h (kc + 0) (ks + 0) 2054 [(5, iv n5), (0, .ref sb), (1, .ref ox), (2, .ref my), (3, .ref ra), (4, .ref rd)] []
  refine r_aload_n 2 X dL_law_2054 rfl ?_
  refine r_aload_n 1 X dL_law_2055 rfl ?_
  refine r_iload 0 X dL_law_2056 rfl ?_
  refine r_iconst X dL_law_2058 ?_
  refine r_iadd X dL_law_2059 ?_
  refine r_sld (v := u1) X S dL_law_2060 ⟨by omega, by omega⟩ hu1 ?_
  refine r_i2c X dL_law_2061 ?_
  refine WW_e (congrArg (fun z => iv z :: [.ref ox]) (show u1 % 65536 = w from wd.symm)) ?_
  show WW K D z0 10 h (kc + 0) (ks + 0) 2062 [(5, iv n5), (0, .ref sb), (1, .ref ox), (2, .ref my), (3, .ref ra), (4, .ref rd)] [iv w, .ref ox]
  refine r_aload_n 4 X dL_law_2062 rfl ?_
  refine r_callH X dL_law_2063 kL_235 (c_L_sort (CX_l X) D z0 h hC hp w w_ hga) [] rfl rfl (Nat.le_of_ble_eq_true rfl) (by decide) (show kc + 1 ≤ 601024 ∧ ks + 6 ≤ 7293034 by omega) (fun w9 h1 hw9 => ?_)
  obtain ⟨rfl, hcdb, hA1, hB1, hKA⟩ := hw9
  have hm1 := Mz_fr hm hKA ho ⟨_, hoo⟩ hga rfl (Or.inl rfl)
  have hj1 := KA_d hKA hoo hga hgd
  show WW K D z0 10 h1 (kc + 1) (ks + 6) 2066 [(5, iv n5), (0, .ref sb), (1, .ref ox), (2, .ref my), (3, .ref ra), (4, .ref rd)] [iv (cdBy w)]
  refine r_istore (L' := [(6, iv (cdBy w)), (5, iv n5), (0, .ref sb), (1, .ref ox), (2, .ref my), (3, .ref ra), (4, .ref rd)]) X dL_law_2066 (by decide) rfl ?_
  refine r_aload_n 4 X dL_law_2068 rfl ?_
  refine r_aload_n 2 X dL_law_2069 rfl ?_
  refine r_iload 1 X dL_law_2070 rfl ?_
  refine r_iconst X dL_law_2072 ?_
  refine r_iadd X dL_law_2073 ?_
  refine r_sld (v := u1) X S dL_law_2074 ⟨by omega, by omega⟩ hu1 ?_
  refine r_i2c X dL_law_2075 ?_
  refine WW_e (congrArg (fun z => iv z :: [.ref my]) (show u1 % 65536 = w from wd.symm)) ?_
  show WW K D z0 10 h1 (kc + 1) (ks + 6) 2076 [(6, iv (cdBy w)), (5, iv n5), (0, .ref sb), (1, .ref ox), (2, .ref my), (3, .ref ra), (4, .ref rd)] [iv w, .ref my]
  refine r_callV X dL_law_2076 kL_238 hm1.1 (c_X7_sort (CX_l X) D z0 h1 hm1 ht w w_) [] rfl rfl (Nat.le_of_ble_eq_true rfl) (by decide) (show kc + 1 ≤ 601024 ∧ ks + 6 ≤ 7293034 by omega) (fun _ _ z => z.elim) (fun w8 h2 hw8 => ?_)
  obtain ⟨hM1, hM2, hKW⟩ := SO_MW hE hw8
  by_cases hcd : cdBy w = 0
  · obtain ⟨rfl, e19, e29, e39, hi2, lo2, rf2, sq2, hm2, hE2⟩ := hM1 hcd
    obtain ⟨hC1, g1, hg1, hgE⟩ := hA1 hcd
    have ht2 := CS_TVs hC1
    show WW K D z0 10 h2 (kc + 1) (ks + 6) 2079 [(6, iv (cdBy w)), (5, iv n5), (0, .ref sb), (1, .ref ox), (2, .ref my), (3, .ref ra), (4, .ref rd)] [iv ((srt σ w od 16).1 : Int)]
    have hg2 := WM_a hm1 hKW hg1 rfl (Or.inl rfl)
    refine r_istore (L' := [(7, iv ((srt σ w od 16).1 : Int)), (6, iv (cdBy w)), (5, iv n5), (0, .ref sb), (1, .ref ox), (2, .ref my), (3, .ref ra), (4, .ref rd)]) X dL_law_2079 (by decide) rfl ?_
    refine r_aload_n 5 X dL_law_2081 rfl ?_
    refine r_callV_v X dL_law_2082 kL_141 hm2.1 (c_X7_thrown (CX_l X) D z0 h2 hm2 ht2) [] rfl rfl (Nat.le_of_ble_eq_true rfl) (by decide) rfl rfl (show kc + 1 ≤ 601024 ∧ ks + 6 ≤ 7293034 by omega) ?_
    show WW K D z0 10 h2 (kc + 1) (ks + 6) 2085 [(7, iv ((srt σ w od 16).1 : Int)), (6, iv (cdBy w)), (5, iv n5), (0, .ref sb), (1, .ref ox), (2, .ref my), (3, .ref ra), (4, .ref rd)] [iv (cdBy w)]
    refine r_iload 1 X dL_law_2085 rfl ?_
    refine r_icmp_eqS 2092 X dL_law_2087 (by decide) ?_
    refine r_iload 1 X dL_law_2092 rfl ?_
    refine r_if_ne 2109 X dL_law_2094 (by decide) ⟨by omega, by omega⟩ (fun c9 => absurd hcd c9) (fun c9 => ?_)
    refine r_aload_n 6 X dL_law_2097 rfl ?_
    refine r_iconst X dL_law_2098 ?_
    refine r_laload X dL_law_2099 hg2 ⟨by omega, by omega⟩ (by decide) ?_
    refine WW_e (congrArg (fun z => z :: []) (show jv (g1 (0 : Int).toNat) = jv (w32 (((srt σ w od 16).1 : Int))) from hgE)) ?_
    show WW K D z0 10 h2 (kc + 1) (ks + 6) 2100 [(7, iv ((srt σ w od 16).1 : Int)), (6, iv (cdBy w)), (5, iv n5), (0, .ref sb), (1, .ref ox), (2, .ref my), (3, .ref ra), (4, .ref rd)] [jv (w32 (((srt σ w od 16).1 : Int)))]
    refine r_iload 0 X dL_law_2100 rfl ?_
    refine r_i2lS X dL_law_2102 ?_
    refine r_lcmp_eqS 2109 X dL_law_2103 dL_law_2104 (by decide) ?_
    refine r_goto 2541 X dL_law_2109 (by decide) ?_
    refine WW_sub (L' := [(5, iv n5), (0, .ref sb), (1, .ref ox), (2, .ref my), (3, .ref ra), (4, .ref rd)]) [2, 3, 4, 5, 6, 7] rfl ?_
    refine WW_room (show kc + 1 ≤ kc + 100 by omega) (show ks + 6 ≤ ks + 1000 by omega) ?_
    exact kk _ _ _ _ _ ⟨CS_WM hC1 hm1 ho hKW, ⟨_, e19, e29, e39, hi2, lo2, rf2, sq2, hm2, hE2⟩, ho, ⟨_, WM_a hm1 hKW hg1 rfl (Or.inl rfl)⟩, ⟨_, WM_a hm1 hKW hj1 rfl (Or.inr rfl)⟩⟩ (PI_S hp w)
  · obtain ⟨rfl, e19, e29, e39, hi2, lo2, rf2, sq2, hm2, hE2⟩ := hM2 hcd
    obtain ⟨hC1, g1, hg1⟩ := hB1 hcd
    have ht2 := CS_TVs hC1
    show WW K D z0 10 h2 (kc + 1) (ks + 6) 2079 [(6, iv (cdBy w)), (5, iv n5), (0, .ref sb), (1, .ref ox), (2, .ref my), (3, .ref ra), (4, .ref rd)] [iv 0]
    have hg2 := WM_a hm1 hKW hg1 rfl (Or.inl rfl)
    refine r_istore (L' := [(7, iv 0), (6, iv (cdBy w)), (5, iv n5), (0, .ref sb), (1, .ref ox), (2, .ref my), (3, .ref ra), (4, .ref rd)]) X dL_law_2079 (by decide) rfl ?_
    refine r_aload_n 5 X dL_law_2081 rfl ?_
    refine r_callV_v X dL_law_2082 kL_141 hm2.1 (c_X7_thrown (CX_l X) D z0 h2 hm2 ht2) [] rfl rfl (Nat.le_of_ble_eq_true rfl) (by decide) rfl rfl (show kc + 1 ≤ 601024 ∧ ks + 6 ≤ 7293034 by omega) ?_
    show WW K D z0 10 h2 (kc + 1) (ks + 6) 2085 [(7, iv 0), (6, iv (cdBy w)), (5, iv n5), (0, .ref sb), (1, .ref ox), (2, .ref my), (3, .ref ra), (4, .ref rd)] [iv (cdBy w)]
    refine r_iload 1 X dL_law_2085 rfl ?_
    refine r_icmp_eqS 2092 X dL_law_2087 (by decide) ?_
    refine r_iload 1 X dL_law_2092 rfl ?_
    refine r_if_ne 2109 X dL_law_2094 (by decide) ⟨by omega, by omega⟩ (fun c9 => ?_) (fun c9 => absurd c9 hcd)
    refine r_goto 2541 X dL_law_2109 (by decide) ?_
    refine WW_sub (L' := [(5, iv n5), (0, .ref sb), (1, .ref ox), (2, .ref my), (3, .ref ra), (4, .ref rd)]) [2, 3, 4, 5, 6, 7] rfl ?_
    refine WW_room (show kc + 1 ≤ kc + 100 by omega) (show ks + 6 ≤ ks + 1000 by omega) ?_
    exact kk _ _ _ _ _ ⟨CS_WM hC1 hm1 ho hKW, ⟨_, e19, e29, e39, hi2, lo2, rf2, sq2, hm2, hE2⟩, ho, ⟨_, WM_a hm1 hKW hg1 rfl (Or.inl rfl)⟩, ⟨_, WM_a hm1 hKW hj1 rfl (Or.inr rfl)⟩⟩ hp
theorem case_sorted {K : KT} {D : va_G} {z0 : Nat} {h : Hp} {kc ks : Nat} (X : CX K D z0 cL_law 10 RL room_1) {sb N : Nat} {xs : Nat → Int32} (S : SX K z0 sb N xs) {ox my ra rd oo : Nat} {mv : Nat → Nat} {σ : Tg} {r : List Nat} {m : Nat} {od : Nat → Int} (J : JS D h ox my ra rd oo mv σ r m od) (hp : PI r m od) (n5 : Int) (hn5 : 0 ≤ n5 ∧ n5 + 5 ≤ (N : Int)) (hkc : kc + 100 ≤ 601024 ∧ ks + 1000 ≤ 7293034) (kk : ∀ (h' : Hp) (σ' : Tg) (r' : List Nat) (m' : Nat) (od' : Nat → Int), JS D h' ox my ra rd oo mv σ' r' m' od' → PI r' m' od' → WW K D z0 10 h' (kc + 100) (ks + 1000) 2541 [(5, iv n5), (0, .ref sb), (1, .ref ox), (2, .ref my), (3, .ref ra), (4, .ref rd)] []) : WW K D z0 10 h kc ks 2112 [(5, iv n5), (0, .ref sb), (1, .ref ox), (2, .ref my), (3, .ref ra), (4, .ref rd)] [] := by
  obtain ⟨hC, ⟨tc, e1, e2, e3, hi9, lo9, rf9, sq9, hm, hE⟩, ho, ⟨ga, hga⟩, gd, hgd⟩ := J
  have hoo := CS_o hC
  have ht := CS_TVs hC
  obtain ⟨w, wd⟩ : ∃ u, u = (xs (n5 + 1).toNat).toInt := ⟨_, rfl⟩
  have w_ : I32 w := by rw [wd]; exact i32_toI _
  show WW K D z0 10 h (kc + 0) (ks + 0) 2112 [(5, iv n5), (0, .ref sb), (1, .ref ox), (2, .ref my), (3, .ref ra), (4, .ref rd)] []
  refine r_aload_n 2 X dL_law_2112 rfl ?_
  refine r_aload_n 1 X dL_law_2113 rfl ?_
  refine r_iload 0 X dL_law_2114 rfl ?_
  refine r_iconst X dL_law_2116 ?_
  refine r_iadd X dL_law_2117 ?_
  refine r_sld (v := w) X S dL_law_2118 ⟨by omega, by omega⟩ wd ?_
  refine r_aload_n 4 X dL_law_2119 rfl ?_
  refine r_callH X dL_law_2120 kL_239 (c_L_sorted (CX_l X) D z0 h hC hp w w_ hga) [] rfl rfl (Nat.le_of_ble_eq_true rfl) (by decide) (show kc + 1 ≤ 601024 ∧ ks + 6 ≤ 7293034 by omega) (fun w9 h1 hw9 => ?_)
  obtain ⟨rfl, hcdb, hA1, hB1, hKA⟩ := hw9
  have hm1 := Mz_fr hm hKA ho ⟨_, hoo⟩ hga rfl (Or.inl rfl)
  have hj1 := KA_d hKA hoo hga hgd
  show WW K D z0 10 h1 (kc + 1) (ks + 6) 2123 [(5, iv n5), (0, .ref sb), (1, .ref ox), (2, .ref my), (3, .ref ra), (4, .ref rd)] [iv (cdSo (m : Int) w)]
  refine r_istore (L' := [(6, iv (cdSo (m : Int) w)), (5, iv n5), (0, .ref sb), (1, .ref ox), (2, .ref my), (3, .ref ra), (4, .ref rd)]) X dL_law_2123 (by decide) rfl ?_
  refine r_aload_n 4 X dL_law_2125 rfl ?_
  refine r_aload_n 2 X dL_law_2126 rfl ?_
  refine r_iload 1 X dL_law_2127 rfl ?_
  refine r_iconst X dL_law_2129 ?_
  refine r_iadd X dL_law_2130 ?_
  refine r_sld (v := w) X S dL_law_2131 ⟨by omega, by omega⟩ wd ?_
  refine r_callV X dL_law_2132 kL_241 hm1.1 (c_X7_sorted (CX_l X) D z0 h1 hm1 ht w w_ ⟨by omega, by have := hp.2.1; omega⟩) [] rfl rfl (Nat.le_of_ble_eq_true rfl) (by decide) (show kc + 1 ≤ 601024 ∧ ks + 6 ≤ 7293034 by omega) (fun _ _ z => z.elim) (fun w8 h2 hw8 => ?_)
  obtain ⟨hM1, hM2, hKW⟩ := MO_MW hE hw8
  by_cases hcd : cdSo (m : Int) w = 0
  · obtain ⟨rfl, e19, e29, e39, hi2, lo2, rf2, sq2, hm2, hE2⟩ := hM1 hcd
    obtain ⟨hC1, g1, hg1, hgE⟩ := hA1 hcd
    have ht2 := CS_TVs hC1
    show WW K D z0 10 h2 (kc + 1) (ks + 6) 2135 [(6, iv (cdSo (m : Int) w)), (5, iv n5), (0, .ref sb), (1, .ref ox), (2, .ref my), (3, .ref ra), (4, .ref rd)] [iv (od w.toNat)]
    have hg2 := WM_a hm1 hKW hg1 rfl (Or.inl rfl)
    refine r_istore (L' := [(7, iv (od w.toNat)), (6, iv (cdSo (m : Int) w)), (5, iv n5), (0, .ref sb), (1, .ref ox), (2, .ref my), (3, .ref ra), (4, .ref rd)]) X dL_law_2135 (by decide) rfl ?_
    refine r_aload_n 5 X dL_law_2137 rfl ?_
    refine r_callV_v X dL_law_2138 kL_141 hm2.1 (c_X7_thrown (CX_l X) D z0 h2 hm2 ht2) [] rfl rfl (Nat.le_of_ble_eq_true rfl) (by decide) rfl rfl (show kc + 1 ≤ 601024 ∧ ks + 6 ≤ 7293034 by omega) ?_
    show WW K D z0 10 h2 (kc + 1) (ks + 6) 2141 [(7, iv (od w.toNat)), (6, iv (cdSo (m : Int) w)), (5, iv n5), (0, .ref sb), (1, .ref ox), (2, .ref my), (3, .ref ra), (4, .ref rd)] [iv (cdSo (m : Int) w)]
    refine r_iload 1 X dL_law_2141 rfl ?_
    refine r_icmp_eqS 2148 X dL_law_2143 (by decide) ?_
    refine r_iload 1 X dL_law_2148 rfl ?_
    refine r_if_ne 2165 X dL_law_2150 (by decide) ⟨by omega, by omega⟩ (fun c9 => absurd hcd c9) (fun c9 => ?_)
    refine r_aload_n 6 X dL_law_2153 rfl ?_
    refine r_iconst X dL_law_2154 ?_
    refine r_laload X dL_law_2155 hg2 ⟨by omega, by omega⟩ (by decide) ?_
    refine WW_e (congrArg (fun z => z :: []) (show jv (g1 (0 : Int).toNat) = jv (w32 (od w.toNat)) from hgE)) ?_
    show WW K D z0 10 h2 (kc + 1) (ks + 6) 2156 [(7, iv (od w.toNat)), (6, iv (cdSo (m : Int) w)), (5, iv n5), (0, .ref sb), (1, .ref ox), (2, .ref my), (3, .ref ra), (4, .ref rd)] [jv (w32 (od w.toNat))]
    refine r_iload 0 X dL_law_2156 rfl ?_
    refine r_i2lS X dL_law_2158 ?_
    refine r_lcmp_eqS 2165 X dL_law_2159 dL_law_2160 (by decide) ?_
    refine r_goto 2541 X dL_law_2165 (by decide) ?_
    refine WW_sub (L' := [(5, iv n5), (0, .ref sb), (1, .ref ox), (2, .ref my), (3, .ref ra), (4, .ref rd)]) [2, 3, 4, 5, 6, 7] rfl ?_
    refine WW_room (show kc + 1 ≤ kc + 100 by omega) (show ks + 6 ≤ ks + 1000 by omega) ?_
    exact kk _ _ _ _ _ ⟨CS_WM hC1 hm1 ho hKW, ⟨_, e19, e29, e39, hi2, lo2, rf2, sq2, hm2, hE2⟩, ho, ⟨_, WM_a hm1 hKW hg1 rfl (Or.inl rfl)⟩, ⟨_, WM_a hm1 hKW hj1 rfl (Or.inr rfl)⟩⟩ hp
  · obtain ⟨rfl, e19, e29, e39, hi2, lo2, rf2, sq2, hm2, hE2⟩ := hM2 hcd
    obtain ⟨hC1, g1, hg1⟩ := hB1 hcd
    have ht2 := CS_TVs hC1
    show WW K D z0 10 h2 (kc + 1) (ks + 6) 2135 [(6, iv (cdSo (m : Int) w)), (5, iv n5), (0, .ref sb), (1, .ref ox), (2, .ref my), (3, .ref ra), (4, .ref rd)] [iv 0]
    have hg2 := WM_a hm1 hKW hg1 rfl (Or.inl rfl)
    refine r_istore (L' := [(7, iv 0), (6, iv (cdSo (m : Int) w)), (5, iv n5), (0, .ref sb), (1, .ref ox), (2, .ref my), (3, .ref ra), (4, .ref rd)]) X dL_law_2135 (by decide) rfl ?_
    refine r_aload_n 5 X dL_law_2137 rfl ?_
    refine r_callV_v X dL_law_2138 kL_141 hm2.1 (c_X7_thrown (CX_l X) D z0 h2 hm2 ht2) [] rfl rfl (Nat.le_of_ble_eq_true rfl) (by decide) rfl rfl (show kc + 1 ≤ 601024 ∧ ks + 6 ≤ 7293034 by omega) ?_
    show WW K D z0 10 h2 (kc + 1) (ks + 6) 2141 [(7, iv 0), (6, iv (cdSo (m : Int) w)), (5, iv n5), (0, .ref sb), (1, .ref ox), (2, .ref my), (3, .ref ra), (4, .ref rd)] [iv (cdSo (m : Int) w)]
    refine r_iload 1 X dL_law_2141 rfl ?_
    refine r_icmp_eqS 2148 X dL_law_2143 (by decide) ?_
    refine r_iload 1 X dL_law_2148 rfl ?_
    refine r_if_ne 2165 X dL_law_2150 (by decide) ⟨by omega, by omega⟩ (fun c9 => ?_) (fun c9 => absurd c9 hcd)
    refine r_goto 2541 X dL_law_2165 (by decide) ?_
    refine WW_sub (L' := [(5, iv n5), (0, .ref sb), (1, .ref ox), (2, .ref my), (3, .ref ra), (4, .ref rd)]) [2, 3, 4, 5, 6, 7] rfl ?_
    refine WW_room (show kc + 1 ≤ kc + 100 by omega) (show ks + 6 ≤ ks + 1000 by omega) ?_
    exact kk _ _ _ _ _ ⟨CS_WM hC1 hm1 ho hKW, ⟨_, e19, e29, e39, hi2, lo2, rf2, sq2, hm2, hE2⟩, ho, ⟨_, WM_a hm1 hKW hg1 rfl (Or.inl rfl)⟩, ⟨_, WM_a hm1 hKW hj1 rfl (Or.inr rfl)⟩⟩ hp
theorem case_checksum {K : KT} {D : va_G} {z0 : Nat} {h : Hp} {kc ks : Nat} (X : CX K D z0 cL_law 10 RL room_1) {sb N : Nat} {xs : Nat → Int32} (S : SX K z0 sb N xs) {ox my ra rd oo : Nat} {mv : Nat → Nat} {σ : Tg} {r : List Nat} {m : Nat} {od : Nat → Int} (J : JS D h ox my ra rd oo mv σ r m od) (hp : PI r m od) (n5 : Int) (hn5 : 0 ≤ n5 ∧ n5 + 5 ≤ (N : Int)) (hkc : kc + 100 ≤ 601024 ∧ ks + 1000 ≤ 7293034) (kk : ∀ (h' : Hp) (σ' : Tg) (r' : List Nat) (m' : Nat) (od' : Nat → Int), JS D h' ox my ra rd oo mv σ' r' m' od' → PI r' m' od' → WW K D z0 10 h' (kc + 100) (ks + 1000) 2541 [(5, iv n5), (0, .ref sb), (1, .ref ox), (2, .ref my), (3, .ref ra), (4, .ref rd)] []) : WW K D z0 10 h kc ks 2168 [(5, iv n5), (0, .ref sb), (1, .ref ox), (2, .ref my), (3, .ref ra), (4, .ref rd)] [] := by
  obtain ⟨hC, ⟨tc, e1, e2, e3, hi9, lo9, rf9, sq9, hm, hE⟩, ho, ⟨ga, hga⟩, gd, hgd⟩ := J
  have hoo := CS_o hC
  have ht := CS_TVs hC
  obtain ⟨fs9, hx9⟩ := CS_x' hC
  show WW K D z0 10 h (kc + 0) (ks + 0) 2168 [(5, iv n5), (0, .ref sb), (1, .ref ox), (2, .ref my), (3, .ref ra), (4, .ref rd)] []
  refine r_aload_n 2 X dL_law_2168 rfl ?_
  refine r_callV_v X dL_law_2169 kL_242 hx9 (c6_checksum (CX_l X) D z0 h hC hp) [] rfl rfl (Nat.le_of_ble_eq_true rfl) (by decide) rfl rfl (show kc + 0 ≤ 601024 ∧ ks + 0 ≤ 7293034 by omega) ?_
  show WW K D z0 10 h (kc + 0) (ks + 0) 2172 [(5, iv n5), (0, .ref sb), (1, .ref ox), (2, .ref my), (3, .ref ra), (4, .ref rd)] [jv (sO od (sL r (s16 σ 16) r.length) m)]
  refine r_aload_n 3 X dL_law_2172 rfl ?_
  refine r_callV X dL_law_2173 kL_246 hm.1 (c_X7_checksum (CX_l X) D z0 h hm ht r rfl hp.1.1 hE hp.1.2 m rfl hp.2.1 hp.2.2) [jv (sO od (sL r (s16 σ 16) r.length) m)] rfl rfl (Nat.le_of_ble_eq_true rfl) (by decide) (show kc + 0 ≤ 601024 ∧ ks + 0 ≤ 7293034 by omega) (fun _ _ z => z.elim) (fun w8 h2 hw8 => ?_)
  obtain ⟨rfl, hm2, hKW⟩ := hw8
  show WW K D z0 10 h2 (kc + 0) (ks + 0) 2176 [(5, iv n5), (0, .ref sb), (1, .ref ox), (2, .ref my), (3, .ref ra), (4, .ref rd)] [jv (sO od (sL r (s16 σ 16) r.length) m), jv (sO od (sL r (s16 σ 16) r.length) m)]
  refine r_lcmp_eqS 2541 X dL_law_2176 dL_law_2177 (by decide) ?_
  refine WW_room (show kc + 0 ≤ kc + 100 by omega) (show ks + 0 ≤ ks + 1000 by omega) ?_
  exact kk _ _ _ _ _ ⟨CS_WM hC hm ho hKW, ⟨_, e1, e2, e3, _, _, _, _, hm2, hE⟩, ho, ⟨_, WM_a hm hKW hga rfl (Or.inl rfl)⟩, ⟨_, WM_a hm hKW hgd rfl (Or.inr rfl)⟩⟩ hp
theorem case_isTrue {K : KT} {D : va_G} {z0 : Nat} {h : Hp} {kc ks : Nat} (X : CX K D z0 cL_law 10 RL room_1) {sb N : Nat} {xs : Nat → Int32} (S : SX K z0 sb N xs) {ox my ra rd oo : Nat} {mv : Nat → Nat} {σ : Tg} {r : List Nat} {m : Nat} {od : Nat → Int} (J : JS D h ox my ra rd oo mv σ r m od) (hp : PI r m od) (n5 : Int) (hn5 : 0 ≤ n5 ∧ n5 + 5 ≤ (N : Int)) (hkc : kc + 100 ≤ 601024 ∧ ks + 1000 ≤ 7293034) (kk : ∀ (h' : Hp) (σ' : Tg) (r' : List Nat) (m' : Nat) (od' : Nat → Int), JS D h' ox my ra rd oo mv σ' r' m' od' → PI r' m' od' → WW K D z0 10 h' (kc + 100) (ks + 1000) 2541 [(5, iv n5), (0, .ref sb), (1, .ref ox), (2, .ref my), (3, .ref ra), (4, .ref rd)] []) : WW K D z0 10 h kc ks 2182 [(5, iv n5), (0, .ref sb), (1, .ref ox), (2, .ref my), (3, .ref ra), (4, .ref rd)] [] := by
  obtain ⟨hC, ⟨tc, e1, e2, e3, hi9, lo9, rf9, sq9, hm, hE⟩, ho, ⟨ga, hga⟩, gd, hgd⟩ := J
  have hoo := CS_o hC
  have ht := CS_TVs hC
  obtain ⟨p, pd⟩ : ∃ u, u = (xs (n5 + 1).toNat).toInt := ⟨_, rfl⟩
  have p_ : I32 p := by rw [pd]; exact i32_toI _
  show WW K D z0 10 h (kc + 0) (ks + 0) 2182 [(5, iv n5), (0, .ref sb), (1, .ref ox), (2, .ref my), (3, .ref ra), (4, .ref rd)] []
  refine r_aload_n 2 X dL_law_2182 rfl ?_
  refine r_aload_n 1 X dL_law_2183 rfl ?_
  refine r_iload 0 X dL_law_2184 rfl ?_
  refine r_iconst X dL_law_2186 ?_
  refine r_iadd X dL_law_2187 ?_
  refine r_sld (v := p) X S dL_law_2188 ⟨by omega, by omega⟩ pd ?_
  refine r_aload_n 4 X dL_law_2189 rfl ?_
  refine r_callH X dL_law_2190 kL_247 (c_L_isTrue (CX_l X) D z0 h hC hp p p_ hga) [] rfl rfl (Nat.le_of_ble_eq_true rfl) (by decide) (show kc + 2 ≤ 601024 ∧ ks + 12 ≤ 7293034 by omega) (fun w9 h1 hw9 => ?_)
  obtain ⟨rfl, hcdb, hA1, hB1, hKA⟩ := hw9
  have hm1 := Mz_fr hm hKA ho ⟨_, hoo⟩ hga rfl (Or.inl rfl)
  have hj1 := KA_d hKA hoo hga hgd
  show WW K D z0 10 h1 (kc + 2) (ks + 12) 2193 [(5, iv n5), (0, .ref sb), (1, .ref ox), (2, .ref my), (3, .ref ra), (4, .ref rd)] [iv (ms σ p 2)]
  refine r_istore (L' := [(6, iv (ms σ p 2)), (5, iv n5), (0, .ref sb), (1, .ref ox), (2, .ref my), (3, .ref ra), (4, .ref rd)]) X dL_law_2193 (by decide) rfl ?_
  refine r_aload_n 4 X dL_law_2195 rfl ?_
  refine r_aload_n 2 X dL_law_2196 rfl ?_
  refine r_iload 1 X dL_law_2197 rfl ?_
  refine r_iconst X dL_law_2199 ?_
  refine r_iadd X dL_law_2200 ?_
  refine r_sld (v := p) X S dL_law_2201 ⟨by omega, by omega⟩ pd ?_
  refine r_callV X dL_law_2202 kL_249 hm1.1 (c_X7_isTrue (CX_l X) D z0 h1 hm1 ht p p_) [] rfl rfl (Nat.le_of_ble_eq_true rfl) (by decide) (show kc + 2 ≤ 601024 ∧ ks + 12 ≤ 7293034 by omega) (fun _ _ z => z.elim) (fun w8 h2 hw8 => ?_)
  obtain ⟨hM1, hM2, hKW⟩ := MO_MW hE hw8
  by_cases hcd : ms σ p 2 = 0
  · obtain ⟨rfl, e19, e29, e39, hi2, lo2, rf2, sq2, hm2, hE2⟩ := hM1 hcd
    obtain ⟨hC1, g1, hg1, hgE⟩ := hA1 hcd
    have ht2 := CS_TVs hC1
    show WW K D z0 10 h2 (kc + 2) (ks + 12) 2205 [(6, iv (ms σ p 2)), (5, iv n5), (0, .ref sb), (1, .ref ox), (2, .ref my), (3, .ref ra), (4, .ref rd)] [iv 1]
    have hg2 := WM_a hm1 hKW hg1 rfl (Or.inl rfl)
    refine r_istore (L' := [(7, iv 1), (6, iv (ms σ p 2)), (5, iv n5), (0, .ref sb), (1, .ref ox), (2, .ref my), (3, .ref ra), (4, .ref rd)]) X dL_law_2205 (by decide) rfl ?_
    refine r_aload_n 5 X dL_law_2207 rfl ?_
    refine r_callV_v X dL_law_2208 kL_141 hm2.1 (c_X7_thrown (CX_l X) D z0 h2 hm2 ht2) [] rfl rfl (Nat.le_of_ble_eq_true rfl) (by decide) rfl rfl (show kc + 2 ≤ 601024 ∧ ks + 12 ≤ 7293034 by omega) ?_
    show WW K D z0 10 h2 (kc + 2) (ks + 12) 2211 [(7, iv 1), (6, iv (ms σ p 2)), (5, iv n5), (0, .ref sb), (1, .ref ox), (2, .ref my), (3, .ref ra), (4, .ref rd)] [iv (ms σ p 2)]
    refine r_iload 1 X dL_law_2211 rfl ?_
    refine r_icmp_eqS 2218 X dL_law_2213 (by decide) ?_
    refine r_iload 1 X dL_law_2218 rfl ?_
    refine r_if_ne 2242 X dL_law_2220 (by decide) ⟨by omega, by omega⟩ (fun c9 => absurd hcd c9) (fun c9 => ?_)
    refine r_aload_n 6 X dL_law_2223 rfl ?_
    refine r_iconst X dL_law_2224 ?_
    refine r_laload X dL_law_2225 hg2 ⟨by omega, by omega⟩ (by decide) ?_
    refine WW_e (congrArg (fun z => z :: []) (show jv (g1 (0 : Int).toNat) = jv 1 from hgE)) ?_
    show WW K D z0 10 h2 (kc + 2) (ks + 12) 2226 [(7, iv 1), (6, iv (ms σ p 2)), (5, iv n5), (0, .ref sb), (1, .ref ox), (2, .ref my), (3, .ref ra), (4, .ref rd)] [jv 1]
    refine r_iload 0 X dL_law_2226 rfl ?_
    refine r_if_eq 2235 X dL_law_2228 (by decide) ⟨by omega, by omega⟩ (fun c2228 => ?_) (fun c2228 => ?_)
    · exfalso
      omega
    · refine r_lconst 1 X dL_law_2231 (by decide) ?_
      refine r_goto 2236 X dL_law_2232 (by decide) ?_
      refine r_lcmp_eqS 2242 X dL_law_2236 dL_law_2237 (by decide) ?_
      refine r_goto 2541 X dL_law_2242 (by decide) ?_
      refine WW_sub (L' := [(5, iv n5), (0, .ref sb), (1, .ref ox), (2, .ref my), (3, .ref ra), (4, .ref rd)]) [2, 3, 4, 5, 6, 7] rfl ?_
      refine WW_room (show kc + 2 ≤ kc + 100 by omega) (show ks + 12 ≤ ks + 1000 by omega) ?_
      exact kk _ _ _ _ _ ⟨CS_WM hC1 hm1 ho hKW, ⟨_, e19, e29, e39, hi2, lo2, rf2, sq2, hm2, hE2⟩, ho, ⟨_, WM_a hm1 hKW hg1 rfl (Or.inl rfl)⟩, ⟨_, WM_a hm1 hKW hj1 rfl (Or.inr rfl)⟩⟩ hp
  · obtain ⟨rfl, e19, e29, e39, hi2, lo2, rf2, sq2, hm2, hE2⟩ := hM2 hcd
    obtain ⟨hC1, g1, hg1⟩ := hB1 hcd
    have ht2 := CS_TVs hC1
    show WW K D z0 10 h2 (kc + 2) (ks + 12) 2205 [(6, iv (ms σ p 2)), (5, iv n5), (0, .ref sb), (1, .ref ox), (2, .ref my), (3, .ref ra), (4, .ref rd)] [iv 0]
    have hg2 := WM_a hm1 hKW hg1 rfl (Or.inl rfl)
    refine r_istore (L' := [(7, iv 0), (6, iv (ms σ p 2)), (5, iv n5), (0, .ref sb), (1, .ref ox), (2, .ref my), (3, .ref ra), (4, .ref rd)]) X dL_law_2205 (by decide) rfl ?_
    refine r_aload_n 5 X dL_law_2207 rfl ?_
    refine r_callV_v X dL_law_2208 kL_141 hm2.1 (c_X7_thrown (CX_l X) D z0 h2 hm2 ht2) [] rfl rfl (Nat.le_of_ble_eq_true rfl) (by decide) rfl rfl (show kc + 2 ≤ 601024 ∧ ks + 12 ≤ 7293034 by omega) ?_
    show WW K D z0 10 h2 (kc + 2) (ks + 12) 2211 [(7, iv 0), (6, iv (ms σ p 2)), (5, iv n5), (0, .ref sb), (1, .ref ox), (2, .ref my), (3, .ref ra), (4, .ref rd)] [iv (ms σ p 2)]
    refine r_iload 1 X dL_law_2211 rfl ?_
    refine r_icmp_eqS 2218 X dL_law_2213 (by decide) ?_
    refine r_iload 1 X dL_law_2218 rfl ?_
    refine r_if_ne 2242 X dL_law_2220 (by decide) ⟨by omega, by omega⟩ (fun c9 => ?_) (fun c9 => absurd c9 hcd)
    refine r_goto 2541 X dL_law_2242 (by decide) ?_
    refine WW_sub (L' := [(5, iv n5), (0, .ref sb), (1, .ref ox), (2, .ref my), (3, .ref ra), (4, .ref rd)]) [2, 3, 4, 5, 6, 7] rfl ?_
    refine WW_room (show kc + 2 ≤ kc + 100 by omega) (show ks + 12 ≤ ks + 1000 by omega) ?_
    exact kk _ _ _ _ _ ⟨CS_WM hC1 hm1 ho hKW, ⟨_, e19, e29, e39, hi2, lo2, rf2, sq2, hm2, hE2⟩, ho, ⟨_, WM_a hm1 hKW hg1 rfl (Or.inl rfl)⟩, ⟨_, WM_a hm1 hKW hj1 rfl (Or.inr rfl)⟩⟩ hp
theorem case_rootIsTrue {K : KT} {D : va_G} {z0 : Nat} {h : Hp} {kc ks : Nat} (X : CX K D z0 cL_law 10 RL room_1) {sb N : Nat} {xs : Nat → Int32} (S : SX K z0 sb N xs) {ox my ra rd oo : Nat} {mv : Nat → Nat} {σ : Tg} {r : List Nat} {m : Nat} {od : Nat → Int} (J : JS D h ox my ra rd oo mv σ r m od) (hp : PI r m od) (n5 : Int) (hn5 : 0 ≤ n5 ∧ n5 + 5 ≤ (N : Int)) (hkc : kc + 100 ≤ 601024 ∧ ks + 1000 ≤ 7293034) (kk : ∀ (h' : Hp) (σ' : Tg) (r' : List Nat) (m' : Nat) (od' : Nat → Int), JS D h' ox my ra rd oo mv σ' r' m' od' → PI r' m' od' → WW K D z0 10 h' (kc + 100) (ks + 1000) 2541 [(5, iv n5), (0, .ref sb), (1, .ref ox), (2, .ref my), (3, .ref ra), (4, .ref rd)] []) : WW K D z0 10 h kc ks 2245 [(5, iv n5), (0, .ref sb), (1, .ref ox), (2, .ref my), (3, .ref ra), (4, .ref rd)] [] := by
  obtain ⟨hC, ⟨tc, e1, e2, e3, hi9, lo9, rf9, sq9, hm, hE⟩, ho, ⟨ga, hga⟩, gd, hgd⟩ := J
  have hoo := CS_o hC
  have ht := CS_TVs hC
  obtain ⟨u1, hu1⟩ : ∃ u, u = (xs (n5 + 1).toNat).toInt := ⟨_, rfl⟩
  have u1_ : I32 u1 := by rw [hu1]; exact i32_toI _
  obtain ⟨u2, hu2⟩ : ∃ u, u = (xs (n5 + 2).toNat).toInt := ⟨_, rfl⟩
  have u2_ : I32 u2 := by rw [hu2]; exact i32_toI _
  obtain ⟨p, pd⟩ : ∃ z, z = (u1 * 4294967296) + (u2 % 4294967296) := ⟨_, rfl⟩
  have p_ : I64 p := ⟨by omega, by omega⟩
  show WW K D z0 10 h (kc + 0) (ks + 0) 2245 [(5, iv n5), (0, .ref sb), (1, .ref ox), (2, .ref my), (3, .ref ra), (4, .ref rd)] []
  refine r_aload_n 2 X dL_law_2245 rfl ?_
  refine r_aload_n 1 X dL_law_2246 rfl ?_
  refine r_iload 0 X dL_law_2247 rfl ?_
  refine r_iconst X dL_law_2249 ?_
  refine r_iadd X dL_law_2250 ?_
  refine r_sld (v := u1) X S dL_law_2251 ⟨by omega, by omega⟩ hu1 ?_
  refine r_i2l X dL_law_2252 ⟨by omega, by omega⟩ ?_
  refine r_bipush X dL_law_2253 (by decide) ?_
  refine r_lshl X dL_law_2255 32 4294967296 (by decide) (by decide) (by decide) ?_
  refine r_aload_n 1 X dL_law_2256 rfl ?_
  refine r_iload 0 X dL_law_2257 rfl ?_
  refine r_iconst X dL_law_2259 ?_
  refine r_iadd X dL_law_2260 ?_
  refine r_sld (v := u2) X S dL_law_2261 ⟨by omega, by omega⟩ hu2 ?_
  refine r_i2l X dL_law_2262 ⟨by omega, by omega⟩ ?_
  refine r_ldc2 4294967295 X dL_law_2263 nL_198 (by decide) ?_
  refine r_land X dL_law_2266 32 4294967296 (by decide) (by decide) (by decide) ?_
  refine r_lor X dL_law_2267 u1 32 4294967296 (by decide) (by decide) rfl ⟨by omega, by omega⟩ ?_
  refine WW_e (congrArg (fun z => jv z :: [.ref ox]) (show (u1 * 4294967296) + (u2 % 4294967296) = p from pd.symm)) ?_
  show WW K D z0 10 h (kc + 0) (ks + 0) 2268 [(5, iv n5), (0, .ref sb), (1, .ref ox), (2, .ref my), (3, .ref ra), (4, .ref rd)] [jv p, .ref ox]
  refine r_aload_n 4 X dL_law_2268 rfl ?_
  refine r_callH X dL_law_2269 kL_250 (c_L_rootIsTrue (CX_l X) D z0 h hC hp p p_ hga) [] rfl rfl (Nat.le_of_ble_eq_true rfl) (by decide) (show kc + 1 ≤ 601024 ∧ ks + 6 ≤ 7293034 by omega) (fun w9 h1 hw9 => ?_)
  obtain ⟨rfl, hcdb, hA1, hB1, hKA⟩ := hw9
  have hm1 := Mz_fr hm hKA ho ⟨_, hoo⟩ hga rfl (Or.inl rfl)
  have hj1 := KA_d hKA hoo hga hgd
  show WW K D z0 10 h1 (kc + 1) (ks + 6) 2272 [(5, iv n5), (0, .ref sb), (1, .ref ox), (2, .ref my), (3, .ref ra), (4, .ref rd)] [iv (cdRo p)]
  refine r_istore (L' := [(6, iv (cdRo p)), (5, iv n5), (0, .ref sb), (1, .ref ox), (2, .ref my), (3, .ref ra), (4, .ref rd)]) X dL_law_2272 (by decide) rfl ?_
  refine r_aload_n 4 X dL_law_2274 rfl ?_
  refine r_aload_n 2 X dL_law_2275 rfl ?_
  refine r_iload 1 X dL_law_2276 rfl ?_
  refine r_iconst X dL_law_2278 ?_
  refine r_iadd X dL_law_2279 ?_
  refine r_sld (v := u1) X S dL_law_2280 ⟨by omega, by omega⟩ hu1 ?_
  refine r_i2l X dL_law_2281 ⟨by omega, by omega⟩ ?_
  refine r_bipush X dL_law_2282 (by decide) ?_
  refine r_lshl X dL_law_2284 32 4294967296 (by decide) (by decide) (by decide) ?_
  refine r_aload_n 2 X dL_law_2285 rfl ?_
  refine r_iload 1 X dL_law_2286 rfl ?_
  refine r_iconst X dL_law_2288 ?_
  refine r_iadd X dL_law_2289 ?_
  refine r_sld (v := u2) X S dL_law_2290 ⟨by omega, by omega⟩ hu2 ?_
  refine r_i2l X dL_law_2291 ⟨by omega, by omega⟩ ?_
  refine r_ldc2 4294967295 X dL_law_2292 nL_198 (by decide) ?_
  refine r_land X dL_law_2295 32 4294967296 (by decide) (by decide) (by decide) ?_
  refine r_lor X dL_law_2296 u1 32 4294967296 (by decide) (by decide) rfl ⟨by omega, by omega⟩ ?_
  refine WW_e (congrArg (fun z => jv z :: [.ref my]) (show (u1 * 4294967296) + (u2 % 4294967296) = p from pd.symm)) ?_
  show WW K D z0 10 h1 (kc + 1) (ks + 6) 2297 [(6, iv (cdRo p)), (5, iv n5), (0, .ref sb), (1, .ref ox), (2, .ref my), (3, .ref ra), (4, .ref rd)] [jv p, .ref my]
  refine r_callV X dL_law_2297 kL_253 hm1.1 (c_X7_rootIsTrue (CX_l X) D z0 h1 hm1 ht p p_) [] rfl rfl (Nat.le_of_ble_eq_true rfl) (by decide) (show kc + 1 ≤ 601024 ∧ ks + 6 ≤ 7293034 by omega) (fun _ _ z => z.elim) (fun w8 h2 hw8 => ?_)
  obtain ⟨hM1, hM2, hKW⟩ := MO_MW hE hw8
  by_cases hcd : cdRo p = 0
  · obtain ⟨rfl, e19, e29, e39, hi2, lo2, rf2, sq2, hm2, hE2⟩ := hM1 hcd
    obtain ⟨hC1, g1, hg1, hgE⟩ := hA1 hcd
    have ht2 := CS_TVs hC1
    show WW K D z0 10 h2 (kc + 1) (ks + 6) 2300 [(6, iv (cdRo p)), (5, iv n5), (0, .ref sb), (1, .ref ox), (2, .ref my), (3, .ref ra), (4, .ref rd)] [iv 1]
    have hg2 := WM_a hm1 hKW hg1 rfl (Or.inl rfl)
    refine r_istore (L' := [(7, iv 1), (6, iv (cdRo p)), (5, iv n5), (0, .ref sb), (1, .ref ox), (2, .ref my), (3, .ref ra), (4, .ref rd)]) X dL_law_2300 (by decide) rfl ?_
    refine r_aload_n 5 X dL_law_2302 rfl ?_
    refine r_callV_v X dL_law_2303 kL_141 hm2.1 (c_X7_thrown (CX_l X) D z0 h2 hm2 ht2) [] rfl rfl (Nat.le_of_ble_eq_true rfl) (by decide) rfl rfl (show kc + 1 ≤ 601024 ∧ ks + 6 ≤ 7293034 by omega) ?_
    show WW K D z0 10 h2 (kc + 1) (ks + 6) 2306 [(7, iv 1), (6, iv (cdRo p)), (5, iv n5), (0, .ref sb), (1, .ref ox), (2, .ref my), (3, .ref ra), (4, .ref rd)] [iv (cdRo p)]
    refine r_iload 1 X dL_law_2306 rfl ?_
    refine r_icmp_eqS 2313 X dL_law_2308 (by decide) ?_
    refine r_iload 1 X dL_law_2313 rfl ?_
    refine r_if_ne 2337 X dL_law_2315 (by decide) ⟨by omega, by omega⟩ (fun c9 => absurd hcd c9) (fun c9 => ?_)
    refine r_aload_n 6 X dL_law_2318 rfl ?_
    refine r_iconst X dL_law_2319 ?_
    refine r_laload X dL_law_2320 hg2 ⟨by omega, by omega⟩ (by decide) ?_
    refine WW_e (congrArg (fun z => z :: []) (show jv (g1 (0 : Int).toNat) = jv 1 from hgE)) ?_
    show WW K D z0 10 h2 (kc + 1) (ks + 6) 2321 [(7, iv 1), (6, iv (cdRo p)), (5, iv n5), (0, .ref sb), (1, .ref ox), (2, .ref my), (3, .ref ra), (4, .ref rd)] [jv 1]
    refine r_iload 0 X dL_law_2321 rfl ?_
    refine r_if_eq 2330 X dL_law_2323 (by decide) ⟨by omega, by omega⟩ (fun c2323 => ?_) (fun c2323 => ?_)
    · exfalso
      omega
    · refine r_lconst 1 X dL_law_2326 (by decide) ?_
      refine r_goto 2331 X dL_law_2327 (by decide) ?_
      refine r_lcmp_eqS 2337 X dL_law_2331 dL_law_2332 (by decide) ?_
      refine r_goto 2541 X dL_law_2337 (by decide) ?_
      refine WW_sub (L' := [(5, iv n5), (0, .ref sb), (1, .ref ox), (2, .ref my), (3, .ref ra), (4, .ref rd)]) [2, 3, 4, 5, 6, 7] rfl ?_
      refine WW_room (show kc + 1 ≤ kc + 100 by omega) (show ks + 6 ≤ ks + 1000 by omega) ?_
      exact kk _ _ _ _ _ ⟨CS_WM hC1 hm1 ho hKW, ⟨_, e19, e29, e39, hi2, lo2, rf2, sq2, hm2, hE2⟩, ho, ⟨_, WM_a hm1 hKW hg1 rfl (Or.inl rfl)⟩, ⟨_, WM_a hm1 hKW hj1 rfl (Or.inr rfl)⟩⟩ hp
  · obtain ⟨rfl, e19, e29, e39, hi2, lo2, rf2, sq2, hm2, hE2⟩ := hM2 hcd
    obtain ⟨hC1, g1, hg1⟩ := hB1 hcd
    have ht2 := CS_TVs hC1
    show WW K D z0 10 h2 (kc + 1) (ks + 6) 2300 [(6, iv (cdRo p)), (5, iv n5), (0, .ref sb), (1, .ref ox), (2, .ref my), (3, .ref ra), (4, .ref rd)] [iv 0]
    have hg2 := WM_a hm1 hKW hg1 rfl (Or.inl rfl)
    refine r_istore (L' := [(7, iv 0), (6, iv (cdRo p)), (5, iv n5), (0, .ref sb), (1, .ref ox), (2, .ref my), (3, .ref ra), (4, .ref rd)]) X dL_law_2300 (by decide) rfl ?_
    refine r_aload_n 5 X dL_law_2302 rfl ?_
    refine r_callV_v X dL_law_2303 kL_141 hm2.1 (c_X7_thrown (CX_l X) D z0 h2 hm2 ht2) [] rfl rfl (Nat.le_of_ble_eq_true rfl) (by decide) rfl rfl (show kc + 1 ≤ 601024 ∧ ks + 6 ≤ 7293034 by omega) ?_
    show WW K D z0 10 h2 (kc + 1) (ks + 6) 2306 [(7, iv 0), (6, iv (cdRo p)), (5, iv n5), (0, .ref sb), (1, .ref ox), (2, .ref my), (3, .ref ra), (4, .ref rd)] [iv (cdRo p)]
    refine r_iload 1 X dL_law_2306 rfl ?_
    refine r_icmp_eqS 2313 X dL_law_2308 (by decide) ?_
    refine r_iload 1 X dL_law_2313 rfl ?_
    refine r_if_ne 2337 X dL_law_2315 (by decide) ⟨by omega, by omega⟩ (fun c9 => ?_) (fun c9 => absurd c9 hcd)
    refine r_goto 2541 X dL_law_2337 (by decide) ?_
    refine WW_sub (L' := [(5, iv n5), (0, .ref sb), (1, .ref ox), (2, .ref my), (3, .ref ra), (4, .ref rd)]) [2, 3, 4, 5, 6, 7] rfl ?_
    refine WW_room (show kc + 1 ≤ kc + 100 by omega) (show ks + 6 ≤ ks + 1000 by omega) ?_
    exact kk _ _ _ _ _ ⟨CS_WM hC1 hm1 ho hKW, ⟨_, e19, e29, e39, hi2, lo2, rf2, sq2, hm2, hE2⟩, ho, ⟨_, WM_a hm1 hKW hg1 rfl (Or.inl rfl)⟩, ⟨_, WM_a hm1 hKW hj1 rfl (Or.inr rfl)⟩⟩ hp
theorem case_hypotIsTrue {K : KT} {D : va_G} {z0 : Nat} {h : Hp} {kc ks : Nat} (X : CX K D z0 cL_law 10 RL room_1) {sb N : Nat} {xs : Nat → Int32} (S : SX K z0 sb N xs) {ox my ra rd oo : Nat} {mv : Nat → Nat} {σ : Tg} {r : List Nat} {m : Nat} {od : Nat → Int} (J : JS D h ox my ra rd oo mv σ r m od) (hp : PI r m od) (n5 : Int) (hn5 : 0 ≤ n5 ∧ n5 + 5 ≤ (N : Int)) (hkc : kc + 100 ≤ 601024 ∧ ks + 1000 ≤ 7293034) (kk : ∀ (h' : Hp) (σ' : Tg) (r' : List Nat) (m' : Nat) (od' : Nat → Int), JS D h' ox my ra rd oo mv σ' r' m' od' → PI r' m' od' → WW K D z0 10 h' (kc + 100) (ks + 1000) 2541 [(5, iv n5), (0, .ref sb), (1, .ref ox), (2, .ref my), (3, .ref ra), (4, .ref rd)] []) : WW K D z0 10 h kc ks 2340 [(5, iv n5), (0, .ref sb), (1, .ref ox), (2, .ref my), (3, .ref ra), (4, .ref rd)] [] := by
  obtain ⟨hC, ⟨tc, e1, e2, e3, hi9, lo9, rf9, sq9, hm, hE⟩, ho, ⟨ga, hga⟩, gd, hgd⟩ := J
  have hoo := CS_o hC
  have ht := CS_TVs hC
  obtain ⟨a, ad⟩ : ∃ u, u = (xs (n5 + 1).toNat).toInt := ⟨_, rfl⟩
  have a_ : I32 a := by rw [ad]; exact i32_toI _
  obtain ⟨b, bd⟩ : ∃ u, u = (xs (n5 + 2).toNat).toInt := ⟨_, rfl⟩
  have b_ : I32 b := by rw [bd]; exact i32_toI _
  show WW K D z0 10 h (kc + 0) (ks + 0) 2340 [(5, iv n5), (0, .ref sb), (1, .ref ox), (2, .ref my), (3, .ref ra), (4, .ref rd)] []
  refine r_aload_n 2 X dL_law_2340 rfl ?_
  refine r_aload_n 1 X dL_law_2341 rfl ?_
  refine r_iload 0 X dL_law_2342 rfl ?_
  refine r_iconst X dL_law_2344 ?_
  refine r_iadd X dL_law_2345 ?_
  refine r_sld (v := a) X S dL_law_2346 ⟨by omega, by omega⟩ ad ?_
  refine r_aload_n 1 X dL_law_2347 rfl ?_
  refine r_iload 0 X dL_law_2348 rfl ?_
  refine r_iconst X dL_law_2350 ?_
  refine r_iadd X dL_law_2351 ?_
  refine r_sld (v := b) X S dL_law_2352 ⟨by omega, by omega⟩ bd ?_
  refine r_aload_n 4 X dL_law_2353 rfl ?_
  refine r_callH X dL_law_2354 kL_254 (c_L_hypotIsTrue (CX_l X) D z0 h hC hp a a_ b b_ hga) [] rfl rfl (Nat.le_of_ble_eq_true rfl) (by decide) (show kc + 1 ≤ 601024 ∧ ks + 6 ≤ 7293034 by omega) (fun w9 h1 hw9 => ?_)
  obtain ⟨rfl, hcdb, hA1, hB1, hKA⟩ := hw9
  have hm1 := Mz_fr hm hKA ho ⟨_, hoo⟩ hga rfl (Or.inl rfl)
  have hj1 := KA_d hKA hoo hga hgd
  show WW K D z0 10 h1 (kc + 1) (ks + 6) 2357 [(5, iv n5), (0, .ref sb), (1, .ref ox), (2, .ref my), (3, .ref ra), (4, .ref rd)] [iv (cdHt a b)]
  refine r_istore (L' := [(6, iv (cdHt a b)), (5, iv n5), (0, .ref sb), (1, .ref ox), (2, .ref my), (3, .ref ra), (4, .ref rd)]) X dL_law_2357 (by decide) rfl ?_
  refine r_aload_n 4 X dL_law_2359 rfl ?_
  refine r_aload_n 2 X dL_law_2360 rfl ?_
  refine r_iload 1 X dL_law_2361 rfl ?_
  refine r_iconst X dL_law_2363 ?_
  refine r_iadd X dL_law_2364 ?_
  refine r_sld (v := a) X S dL_law_2365 ⟨by omega, by omega⟩ ad ?_
  refine r_aload_n 2 X dL_law_2366 rfl ?_
  refine r_iload 1 X dL_law_2367 rfl ?_
  refine r_iconst X dL_law_2369 ?_
  refine r_iadd X dL_law_2370 ?_
  refine r_sld (v := b) X S dL_law_2371 ⟨by omega, by omega⟩ bd ?_
  refine r_callV X dL_law_2372 kL_256 hm1.1 (c_X7_hypotIsTrue (CX_l X) D z0 h1 hm1 ht a b a_ b_) [] rfl rfl (Nat.le_of_ble_eq_true rfl) (by decide) (show kc + 1 ≤ 601024 ∧ ks + 6 ≤ 7293034 by omega) (fun _ _ z => z.elim) (fun w8 h2 hw8 => ?_)
  obtain ⟨hM1, hM2, hKW⟩ := MO_MW hE hw8
  by_cases hcd : cdHt a b = 0
  · obtain ⟨rfl, e19, e29, e39, hi2, lo2, rf2, sq2, hm2, hE2⟩ := hM1 hcd
    obtain ⟨hC1, g1, hg1, hgE⟩ := hA1 hcd
    have ht2 := CS_TVs hC1
    show WW K D z0 10 h2 (kc + 1) (ks + 6) 2375 [(6, iv (cdHt a b)), (5, iv n5), (0, .ref sb), (1, .ref ox), (2, .ref my), (3, .ref ra), (4, .ref rd)] [iv 1]
    have hg2 := WM_a hm1 hKW hg1 rfl (Or.inl rfl)
    refine r_istore (L' := [(7, iv 1), (6, iv (cdHt a b)), (5, iv n5), (0, .ref sb), (1, .ref ox), (2, .ref my), (3, .ref ra), (4, .ref rd)]) X dL_law_2375 (by decide) rfl ?_
    refine r_aload_n 5 X dL_law_2377 rfl ?_
    refine r_callV_v X dL_law_2378 kL_141 hm2.1 (c_X7_thrown (CX_l X) D z0 h2 hm2 ht2) [] rfl rfl (Nat.le_of_ble_eq_true rfl) (by decide) rfl rfl (show kc + 1 ≤ 601024 ∧ ks + 6 ≤ 7293034 by omega) ?_
    show WW K D z0 10 h2 (kc + 1) (ks + 6) 2381 [(7, iv 1), (6, iv (cdHt a b)), (5, iv n5), (0, .ref sb), (1, .ref ox), (2, .ref my), (3, .ref ra), (4, .ref rd)] [iv (cdHt a b)]
    refine r_iload 1 X dL_law_2381 rfl ?_
    refine r_icmp_eqS 2388 X dL_law_2383 (by decide) ?_
    refine r_iload 1 X dL_law_2388 rfl ?_
    refine r_if_ne 2412 X dL_law_2390 (by decide) ⟨by omega, by omega⟩ (fun c9 => absurd hcd c9) (fun c9 => ?_)
    refine r_aload_n 6 X dL_law_2393 rfl ?_
    refine r_iconst X dL_law_2394 ?_
    refine r_laload X dL_law_2395 hg2 ⟨by omega, by omega⟩ (by decide) ?_
    refine WW_e (congrArg (fun z => z :: []) (show jv (g1 (0 : Int).toNat) = jv 1 from hgE)) ?_
    show WW K D z0 10 h2 (kc + 1) (ks + 6) 2396 [(7, iv 1), (6, iv (cdHt a b)), (5, iv n5), (0, .ref sb), (1, .ref ox), (2, .ref my), (3, .ref ra), (4, .ref rd)] [jv 1]
    refine r_iload 0 X dL_law_2396 rfl ?_
    refine r_if_eq 2405 X dL_law_2398 (by decide) ⟨by omega, by omega⟩ (fun c2398 => ?_) (fun c2398 => ?_)
    · exfalso
      omega
    · refine r_lconst 1 X dL_law_2401 (by decide) ?_
      refine r_goto 2406 X dL_law_2402 (by decide) ?_
      refine r_lcmp_eqS 2412 X dL_law_2406 dL_law_2407 (by decide) ?_
      refine r_goto 2541 X dL_law_2412 (by decide) ?_
      refine WW_sub (L' := [(5, iv n5), (0, .ref sb), (1, .ref ox), (2, .ref my), (3, .ref ra), (4, .ref rd)]) [2, 3, 4, 5, 6, 7] rfl ?_
      refine WW_room (show kc + 1 ≤ kc + 100 by omega) (show ks + 6 ≤ ks + 1000 by omega) ?_
      exact kk _ _ _ _ _ ⟨CS_WM hC1 hm1 ho hKW, ⟨_, e19, e29, e39, hi2, lo2, rf2, sq2, hm2, hE2⟩, ho, ⟨_, WM_a hm1 hKW hg1 rfl (Or.inl rfl)⟩, ⟨_, WM_a hm1 hKW hj1 rfl (Or.inr rfl)⟩⟩ hp
  · obtain ⟨rfl, e19, e29, e39, hi2, lo2, rf2, sq2, hm2, hE2⟩ := hM2 hcd
    obtain ⟨hC1, g1, hg1⟩ := hB1 hcd
    have ht2 := CS_TVs hC1
    show WW K D z0 10 h2 (kc + 1) (ks + 6) 2375 [(6, iv (cdHt a b)), (5, iv n5), (0, .ref sb), (1, .ref ox), (2, .ref my), (3, .ref ra), (4, .ref rd)] [iv 0]
    have hg2 := WM_a hm1 hKW hg1 rfl (Or.inl rfl)
    refine r_istore (L' := [(7, iv 0), (6, iv (cdHt a b)), (5, iv n5), (0, .ref sb), (1, .ref ox), (2, .ref my), (3, .ref ra), (4, .ref rd)]) X dL_law_2375 (by decide) rfl ?_
    refine r_aload_n 5 X dL_law_2377 rfl ?_
    refine r_callV_v X dL_law_2378 kL_141 hm2.1 (c_X7_thrown (CX_l X) D z0 h2 hm2 ht2) [] rfl rfl (Nat.le_of_ble_eq_true rfl) (by decide) rfl rfl (show kc + 1 ≤ 601024 ∧ ks + 6 ≤ 7293034 by omega) ?_
    show WW K D z0 10 h2 (kc + 1) (ks + 6) 2381 [(7, iv 0), (6, iv (cdHt a b)), (5, iv n5), (0, .ref sb), (1, .ref ox), (2, .ref my), (3, .ref ra), (4, .ref rd)] [iv (cdHt a b)]
    refine r_iload 1 X dL_law_2381 rfl ?_
    refine r_icmp_eqS 2388 X dL_law_2383 (by decide) ?_
    refine r_iload 1 X dL_law_2388 rfl ?_
    refine r_if_ne 2412 X dL_law_2390 (by decide) ⟨by omega, by omega⟩ (fun c9 => ?_) (fun c9 => absurd c9 hcd)
    refine r_goto 2541 X dL_law_2412 (by decide) ?_
    refine WW_sub (L' := [(5, iv n5), (0, .ref sb), (1, .ref ox), (2, .ref my), (3, .ref ra), (4, .ref rd)]) [2, 3, 4, 5, 6, 7] rfl ?_
    refine WW_room (show kc + 1 ≤ kc + 100 by omega) (show ks + 6 ≤ ks + 1000 by omega) ?_
    exact kk _ _ _ _ _ ⟨CS_WM hC1 hm1 ho hKW, ⟨_, e19, e29, e39, hi2, lo2, rf2, sq2, hm2, hE2⟩, ho, ⟨_, WM_a hm1 hKW hg1 rfl (Or.inl rfl)⟩, ⟨_, WM_a hm1 hKW hj1 rfl (Or.inr rfl)⟩⟩ hp
theorem case_listIsTrue {K : KT} {D : va_G} {z0 : Nat} {h : Hp} {kc ks : Nat} (X : CX K D z0 cL_law 10 RL room_1) {sb N : Nat} {xs : Nat → Int32} (S : SX K z0 sb N xs) {ox my ra rd oo : Nat} {mv : Nat → Nat} {σ : Tg} {r : List Nat} {m : Nat} {od : Nat → Int} (J : JS D h ox my ra rd oo mv σ r m od) (hp : PI r m od) (n5 : Int) (hn5 : 0 ≤ n5 ∧ n5 + 5 ≤ (N : Int)) (hkc : kc + 100 ≤ 601024 ∧ ks + 1000 ≤ 7293034) (kk : ∀ (h' : Hp) (σ' : Tg) (r' : List Nat) (m' : Nat) (od' : Nat → Int), JS D h' ox my ra rd oo mv σ' r' m' od' → PI r' m' od' → WW K D z0 10 h' (kc + 100) (ks + 1000) 2541 [(5, iv n5), (0, .ref sb), (1, .ref ox), (2, .ref my), (3, .ref ra), (4, .ref rd)] []) : WW K D z0 10 h kc ks 2415 [(5, iv n5), (0, .ref sb), (1, .ref ox), (2, .ref my), (3, .ref ra), (4, .ref rd)] [] := by
  obtain ⟨hC, ⟨tc, e1, e2, e3, hi9, lo9, rf9, sq9, hm, hE⟩, ho, ⟨ga, hga⟩, gd, hgd⟩ := J
  have hoo := CS_o hC
  have ht := CS_TVs hC
  obtain ⟨p, pd⟩ : ∃ u, u = (xs (n5 + 1).toNat).toInt := ⟨_, rfl⟩
  have p_ : I32 p := by rw [pd]; exact i32_toI _
  show WW K D z0 10 h (kc + 0) (ks + 0) 2415 [(5, iv n5), (0, .ref sb), (1, .ref ox), (2, .ref my), (3, .ref ra), (4, .ref rd)] []
  refine r_aload_n 2 X dL_law_2415 rfl ?_
  refine r_aload_n 1 X dL_law_2416 rfl ?_
  refine r_iload 0 X dL_law_2417 rfl ?_
  refine r_iconst X dL_law_2419 ?_
  refine r_iadd X dL_law_2420 ?_
  refine r_sld (v := p) X S dL_law_2421 ⟨by omega, by omega⟩ pd ?_
  refine r_aload_n 4 X dL_law_2422 rfl ?_
  refine r_callH X dL_law_2423 kL_257 (c_L_listIsTrue (CX_l X) D z0 h hC hp p p_ hga) [] rfl rfl (Nat.le_of_ble_eq_true rfl) (by decide) (show kc + 1 ≤ 601024 ∧ ks + 6 ≤ 7293034 by omega) (fun w9 h1 hw9 => ?_)
  obtain ⟨rfl, hcdb, hA1, hB1, hKA⟩ := hw9
  have hm1 := Mz_fr hm hKA ho ⟨_, hoo⟩ hga rfl (Or.inl rfl)
  have hj1 := KA_d hKA hoo hga hgd
  show WW K D z0 10 h1 (kc + 1) (ks + 6) 2426 [(5, iv n5), (0, .ref sb), (1, .ref ox), (2, .ref my), (3, .ref ra), (4, .ref rd)] [iv (cdLt p)]
  refine r_istore (L' := [(6, iv (cdLt p)), (5, iv n5), (0, .ref sb), (1, .ref ox), (2, .ref my), (3, .ref ra), (4, .ref rd)]) X dL_law_2426 (by decide) rfl ?_
  refine r_aload_n 4 X dL_law_2428 rfl ?_
  refine r_aload_n 2 X dL_law_2429 rfl ?_
  refine r_iload 1 X dL_law_2430 rfl ?_
  refine r_iconst X dL_law_2432 ?_
  refine r_iadd X dL_law_2433 ?_
  refine r_sld (v := p) X S dL_law_2434 ⟨by omega, by omega⟩ pd ?_
  refine r_callV X dL_law_2435 kL_259 hm1.1 (c_X7_listIsTrue (CX_l X) D z0 h1 hm1 ht p p_) [] rfl rfl (Nat.le_of_ble_eq_true rfl) (by decide) (show kc + 1 ≤ 601024 ∧ ks + 6 ≤ 7293034 by omega) (fun _ _ z => z.elim) (fun w8 h2 hw8 => ?_)
  obtain ⟨hM1, hM2, hKW⟩ := MO_MW hE hw8
  by_cases hcd : cdLt p = 0
  · obtain ⟨rfl, e19, e29, e39, hi2, lo2, rf2, sq2, hm2, hE2⟩ := hM1 hcd
    obtain ⟨hC1, g1, hg1, hgE⟩ := hA1 hcd
    have ht2 := CS_TVs hC1
    show WW K D z0 10 h2 (kc + 1) (ks + 6) 2438 [(6, iv (cdLt p)), (5, iv n5), (0, .ref sb), (1, .ref ox), (2, .ref my), (3, .ref ra), (4, .ref rd)] [iv 1]
    have hg2 := WM_a hm1 hKW hg1 rfl (Or.inl rfl)
    refine r_istore (L' := [(7, iv 1), (6, iv (cdLt p)), (5, iv n5), (0, .ref sb), (1, .ref ox), (2, .ref my), (3, .ref ra), (4, .ref rd)]) X dL_law_2438 (by decide) rfl ?_
    refine r_aload_n 5 X dL_law_2440 rfl ?_
    refine r_callV_v X dL_law_2441 kL_141 hm2.1 (c_X7_thrown (CX_l X) D z0 h2 hm2 ht2) [] rfl rfl (Nat.le_of_ble_eq_true rfl) (by decide) rfl rfl (show kc + 1 ≤ 601024 ∧ ks + 6 ≤ 7293034 by omega) ?_
    show WW K D z0 10 h2 (kc + 1) (ks + 6) 2444 [(7, iv 1), (6, iv (cdLt p)), (5, iv n5), (0, .ref sb), (1, .ref ox), (2, .ref my), (3, .ref ra), (4, .ref rd)] [iv (cdLt p)]
    refine r_iload 1 X dL_law_2444 rfl ?_
    refine r_icmp_eqS 2451 X dL_law_2446 (by decide) ?_
    refine r_iload 1 X dL_law_2451 rfl ?_
    refine r_if_ne 2475 X dL_law_2453 (by decide) ⟨by omega, by omega⟩ (fun c9 => absurd hcd c9) (fun c9 => ?_)
    refine r_aload_n 6 X dL_law_2456 rfl ?_
    refine r_iconst X dL_law_2457 ?_
    refine r_laload X dL_law_2458 hg2 ⟨by omega, by omega⟩ (by decide) ?_
    refine WW_e (congrArg (fun z => z :: []) (show jv (g1 (0 : Int).toNat) = jv 1 from hgE)) ?_
    show WW K D z0 10 h2 (kc + 1) (ks + 6) 2459 [(7, iv 1), (6, iv (cdLt p)), (5, iv n5), (0, .ref sb), (1, .ref ox), (2, .ref my), (3, .ref ra), (4, .ref rd)] [jv 1]
    refine r_iload 0 X dL_law_2459 rfl ?_
    refine r_if_eq 2468 X dL_law_2461 (by decide) ⟨by omega, by omega⟩ (fun c2461 => ?_) (fun c2461 => ?_)
    · exfalso
      omega
    · refine r_lconst 1 X dL_law_2464 (by decide) ?_
      refine r_goto 2469 X dL_law_2465 (by decide) ?_
      refine r_lcmp_eqS 2475 X dL_law_2469 dL_law_2470 (by decide) ?_
      refine r_goto 2541 X dL_law_2475 (by decide) ?_
      refine WW_sub (L' := [(5, iv n5), (0, .ref sb), (1, .ref ox), (2, .ref my), (3, .ref ra), (4, .ref rd)]) [2, 3, 4, 5, 6, 7] rfl ?_
      refine WW_room (show kc + 1 ≤ kc + 100 by omega) (show ks + 6 ≤ ks + 1000 by omega) ?_
      exact kk _ _ _ _ _ ⟨CS_WM hC1 hm1 ho hKW, ⟨_, e19, e29, e39, hi2, lo2, rf2, sq2, hm2, hE2⟩, ho, ⟨_, WM_a hm1 hKW hg1 rfl (Or.inl rfl)⟩, ⟨_, WM_a hm1 hKW hj1 rfl (Or.inr rfl)⟩⟩ hp
  · obtain ⟨rfl, e19, e29, e39, hi2, lo2, rf2, sq2, hm2, hE2⟩ := hM2 hcd
    obtain ⟨hC1, g1, hg1⟩ := hB1 hcd
    have ht2 := CS_TVs hC1
    show WW K D z0 10 h2 (kc + 1) (ks + 6) 2438 [(6, iv (cdLt p)), (5, iv n5), (0, .ref sb), (1, .ref ox), (2, .ref my), (3, .ref ra), (4, .ref rd)] [iv 0]
    have hg2 := WM_a hm1 hKW hg1 rfl (Or.inl rfl)
    refine r_istore (L' := [(7, iv 0), (6, iv (cdLt p)), (5, iv n5), (0, .ref sb), (1, .ref ox), (2, .ref my), (3, .ref ra), (4, .ref rd)]) X dL_law_2438 (by decide) rfl ?_
    refine r_aload_n 5 X dL_law_2440 rfl ?_
    refine r_callV_v X dL_law_2441 kL_141 hm2.1 (c_X7_thrown (CX_l X) D z0 h2 hm2 ht2) [] rfl rfl (Nat.le_of_ble_eq_true rfl) (by decide) rfl rfl (show kc + 1 ≤ 601024 ∧ ks + 6 ≤ 7293034 by omega) ?_
    show WW K D z0 10 h2 (kc + 1) (ks + 6) 2444 [(7, iv 0), (6, iv (cdLt p)), (5, iv n5), (0, .ref sb), (1, .ref ox), (2, .ref my), (3, .ref ra), (4, .ref rd)] [iv (cdLt p)]
    refine r_iload 1 X dL_law_2444 rfl ?_
    refine r_icmp_eqS 2451 X dL_law_2446 (by decide) ?_
    refine r_iload 1 X dL_law_2451 rfl ?_
    refine r_if_ne 2475 X dL_law_2453 (by decide) ⟨by omega, by omega⟩ (fun c9 => ?_) (fun c9 => absurd c9 hcd)
    refine r_goto 2541 X dL_law_2475 (by decide) ?_
    refine WW_sub (L' := [(5, iv n5), (0, .ref sb), (1, .ref ox), (2, .ref my), (3, .ref ra), (4, .ref rd)]) [2, 3, 4, 5, 6, 7] rfl ?_
    refine WW_room (show kc + 1 ≤ kc + 100 by omega) (show ks + 6 ≤ ks + 1000 by omega) ?_
    exact kk _ _ _ _ _ ⟨CS_WM hC1 hm1 ho hKW, ⟨_, e19, e29, e39, hi2, lo2, rf2, sq2, hm2, hE2⟩, ho, ⟨_, WM_a hm1 hKW hg1 rfl (Or.inl rfl)⟩, ⟨_, WM_a hm1 hKW hj1 rfl (Or.inr rfl)⟩⟩ hp
theorem case_countIsTrue {K : KT} {D : va_G} {z0 : Nat} {h : Hp} {kc ks : Nat} (X : CX K D z0 cL_law 10 RL room_1) {sb N : Nat} {xs : Nat → Int32} (S : SX K z0 sb N xs) {ox my ra rd oo : Nat} {mv : Nat → Nat} {σ : Tg} {r : List Nat} {m : Nat} {od : Nat → Int} (J : JS D h ox my ra rd oo mv σ r m od) (hp : PI r m od) (n5 : Int) (hn5 : 0 ≤ n5 ∧ n5 + 5 ≤ (N : Int)) (hkc : kc + 100 ≤ 601024 ∧ ks + 1000 ≤ 7293034) (kk : ∀ (h' : Hp) (σ' : Tg) (r' : List Nat) (m' : Nat) (od' : Nat → Int), JS D h' ox my ra rd oo mv σ' r' m' od' → PI r' m' od' → WW K D z0 10 h' (kc + 100) (ks + 1000) 2541 [(5, iv n5), (0, .ref sb), (1, .ref ox), (2, .ref my), (3, .ref ra), (4, .ref rd)] []) : WW K D z0 10 h kc ks 2478 [(5, iv n5), (0, .ref sb), (1, .ref ox), (2, .ref my), (3, .ref ra), (4, .ref rd)] [] := by
  obtain ⟨hC, ⟨tc, e1, e2, e3, hi9, lo9, rf9, sq9, hm, hE⟩, ho, ⟨ga, hga⟩, gd, hgd⟩ := J
  have hoo := CS_o hC
  have ht := CS_TVs hC
  obtain ⟨p, pd⟩ : ∃ u, u = (xs (n5 + 1).toNat).toInt := ⟨_, rfl⟩
  have p_ : I32 p := by rw [pd]; exact i32_toI _
  show WW K D z0 10 h (kc + 0) (ks + 0) 2478 [(5, iv n5), (0, .ref sb), (1, .ref ox), (2, .ref my), (3, .ref ra), (4, .ref rd)] []
  refine r_aload_n 2 X dL_law_2478 rfl ?_
  refine r_aload_n 1 X dL_law_2479 rfl ?_
  refine r_iload 0 X dL_law_2480 rfl ?_
  refine r_iconst X dL_law_2482 ?_
  refine r_iadd X dL_law_2483 ?_
  refine r_sld (v := p) X S dL_law_2484 ⟨by omega, by omega⟩ pd ?_
  refine r_aload_n 4 X dL_law_2485 rfl ?_
  refine r_callH X dL_law_2486 kL_260 (c_L_countIsTrue (CX_l X) D z0 h hC hp p p_ hga) [] rfl rfl (Nat.le_of_ble_eq_true rfl) (by decide) (show kc + 1 ≤ 601024 ∧ ks + 6 ≤ 7293034 by omega) (fun w9 h1 hw9 => ?_)
  obtain ⟨rfl, hcdb, hA1, hB1, hKA⟩ := hw9
  have hm1 := Mz_fr hm hKA ho ⟨_, hoo⟩ hga rfl (Or.inl rfl)
  have hj1 := KA_d hKA hoo hga hgd
  show WW K D z0 10 h1 (kc + 1) (ks + 6) 2489 [(5, iv n5), (0, .ref sb), (1, .ref ox), (2, .ref my), (3, .ref ra), (4, .ref rd)] [iv (cdCt p)]
  refine r_istore (L' := [(6, iv (cdCt p)), (5, iv n5), (0, .ref sb), (1, .ref ox), (2, .ref my), (3, .ref ra), (4, .ref rd)]) X dL_law_2489 (by decide) rfl ?_
  refine r_aload_n 4 X dL_law_2491 rfl ?_
  refine r_aload_n 2 X dL_law_2492 rfl ?_
  refine r_iload 1 X dL_law_2493 rfl ?_
  refine r_iconst X dL_law_2495 ?_
  refine r_iadd X dL_law_2496 ?_
  refine r_sld (v := p) X S dL_law_2497 ⟨by omega, by omega⟩ pd ?_
  refine r_callV X dL_law_2498 kL_262 hm1.1 (c_X7_countIsTrue (CX_l X) D z0 h1 hm1 ht p p_) [] rfl rfl (Nat.le_of_ble_eq_true rfl) (by decide) (show kc + 1 ≤ 601024 ∧ ks + 6 ≤ 7293034 by omega) (fun _ _ z => z.elim) (fun w8 h2 hw8 => ?_)
  obtain ⟨hM1, hM2, hKW⟩ := MO_MW hE hw8
  by_cases hcd : cdCt p = 0
  · obtain ⟨rfl, e19, e29, e39, hi2, lo2, rf2, sq2, hm2, hE2⟩ := hM1 hcd
    obtain ⟨hC1, g1, hg1, hgE⟩ := hA1 hcd
    have ht2 := CS_TVs hC1
    show WW K D z0 10 h2 (kc + 1) (ks + 6) 2501 [(6, iv (cdCt p)), (5, iv n5), (0, .ref sb), (1, .ref ox), (2, .ref my), (3, .ref ra), (4, .ref rd)] [iv 1]
    have hg2 := WM_a hm1 hKW hg1 rfl (Or.inl rfl)
    refine r_istore (L' := [(7, iv 1), (6, iv (cdCt p)), (5, iv n5), (0, .ref sb), (1, .ref ox), (2, .ref my), (3, .ref ra), (4, .ref rd)]) X dL_law_2501 (by decide) rfl ?_
    refine r_aload_n 5 X dL_law_2503 rfl ?_
    refine r_callV_v X dL_law_2504 kL_141 hm2.1 (c_X7_thrown (CX_l X) D z0 h2 hm2 ht2) [] rfl rfl (Nat.le_of_ble_eq_true rfl) (by decide) rfl rfl (show kc + 1 ≤ 601024 ∧ ks + 6 ≤ 7293034 by omega) ?_
    show WW K D z0 10 h2 (kc + 1) (ks + 6) 2507 [(7, iv 1), (6, iv (cdCt p)), (5, iv n5), (0, .ref sb), (1, .ref ox), (2, .ref my), (3, .ref ra), (4, .ref rd)] [iv (cdCt p)]
    refine r_iload 1 X dL_law_2507 rfl ?_
    refine r_icmp_eqS 2514 X dL_law_2509 (by decide) ?_
    refine r_iload 1 X dL_law_2514 rfl ?_
    refine r_if_ne 2538 X dL_law_2516 (by decide) ⟨by omega, by omega⟩ (fun c9 => absurd hcd c9) (fun c9 => ?_)
    refine r_aload_n 6 X dL_law_2519 rfl ?_
    refine r_iconst X dL_law_2520 ?_
    refine r_laload X dL_law_2521 hg2 ⟨by omega, by omega⟩ (by decide) ?_
    refine WW_e (congrArg (fun z => z :: []) (show jv (g1 (0 : Int).toNat) = jv 1 from hgE)) ?_
    show WW K D z0 10 h2 (kc + 1) (ks + 6) 2522 [(7, iv 1), (6, iv (cdCt p)), (5, iv n5), (0, .ref sb), (1, .ref ox), (2, .ref my), (3, .ref ra), (4, .ref rd)] [jv 1]
    refine r_iload 0 X dL_law_2522 rfl ?_
    refine r_if_eq 2531 X dL_law_2524 (by decide) ⟨by omega, by omega⟩ (fun c2524 => ?_) (fun c2524 => ?_)
    · exfalso
      omega
    · refine r_lconst 1 X dL_law_2527 (by decide) ?_
      refine r_goto 2532 X dL_law_2528 (by decide) ?_
      refine r_lcmp_eqS 2538 X dL_law_2532 dL_law_2533 (by decide) ?_
      refine r_goto 2541 X dL_law_2538 (by decide) ?_
      refine WW_sub (L' := [(5, iv n5), (0, .ref sb), (1, .ref ox), (2, .ref my), (3, .ref ra), (4, .ref rd)]) [2, 3, 4, 5, 6, 7] rfl ?_
      refine WW_room (show kc + 1 ≤ kc + 100 by omega) (show ks + 6 ≤ ks + 1000 by omega) ?_
      exact kk _ _ _ _ _ ⟨CS_WM hC1 hm1 ho hKW, ⟨_, e19, e29, e39, hi2, lo2, rf2, sq2, hm2, hE2⟩, ho, ⟨_, WM_a hm1 hKW hg1 rfl (Or.inl rfl)⟩, ⟨_, WM_a hm1 hKW hj1 rfl (Or.inr rfl)⟩⟩ hp
  · obtain ⟨rfl, e19, e29, e39, hi2, lo2, rf2, sq2, hm2, hE2⟩ := hM2 hcd
    obtain ⟨hC1, g1, hg1⟩ := hB1 hcd
    have ht2 := CS_TVs hC1
    show WW K D z0 10 h2 (kc + 1) (ks + 6) 2501 [(6, iv (cdCt p)), (5, iv n5), (0, .ref sb), (1, .ref ox), (2, .ref my), (3, .ref ra), (4, .ref rd)] [iv 0]
    have hg2 := WM_a hm1 hKW hg1 rfl (Or.inl rfl)
    refine r_istore (L' := [(7, iv 0), (6, iv (cdCt p)), (5, iv n5), (0, .ref sb), (1, .ref ox), (2, .ref my), (3, .ref ra), (4, .ref rd)]) X dL_law_2501 (by decide) rfl ?_
    refine r_aload_n 5 X dL_law_2503 rfl ?_
    refine r_callV_v X dL_law_2504 kL_141 hm2.1 (c_X7_thrown (CX_l X) D z0 h2 hm2 ht2) [] rfl rfl (Nat.le_of_ble_eq_true rfl) (by decide) rfl rfl (show kc + 1 ≤ 601024 ∧ ks + 6 ≤ 7293034 by omega) ?_
    show WW K D z0 10 h2 (kc + 1) (ks + 6) 2507 [(7, iv 0), (6, iv (cdCt p)), (5, iv n5), (0, .ref sb), (1, .ref ox), (2, .ref my), (3, .ref ra), (4, .ref rd)] [iv (cdCt p)]
    refine r_iload 1 X dL_law_2507 rfl ?_
    refine r_icmp_eqS 2514 X dL_law_2509 (by decide) ?_
    refine r_iload 1 X dL_law_2514 rfl ?_
    refine r_if_ne 2538 X dL_law_2516 (by decide) ⟨by omega, by omega⟩ (fun c9 => ?_) (fun c9 => absurd c9 hcd)
    refine r_goto 2541 X dL_law_2538 (by decide) ?_
    refine WW_sub (L' := [(5, iv n5), (0, .ref sb), (1, .ref ox), (2, .ref my), (3, .ref ra), (4, .ref rd)]) [2, 3, 4, 5, 6, 7] rfl ?_
    refine WW_room (show kc + 1 ≤ kc + 100 by omega) (show ks + 6 ≤ ks + 1000 by omega) ?_
    exact kk _ _ _ _ _ ⟨CS_WM hC1 hm1 ho hKW, ⟨_, e19, e29, e39, hi2, lo2, rf2, sq2, hm2, hE2⟩, ho, ⟨_, WM_a hm1 hKW hg1 rfl (Or.inl rfl)⟩, ⟨_, WM_a hm1 hKW hj1 rfl (Or.inr rfl)⟩⟩ hp
