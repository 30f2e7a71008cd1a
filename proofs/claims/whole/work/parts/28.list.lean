/-! the list -/
theorem hA1_lt {b o e : Nat} {r : List Nat} (hb : b ≤ 400) (h : ∀ a ∈ r, a < 134217728) : ∀ a ∈ hA1 b o e r, a < 134217728 := by
  unfold hA1
  split
  · next z =>
    have h1 : o ≤ isq (o * o + e * e) := by
      apply Nat.not_lt.mp
      intro w
      have := Nat.mul_self_lt_mul_self w
      omega
    have h2 : e ≤ isq (o * o + e * e) := by
      apply Nat.not_lt.mp
      intro w
      have := Nat.mul_self_lt_mul_self w
      omega
    exact ins_lt (keyN_lt (by omega) (by omega) (by omega)) h
  · exact h
theorem hE_lt {b o : Nat} (hb : b ≤ 400) : ∀ (m e : Nat) (r : List Nat), (∀ a ∈ r, a < 134217728) → ∀ a ∈ hE b o m e r, a < 134217728
  | 0, _, _, h => h
  | m + 1, e, r, h => hE_lt hb m (e + 2) _ (hA1_lt hb h)
theorem et_at {b : Nat} (hb : b ≤ 400) : eR b = tR b ∧ (eR b).length ≤ 63 ∧ ascB (eR b) = true := by
  have := et_all b (by omega)
  unfold etB at this
  simp only [Bool.and_eq_true, decide_eq_true_eq] at this
  exact ⟨this.1.1, this.1.2, this.2⟩
abbrev rX2_fillByHypot : Room := { frames := 3, cells := 0, slots := 0, locals := 81 }
theorem c_X2_fillByHypot {l : Launch} (hl : l.stackTraces = false) (D : va_G) (z0 : Nat) (h : Hp) (f k : Nat) (hm : Pm D h f k []) (b : Nat) (hbb : b ≤ 400) : CC l yX2_fillByHypot cX2_fillByHypot 3 none rX2_fillByHypot D z0 h [.ref f, iv (b : Int)] (fun w0 h' => w0 = none ∧ Pm D h' f k (eR b) ∧ Keep (fun y => y = f ∨ y = k) h h') NX := by
  refine CC_of RX2 hl (by decide) rfl (Nat.le_of_ble_eq_true rfl) (fun K X Y Z hmn hKl => ?_)
  subst hKl
  show WW K D z0 3 h 0 0 0 [(0, .ref f), (1, iv (b : Int))] []
  obtain ⟨c, hc⟩ : ∃ c, c = 199 := ⟨_, rfl⟩
  obtain ⟨m0, hm0⟩ : ∃ m, m = 200 := ⟨_, rfl⟩
  have hRe := hR_e hbb hc hm0
  obtain ⟨R, hR⟩ : ∃ R, R = eR b := ⟨_, rfl⟩
  rw [← hR] at hRe
  have loop : ∀ (m o : Nat) (r1 : List Nat) (hA : Hp), o + 2 * m = 401 → 1 ≤ o → (∀ a ∈ r1, a < 134217728) → (hO b c m o r1).length ≤ 63 → hO b c m o r1 = R → Pm D hA f k r1 → Keep (fun y => y = f ∨ y = k) h hA → WW K D z0 3 hA 0 0 2 [(2, iv (o : Int)), (0, .ref f), (1, iv (b : Int))] [] := by
    intro m
    induction m with
    | zero =>
      intro o r1 hA hom ho1 hb hl9 he hm9 hkk
      refine r_iload_n 0 X dX2_fillByHypot_2 rfl ?_
      refine r_iload_n 2 X dX2_fillByHypot_3 rfl ?_
      refine r_icmp_ge 19 X dX2_fillByHypot_4 (by decide) ⟨by omega, by omega⟩ ⟨by omega, by omega⟩ (fun c4 => ?_) (fun c4 => ?_)
      · refine r_vret X Y dX2_fillByHypot_19 (by decide) (by decide) ?_
        exact ⟨rfl, by rw [← hR, ← he]; exact hm9, hkk⟩
      · exfalso
        omega
    | succ m ih =>
      intro o r1 hA hom ho1 hb hl9 he hm9 hkk
      rw [hO_s] at hl9
      have he0 := he
      rw [hO_s] at he
      refine r_iload_n 0 X dX2_fillByHypot_2 rfl ?_
      refine r_iload_n 2 X dX2_fillByHypot_3 rfl ?_
      refine r_icmp_ge 19 X dX2_fillByHypot_4 (by decide) ⟨by omega, by omega⟩ ⟨by omega, by omega⟩ (fun c4 => ?_) (fun c4 => ?_)
      · refine r_vret X Y dX2_fillByHypot_19 (by decide) (by decide) ?_
        exact ⟨rfl, by rw [← hR, ← he0, hO_id b c (m + 1) o r1 (by omega)]; exact hm9, hkk⟩
      · refine r_aload_n 1 X dX2_fillByHypot_7 rfl ?_
        refine r_iload_n 0 X dX2_fillByHypot_8 rfl ?_
        refine r_iload_n 2 X dX2_fillByHypot_9 rfl ?_
        refine r_callV X dX2_fillByHypot_10 kX2_71 hm9.1 (c_X2_addByHypot (CX_l X) D z0 hA f k r1 hm9 hb o b c hc (by omega) (by omega) hbb (Nat.le_trans (hO_len b c m (o + 2) _) hl9)) [] rfl rfl (Nat.le_of_ble_eq_true rfl) (by decide) (by decide) (fun _ _ z => z.elim) (fun v9 h9 hv9 => ?_)
        obtain ⟨rfl, hm8, hk8⟩ := hv9
        show WW K D z0 3 h9 0 0 13 [(2, iv (o : Int)), (0, .ref f), (1, iv (b : Int))] []
        refine r_iinc 0 (L' := [(2, iv ((o : Int) + 2)), (0, .ref f), (1, iv (b : Int))]) X dX2_fillByHypot_13 rfl (by decide) rfl ?_
        refine r_goto 2 X dX2_fillByHypot_16 (by decide) ?_
        rw [show ((o : Int) + 2) = ((o + 2 : Nat) : Int) from rfl]
        exact ih (o + 2) _ _ (by omega) (by omega) (hE_lt hbb _ _ _ hb) hl9 he hm8 (Keep_tr hkk hk8)
  refine r_iconst X dX2_fillByHypot_0 ?_
  refine r_istore_n (L' := [(2, iv 1), (0, .ref f), (1, iv (b : Int))]) X dX2_fillByHypot_1 (by decide) rfl ?_
  exact loop m0 1 [] h (by omega) (Nat.le_refl _) (fun a ha => by cases ha) (by rw [hRe, hR]; exact (et_at hbb).2.1) hRe hm Keep_rf
abbrev rX2_fill : Room := { frames := 5, cells := 0, slots := 0, locals := 125 }
theorem c_X2_fill {l : Launch} (hl : l.stackTraces = false) (D : va_G) (z0 : Nat) (h : Hp) (f k : Nat) (r : List Nat) (hm : Pm D h f k r) (w : Int) (hw : 0 ≤ w ∧ w ≤ 65535) (b : Nat) (hbb : b ≤ 400) : CC l yX2_fill cX2_fill 3 none rX2_fill D z0 h [.ref f, iv w, iv (b : Int)] (fun w0 h' => w0 = none ∧ Pm D h' f k (eR b) ∧ Keep (fun y => y = f ∨ y = k) h h') NX := by
  refine CC_of RX2 hl (by decide) rfl (Nat.le_of_ble_eq_true rfl) (fun K X Y Z hmn hKl => ?_)
  subst hKl
  show WW K D z0 3 h 0 0 0 [(0, .ref f), (1, iv w), (2, iv (b : Int))] []
  refine r_aload_n 0 X dX2_fill_0 rfl ?_
  refine r_iconst X dX2_fill_1 ?_
  refine r_putf (fs' := [.ref k, iv 0]) X dX2_fill_2 fX2_15 hm.1 rfl (Nat.le_of_ble_eq_true rfl) rfl rfl rfl ?_
  have hm1 : Pm D (hu h f (ob 1 [.ref k, iv 0])) f k [] := ⟨hu_s _ _ _, hm.2.choose, by rw [hu_n _ _ (Pm_fk hm.1 hm.2.choose_spec.1).symm]; exact hm.2.choose_spec.1, trivial⟩
  have hk1 : Keep (fun y => y = f ∨ y = k) h (hu h f (ob 1 [.ref k, iv 0])) := fun y e hy hn => by rw [hu_n _ _ (fun z => hn (Or.inl z))]; exact hy
  show WW K D z0 3 (hu h f (ob 1 [.ref k, iv 0])) 0 0 5 [(0, .ref f), (1, iv w), (2, iv (b : Int))] []
  refine r_iload_n 1 X dX2_fill_5 rfl ?_
  refine r_bipush X dX2_fill_6 (by decide) ?_
  refine r_icmp_ne 19 X dX2_fill_8 (by decide) ⟨by omega, by omega⟩ ⟨by omega, by omega⟩ (fun c8 => ?_) (fun c8 => ?_)
  · refine r_iload_n 1 X dX2_fill_19 rfl ?_
    refine r_bipush X dX2_fill_20 (by decide) ?_
    refine r_icmp_ne 33 X dX2_fill_22 (by decide) ⟨by omega, by omega⟩ ⟨by omega, by omega⟩ (fun c22 => ?_) (fun c22 => ?_)
    · refine r_aload_n 0 X dX2_fill_33 rfl ?_
      refine r_iload_n 2 X dX2_fill_34 rfl ?_
      refine r_callV X dX2_fill_35 kX2_26 hm1.1 (c_X2_fillByHypot (CX_l X) D z0 (hu h f (ob 1 [.ref k, iv 0])) f k hm1 b hbb) [] rfl rfl (Nat.le_of_ble_eq_true rfl) (by decide) (by decide) (fun _ _ z => z.elim) (fun v9 h9 hv9 => ?_)
      obtain ⟨rfl, hm8, hk8⟩ := hv9
      show WW K D z0 3 h9 0 0 38 [(0, .ref f), (1, iv w), (2, iv (b : Int))] []
      refine r_vret X Y dX2_fill_38 (by decide) (by decide) ?_
      exact ⟨rfl, hm8, Keep_tr hk1 hk8⟩
    · refine r_aload_n 0 X dX2_fill_25 rfl ?_
      refine r_iload_n 2 X dX2_fill_26 rfl ?_
      refine r_callV X dX2_fill_27 kX2_23 hm1.1 (c_X2_fillBySteps (CX_l X) D z0 (hu h f (ob 1 [.ref k, iv 0])) f k hm1 b hbb (by rw [← (et_at hbb).1]; exact (et_at hbb).2.1)) [] rfl rfl (Nat.le_of_ble_eq_true rfl) (by decide) (by decide) (fun _ _ z => z.elim) (fun v9 h9 hv9 => ?_)
      obtain ⟨rfl, hm8, hk8⟩ := hv9
      rw [← (et_at hbb).1] at hm8
      show WW K D z0 3 h9 0 0 30 [(0, .ref f), (1, iv w), (2, iv (b : Int))] []
      refine r_goto 38 X dX2_fill_30 (by decide) ?_
      refine r_vret X Y dX2_fill_38 (by decide) (by decide) ?_
      exact ⟨rfl, hm8, Keep_tr hk1 hk8⟩
  · refine r_aload_n 0 X dX2_fill_11 rfl ?_
    refine r_iload_n 2 X dX2_fill_12 rfl ?_
    refine r_callV X dX2_fill_13 kX2_19 hm1.1 (c_X2_fillByNumbers (CX_l X) D z0 (hu h f (ob 1 [.ref k, iv 0])) f k hm1 b hbb (et_at hbb).2.1) [] rfl rfl (Nat.le_of_ble_eq_true rfl) (by decide) (by decide) (fun _ _ z => z.elim) (fun v9 h9 hv9 => ?_)
    obtain ⟨rfl, hm8, hk8⟩ := hv9
    show WW K D z0 3 h9 0 0 16 [(0, .ref f), (1, iv w), (2, iv (b : Int))] []
    refine r_goto 38 X dX2_fill_16 (by decide) ?_
    refine r_vret X Y dX2_fill_38 (by decide) (by decide) ?_
    exact ⟨rfl, hm8, Keep_tr hk1 hk8⟩
