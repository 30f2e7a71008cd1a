/-! the class Trigonyard: order -/
/-- whether a triangle stands ahead of another one; w: c 99, p 112, s 115 -/
abbrev lsT (w a b c d e f : Int) : Prop := (w = 99 ∧ c < f) ∨ (w ≠ 99 ∧ ((w = 112 ∧ a + b + c < d + e + f) ∨ (w ≠ 112 ∧ Sx a b c < Sx d e f)))
def lsI (σ : Tg) (w p q : Int) : Int := on σ p (fun a b c => on σ q (fun d e f => if lsT w a b c d e f then 1 else 0))
theorem lsI_r (σ : Tg) (w p q : Int) : I32 (lsI σ w p q) := by
  unfold lsI on
  split
  · split
    · dsimp only
      split <;> exact ⟨by omega, by omega⟩
    · dsimp only
      exact ⟨by decide, by decide⟩
  · exact ⟨by omega, by omega⟩
/-- a place where one is held -/
def hdp (σ : Tg) (q : Int) : Prop := pl q ∧ ∃ a b c, σ q.toNat = some (a, b, c)
theorem Trs_of {h : Hp} {g : Nat → Option Nat} {σ : Tg} (hs : Trs h g σ) {i : Nat} (hi : i < 16) {a b c : Int} (e : σ i = some (a, b, c)) : ∃ q : Nat, g i = some q ∧ h q = some (triE a b c) ∧ TV a b c := by
  rcases hs i hi with z | ⟨q, a', b', c', z1, z2, z3, z4⟩
  · rw [e] at z; cases z.2
  · rw [e] at z2
    cases z2
    exact ⟨q, z1, z3, z4⟩
/-- a place put into an order of so many others -/
def insO (σ : Tg) (w p : Int) : Nat → (Nat → Int) → (Nat → Int)
  | 0, od => up od 0 p
  | k + 1, od => if lsI σ w p (od k) = 0 then up od (k + 1) p else insO σ w p k (up od (k + 1) (od k))
theorem insO_s (σ : Tg) (w p : Int) (k : Nat) (od : Nat → Int) : insO σ w p (k + 1) od = if lsI σ w p (od k) = 0 then up od (k + 1) p else insO σ w p k (up od (k + 1) (od k)) := rfl
theorem insO_hi (σ : Tg) (w p : Int) : ∀ (k : Nat) (od : Nat → Int) (i : Nat), k < i → insO σ w p k od i = od i
  | 0, od, i, h => up_n _ _ (by omega)
  | k + 1, od, i, h => by
    unfold insO
    split
    · exact up_n _ _ (by omega)
    · rw [insO_hi σ w p k _ i (by omega)]
      exact up_n _ _ (by omega)
theorem insO_all {H : Int → Prop} (σ : Tg) (w p : Int) (hp : H p) : ∀ (k : Nat) (od : Nat → Int), (∀ i, i < k → H (od i)) → ∀ i, i ≤ k → H (insO σ w p k od i)
  | 0, od, h, i, hi => by
    rw [show i = 0 by omega]
    unfold insO
    rw [up_s]
    exact hp
  | k + 1, od, h, i, hi => by
    unfold insO
    split
    · by_cases z : i = k + 1
      · rw [z, up_s]
        exact hp
      · rw [up_n _ _ z]
        exact h i (by omega)
    · by_cases z : i = k + 1
      · rw [z, insO_hi σ w p k _ (k + 1) (by omega), up_s]
        exact h k (by omega)
      · refine insO_all σ w p hp k _ (fun j hj => ?_) i (by omega)
        rw [up_n _ _ (by omega)]
        exact h j (by omega)
/-- the order after so many places: how many stand in it, and which -/
def srt (σ : Tg) (w : Int) (od : Nat → Int) : Nat → Nat × (Nat → Int)
  | 0 => (0, od)
  | k + 1 => if (σ k).isNone then srt σ w od k else ((srt σ w od k).1 + 1, insO σ w (k : Int) (srt σ w od k).1 (srt σ w od k).2)
theorem srt_ok (σ : Tg) (w : Int) (od : Nat → Int) : ∀ k : Nat, k ≤ 16 → (srt σ w od k).1 ≤ k ∧ ∀ i, i < (srt σ w od k).1 → hdp σ ((srt σ w od k).2 i)
  | 0, _ => ⟨Nat.le_refl _, fun i hi => absurd hi (by show ¬ i < 0; omega)⟩
  | k + 1, hk => by
    have ih := srt_ok σ w od k (by omega)
    unfold srt
    split
    · exact ⟨by omega, ih.2⟩
    · next z =>
      refine ⟨by show _ + 1 ≤ _; omega, fun i hi => insO_all (H := hdp σ) σ w k ?_ _ _ ih.2 i (Nat.lt_succ_iff.mp hi)⟩
      cases e : σ k with
      | none => rw [e] at z; exact absurd rfl z
      | some t => exact ⟨by omega, t.1, t.2.1, t.2.2, e⟩
theorem hu_self {h : Hp} {q : Nat} {e : va_E} (hq : h q = some e) : hu h q e = h := by
  funext y
  by_cases z : y = q
  · rw [z, hu_s, hq]
  · rw [hu_n _ _ z]
section
variable {D : va_G} {h : Hp} {x T f u v o : Nat} {n : Int} {g : Nat → Option Nat} {σ : Tg}
theorem Cy_o (hc : Cy D h x T f u v o n g σ) {q m : Nat} {od : Nat → Int} (ho : h q = some (aI D m od)) (e : va_E) : Cy D (hu h q e) x T f u v o n g σ := by
  have n1 : x ≠ q := by
    intro z
    have h1 := hc.1
    rw [z, ho] at h1
    cases h1
  have n2 : T ≠ q := by
    intro z
    have h1 := hc.2.1
    rw [z, ho] at h1
    injection h1 with h2
    unfold aI aR at h2
    injection h2 with h3
    injection h3 with h4 h5
    injection h5 with h6 h7
    cases h7
  refine ⟨by rw [hu_n _ _ n1]; exact hc.1, by rw [hu_n _ _ n2]; exact hc.2.1, fun i hi => ?_⟩
  rcases hc.2.2 i hi with z | ⟨q', a, b, c, z1, z2, z3, z4⟩
  · exact Or.inl z
  · refine Or.inr ⟨q', a, b, c, z1, z2, ?_, z4⟩
    rw [hu_n]
    · exact z3
    · intro z
      rw [z, ho] at z3
      cases z3
theorem Cy_x (hc : Cy D h x T f u v o n g σ) (n' : Int) : Cy D (hu h x (ob 0 [.ref T, .ref f, .ref u, .ref v, .ref o, iv n'])) x T f u v o n' g σ := by
  refine ⟨hu_s _ _ _, by rw [hu_n _ _ (Cy_xT hc).symm]; exact hc.2.1, fun i hi => ?_⟩
  rcases hc.2.2 i hi with z | ⟨q', a, b, c, z1, z2, z3, z4⟩
  · exact Or.inl z
  · refine Or.inr ⟨q', a, b, c, z1, z2, ?_, z4⟩
    rw [hu_n]
    · exact z3
    · intro z
      rw [z, hc.1] at z3
      cases z3
end
abbrev rX6_isLess : Room := { frames := 2, cells := 0, slots := 0, locals := 44 }
theorem c_X6_isLess {l : Launch} (hl : l.stackTraces = false) (D : va_G) (z0 : Nat) (h : Hp) (x T f u v o : Nat) (n : Int) (g : Nat → Option Nat) (σ : Tg) (hc : Cy D h x T f u v o n g σ) (p q w : Int) (hp : hdp σ p) (hq : hdp σ q) (hw : 0 ≤ w ∧ w ≤ 65535) : CC l yX6_isLess cX6_isLess 6 (some .boolean) rX6_isLess D z0 h [.ref x, iv p, iv q, iv w] (PV (iv (lsI σ w p q)) h) NX := by
  refine CC_of RX6 hl (by decide) rfl (Nat.le_of_ble_eq_true rfl) (fun K X Y Z hmn hKl => ?_)
  subst hKl
  show WW K D z0 6 h 0 0 0 [(0, .ref x), (1, iv p), (2, iv q), (3, iv w)] []
  obtain ⟨hp1, a1, b1, c1, s1⟩ := hp
  obtain ⟨hp2, a2, b2, c2, s2⟩ := hq
  obtain ⟨q1, g1, t1, v1⟩ := Trs_of hc.2.2 (by omega) s1
  obtain ⟨q2, g2, t2, v2⟩ := Trs_of hc.2.2 (by omega) s2
  have hb1 := TV_b v1
  have hb2 := TV_b v2
  refine r_aload_n 0 X dX6_isLess_0 rfl ?_
  refine r_iload_n 1 X dX6_isLess_1 rfl ?_
  refine r_callV X dX6_isLess_2 kX6_71 hc.1 (c_X6_triangleAt (CX_l X) D z0 h x T f u v o n g σ hc p ⟨by omega, by omega⟩) [] rfl rfl (Nat.le_of_ble_eq_true rfl) (by decide) (by decide) (fun _ _ z => z.elim) (fun v9 h9 hv9 => ?_)
  obtain ⟨rfl, e9⟩ := hv9
  rw [e9]
  rw [if_pos hp1, g1]
  show WW K D z0 6 h 0 0 5 [(0, .ref x), (1, iv p), (2, iv q), (3, iv w)] [.ref q1]
  refine r_astore (L' := [(4, .ref q1), (0, .ref x), (1, iv p), (2, iv q), (3, iv w)]) X dX6_isLess_5 (by decide) rfl ?_
  refine r_aload_n 1 X dX6_isLess_7 rfl ?_
  refine r_iload_n 3 X dX6_isLess_8 rfl ?_
  refine r_callV X dX6_isLess_9 kX6_71 hc.1 (c_X6_triangleAt (CX_l X) D z0 h x T f u v o n g σ hc q ⟨by omega, by omega⟩) [] rfl rfl (Nat.le_of_ble_eq_true rfl) (by decide) (by decide) (fun _ _ z => z.elim) (fun v9 h9 hv9 => ?_)
  obtain ⟨rfl, e9⟩ := hv9
  rw [e9]
  rw [if_pos hp2, g2]
  show WW K D z0 6 h 0 0 12 [(4, .ref q1), (0, .ref x), (1, iv p), (2, iv q), (3, iv w)] [.ref q2]
  refine r_astore (L' := [(5, .ref q2), (4, .ref q1), (0, .ref x), (1, iv p), (2, iv q), (3, iv w)]) X dX6_isLess_12 (by decide) rfl ?_
  refine r_aload 1 X dX6_isLess_14 rfl ?_
  refine r_ifnull X dX6_isLess_16 ?_
  refine r_aload 0 X dX6_isLess_19 rfl ?_
  refine r_ifnonnull 26 X dX6_isLess_21 (by decide) ?_
  refine r_iload_n 5 X dX6_isLess_26 rfl ?_
  refine r_bipush X dX6_isLess_27 (by decide) ?_
  refine r_icmp_ne 51 X dX6_isLess_29 (by decide) ⟨by omega, by omega⟩ ⟨by omega, by omega⟩ (fun c29 => ?_) (fun c29 => ?_)
  · refine r_iload_n 5 X dX6_isLess_51 rfl ?_
    refine r_bipush X dX6_isLess_52 (by decide) ?_
    refine r_icmp_ne 78 X dX6_isLess_54 (by decide) ⟨by omega, by omega⟩ ⟨by omega, by omega⟩ (fun c54 => ?_) (fun c54 => ?_)
    · refine r_aload 1 X dX6_isLess_78 rfl ?_
      refine r_aload 0 X dX6_isLess_80 rfl ?_
      refine r_callV_v X dX6_isLess_82 kX6_131 t1 (c_X5_comparedByArea (CX_l X) D z0 h q1 a1 b1 c1 t1 v1 q2 a2 b2 c2 t2 v2) [] rfl rfl (Nat.le_of_ble_eq_true rfl) (by decide) rfl rfl (by decide) ?_
      refine r_if_ge 92 X dX6_isLess_85 (by decide) ⟨by unfold cmpv; split <;> (try split) <;> omega, by unfold cmpv; split <;> (try split) <;> omega⟩ (fun c85 => ?_) (fun c85 => ?_)
      · refine r_iconst X dX6_isLess_92 ?_
        refine r_zret X Y dX6_isLess_93 (Or.inl rfl) (by decide) (by decide) ?_
        exact pv (by unfold lsI; rw [on_s s1, on_s s2, if_neg (by first | omega | (unfold cmpv at c85; split at c85 <;> (try split at c85) <;> omega))])
      · refine r_iconst X dX6_isLess_88 ?_
        refine r_goto 93 X dX6_isLess_89 (by decide) ?_
        refine r_zret X Y dX6_isLess_93 (Or.inr rfl) (by decide) (by decide) ?_
        exact pv (by unfold lsI; rw [on_s s1, on_s s2, if_pos (by first | omega | (unfold cmpv at c85; split at c85 <;> (try split at c85) <;> omega))])
    · refine r_aload 1 X dX6_isLess_57 rfl ?_
      refine r_callV_v X dX6_isLess_59 kX6_155 t1 (c_X5_around (CX_l X) D z0 h q1 a1 b1 c1 t1 v1) [] rfl rfl (Nat.le_of_ble_eq_true rfl) (by decide) rfl rfl (by decide) ?_
      refine r_aload 0 X dX6_isLess_62 rfl ?_
      refine r_callV_v X dX6_isLess_64 kX6_155 t2 (c_X5_around (CX_l X) D z0 h q2 a2 b2 c2 t2 v2) [iv (a1 + b1 + c1)] rfl rfl (Nat.le_of_ble_eq_true rfl) (by decide) rfl rfl (by decide) ?_
      refine r_icmp_ge 74 X dX6_isLess_67 (by decide) ⟨by omega, by omega⟩ ⟨by omega, by omega⟩ (fun c67 => ?_) (fun c67 => ?_)
      · refine r_iconst X dX6_isLess_74 ?_
        refine r_goto 93 X dX6_isLess_75 (by decide) ?_
        refine r_zret X Y dX6_isLess_93 (Or.inl rfl) (by decide) (by decide) ?_
        exact pv (by unfold lsI; rw [on_s s1, on_s s2, if_neg (by first | omega | (unfold cmpv at c85; split at c85 <;> (try split at c85) <;> omega))])
      · refine r_iconst X dX6_isLess_70 ?_
        refine r_goto 93 X dX6_isLess_71 (by decide) ?_
        refine r_zret X Y dX6_isLess_93 (Or.inr rfl) (by decide) (by decide) ?_
        exact pv (by unfold lsI; rw [on_s s1, on_s s2, if_pos (by first | omega | (unfold cmpv at c85; split at c85 <;> (try split at c85) <;> omega))])
  · refine r_aload 1 X dX6_isLess_32 rfl ?_
    refine r_getf X dX6_isLess_34 fX6_89 t1 rfl ?_
    refine r_aload 0 X dX6_isLess_37 rfl ?_
    refine r_getf X dX6_isLess_39 fX6_89 t2 rfl ?_
    refine r_icmp_ge 49 X dX6_isLess_42 (by decide) ⟨by omega, by omega⟩ ⟨by omega, by omega⟩ (fun c42 => ?_) (fun c42 => ?_)
    · refine r_iconst X dX6_isLess_49 ?_
      refine r_zret X Y dX6_isLess_50 (Or.inl rfl) (by decide) (by decide) ?_
      exact pv (by unfold lsI; rw [on_s s1, on_s s2, if_neg (by first | omega | (unfold cmpv at c85; split at c85 <;> (try split at c85) <;> omega))])
    · refine r_iconst X dX6_isLess_45 ?_
      refine r_goto 50 X dX6_isLess_46 (by decide) ?_
      refine r_zret X Y dX6_isLess_50 (Or.inr rfl) (by decide) (by decide) ?_
      exact pv (by unfold lsI; rw [on_s s1, on_s s2, if_pos (by first | omega | (unfold cmpv at c85; split at c85 <;> (try split at c85) <;> omega))])
abbrev rX6_putInOrder : Room := { frames := 3, cells := 0, slots := 0, locals := 69 }
theorem c_X6_putInOrder {l : Launch} (hl : l.stackTraces = false) (D : va_G) (z0 : Nat) (h : Hp) (x T f u v o : Nat) (k : Nat) (g : Nat → Option Nat) (σ : Tg) (hc : Cy D h x T f u v o (k : Int) g σ) (p w : Int) (od : Nat → Int) (ho : h o = some (aI D 16 od)) (hk : k < 16) (hod : ∀ i, i < k → hdp σ (od i)) (hp : hdp σ p) (hw : 0 ≤ w ∧ w ≤ 65535) : CC l yX6_putInOrder cX6_putInOrder 4 none rX6_putInOrder D z0 h [.ref x, iv p, iv w] (fun w0 h' => w0 = none ∧ Cy D h' x T f u v o ((k : Int) + 1) g σ ∧ h' o = some (aI D 16 (insO σ w p k od)) ∧ Keep (fun y => y = o ∨ y = x) h h') NX := by
  refine CC_of RX6 hl (by decide) rfl (Nat.le_of_ble_eq_true rfl) (fun K X Y Z hmn hKl => ?_)
  subst hKl
  show WW K D z0 4 h 0 0 0 [(0, .ref x), (1, iv p), (2, iv w)] []
  have loop : ∀ (j : Nat) (q : Nat → Int), j ≤ k → (∀ i, i < j → q i = od i) → insO σ w p j q = insO σ w p k od → WW K D z0 4 (hu h o (aI D 16 q)) 0 0 5 [(3, iv (j : Int)), (0, .ref x), (1, iv p), (2, iv w)] [] := by
    intro j
    induction j with
    | zero =>
      intro q hj hqo hqe
      have hq9 := Cy_o hc ho (aI D 16 q)
      refine r_iload_n 0 X dX6_putInOrder_5 rfl ?_
      refine r_if_le 52 X dX6_putInOrder_6 (by decide) ⟨by omega, by omega⟩ (fun c6 => ?_) (fun c6 => ?_)
      · refine r_iload_n 0 X dX6_putInOrder_52 rfl ?_
        refine r_if_lt 79 X dX6_putInOrder_53 (by decide) ⟨by omega, by omega⟩ (fun c53 => ?_) (fun c53 => ?_)
        · exact absurd c53 (by omega)
        · refine r_iload_n 0 X dX6_putInOrder_56 rfl ?_
          refine r_bipush X dX6_putInOrder_57 (by decide) ?_
          refine r_icmp_ge 79 X dX6_putInOrder_59 (by decide) ⟨by omega, by omega⟩ ⟨by omega, by omega⟩ (fun c59 => ?_) (fun c59 => ?_)
          · exact absurd c59 (by omega)
          · refine r_aload_n 1 X dX6_putInOrder_62 rfl ?_
            refine r_getf X dX6_putInOrder_63 fX6_28 hq9.1 rfl ?_
            refine r_iload_n 0 X dX6_putInOrder_66 rfl ?_
            refine r_iload_n 2 X dX6_putInOrder_67 rfl ?_
            refine r_iastore X dX6_putInOrder_68 (hu_s _ _ _) ⟨by omega, by omega⟩ (by decide) ?_
            refine WW_h (hu_hu _ _ _ _) ?_
            show WW K D z0 4 (hu h o (aI D 16 (up q 0 p))) 0 0 69 [(3, iv ((0 : Nat) : Int)), (0, .ref x), (1, iv p), (2, iv w)] []
            refine r_aload_n 1 X dX6_putInOrder_69 rfl ?_
            refine r_dup X dX6_putInOrder_70 rfl ?_
            refine r_getf X dX6_putInOrder_71 fX6_32 (Cy_o hc ho _).1 rfl ?_
            refine r_iconst X dX6_putInOrder_74 ?_
            refine r_iadd X dX6_putInOrder_75 ?_
            refine r_putf (fs' := [.ref T, .ref f, .ref u, .ref v, .ref o, iv ((k : Int) + 1)]) X dX6_putInOrder_76 fX6_32 (Cy_o hc ho _).1 rfl (Nat.le_of_ble_eq_true rfl) rfl rfl rfl ?_
            refine r_vret X Y dX6_putInOrder_79 (by decide) (by decide) ?_
            refine ⟨rfl, ?_, ?_, fun y e' hy hn => ?_⟩
            · exact Cy_x (Cy_o hc ho _) _
            · rw [← hqe, hu_n _ _ (fun z => ?_)]
              · exact hu_s _ _ _
              · have h1 := hc.1
                rw [← z, ho] at h1
                cases h1
            · rw [hu_n _ _ (fun z => hn (Or.inr z)), hu_n _ _ (fun z => hn (Or.inl z))]
              exact hy
      · exact absurd (by omega) c6
    | succ j ih =>
      intro q hj hqo hqe
      have hq9 := Cy_o hc ho (aI D 16 q)
      have e8 : ((((j + 1 : Nat) : Int) - 1).toNat) = j := by omega
      have hqq : ∀ i, i < j + 1 → hdp σ (q i) := fun i hi => by rw [hqo i hi]; exact hod i (by omega)
      refine r_iload_n 0 X dX6_putInOrder_5 rfl ?_
      refine r_if_le 52 X dX6_putInOrder_6 (by decide) ⟨by omega, by omega⟩ (fun c6 => ?_) (fun c6 => ?_)
      · exact absurd c6 (by omega)
      · refine r_iload_n 0 X dX6_putInOrder_9 rfl ?_
        refine r_bipush X dX6_putInOrder_10 (by decide) ?_
        refine r_icmp_ge 52 X dX6_putInOrder_12 (by decide) ⟨by omega, by omega⟩ ⟨by omega, by omega⟩ (fun c12 => ?_) (fun c12 => ?_)
        · exact absurd c12 (by omega)
        · refine r_aload_n 1 X dX6_putInOrder_15 rfl ?_
          refine r_iload_n 2 X dX6_putInOrder_16 rfl ?_
          refine r_aload_n 1 X dX6_putInOrder_17 rfl ?_
          refine r_getf X dX6_putInOrder_18 fX6_28 hq9.1 rfl ?_
          refine r_iload_n 0 X dX6_putInOrder_21 rfl ?_
          refine r_iconst X dX6_putInOrder_22 ?_
          refine r_isub X dX6_putInOrder_23 ?_
          refine r_iaload X dX6_putInOrder_24 (hu_s _ _ _) ⟨by omega, by omega⟩ (by decide) ?_
          rw [e8]
          show WW K D z0 4 (hu h o (aI D 16 q)) 0 0 25 [(3, iv ((j + 1 : Nat) : Int)), (0, .ref x), (1, iv p), (2, iv w)] [iv (q j), iv p, .ref x]
          refine r_iload_n 3 X dX6_putInOrder_25 rfl ?_
          refine r_callV_v X dX6_putInOrder_26 kX6_304 hq9.1 (c_X6_isLess (CX_l X) D z0 (hu h o (aI D 16 q)) x T f u v o (k : Int) g σ hq9 p (q j) w hp (hqq j (by omega)) hw) [] rfl rfl (Nat.le_of_ble_eq_true rfl) (by decide) rfl rfl (by decide) ?_
          refine r_if_eq 52 X dX6_putInOrder_29 (by decide) (lsI_r _ _ _ _) (fun c29 => ?_) (fun c29 => ?_)
          · refine r_iload_n 0 X dX6_putInOrder_52 rfl ?_
            refine r_if_lt 79 X dX6_putInOrder_53 (by decide) ⟨by omega, by omega⟩ (fun c53 => ?_) (fun c53 => ?_)
            · exact absurd c53 (by omega)
            · refine r_iload_n 0 X dX6_putInOrder_56 rfl ?_
              refine r_bipush X dX6_putInOrder_57 (by decide) ?_
              refine r_icmp_ge 79 X dX6_putInOrder_59 (by decide) ⟨by omega, by omega⟩ ⟨by omega, by omega⟩ (fun c59 => ?_) (fun c59 => ?_)
              · exact absurd c59 (by omega)
              · refine r_aload_n 1 X dX6_putInOrder_62 rfl ?_
                refine r_getf X dX6_putInOrder_63 fX6_28 hq9.1 rfl ?_
                refine r_iload_n 0 X dX6_putInOrder_66 rfl ?_
                refine r_iload_n 2 X dX6_putInOrder_67 rfl ?_
                refine r_iastore X dX6_putInOrder_68 (hu_s _ _ _) ⟨by omega, by omega⟩ (by decide) ?_
                refine WW_h (hu_hu _ _ _ _) ?_
                show WW K D z0 4 (hu h o (aI D 16 (up q (j + 1) p))) 0 0 69 [(3, iv ((j + 1 : Nat) : Int)), (0, .ref x), (1, iv p), (2, iv w)] []
                refine r_aload_n 1 X dX6_putInOrder_69 rfl ?_
                refine r_dup X dX6_putInOrder_70 rfl ?_
                refine r_getf X dX6_putInOrder_71 fX6_32 (Cy_o hc ho _).1 rfl ?_
                refine r_iconst X dX6_putInOrder_74 ?_
                refine r_iadd X dX6_putInOrder_75 ?_
                refine r_putf (fs' := [.ref T, .ref f, .ref u, .ref v, .ref o, iv ((k : Int) + 1)]) X dX6_putInOrder_76 fX6_32 (Cy_o hc ho _).1 rfl (Nat.le_of_ble_eq_true rfl) rfl rfl rfl ?_
                refine r_vret X Y dX6_putInOrder_79 (by decide) (by decide) ?_
                refine ⟨rfl, ?_, ?_, fun y e' hy hn => ?_⟩
                · exact Cy_x (Cy_o hc ho _) _
                · rw [← hqe, hu_n _ _ (fun z => ?_)]
                  · rw [show insO σ w p (j + 1) q = up q (j + 1) p by unfold insO; rw [if_pos c29]]; exact hu_s _ _ _
                  · have h1 := hc.1
                    rw [← z, ho] at h1
                    cases h1
                · rw [hu_n _ _ (fun z => hn (Or.inr z)), hu_n _ _ (fun z => hn (Or.inl z))]
                  exact hy
          · refine r_aload_n 1 X dX6_putInOrder_32 rfl ?_
            refine r_getf X dX6_putInOrder_33 fX6_28 hq9.1 rfl ?_
            refine r_iload_n 0 X dX6_putInOrder_36 rfl ?_
            refine r_aload_n 1 X dX6_putInOrder_37 rfl ?_
            refine r_getf X dX6_putInOrder_38 fX6_28 hq9.1 rfl ?_
            refine r_iload_n 0 X dX6_putInOrder_41 rfl ?_
            refine r_iconst X dX6_putInOrder_42 ?_
            refine r_isub X dX6_putInOrder_43 ?_
            refine r_iaload X dX6_putInOrder_44 (hu_s _ _ _) ⟨by omega, by omega⟩ (by decide) ?_
            rw [e8]
            show WW K D z0 4 (hu h o (aI D 16 q)) 0 0 45 [(3, iv ((j + 1 : Nat) : Int)), (0, .ref x), (1, iv p), (2, iv w)] [iv (q j), iv ((j + 1 : Nat) : Int), .ref o]
            refine r_iastore X dX6_putInOrder_45 (hu_s _ _ _) ⟨by omega, by omega⟩ (by decide) ?_
            refine WW_h (hu_hu _ _ _ _) ?_
            show WW K D z0 4 (hu h o (aI D 16 (up q (j + 1) (q j)))) 0 0 46 [(3, iv ((j + 1 : Nat) : Int)), (0, .ref x), (1, iv p), (2, iv w)] []
            refine r_iinc 0 (L' := [(3, iv (((j + 1 : Nat) : Int) + (-1))), (0, .ref x), (1, iv p), (2, iv w)]) X dX6_putInOrder_46 rfl (by decide) rfl ?_
            refine r_goto 5 X dX6_putInOrder_49 (by decide) ?_
            rw [show ((j + 1 : Nat) : Int) + (-1) = (j : Int) by omega]
            refine ih _ (by omega) (fun i hi => ?_) ?_
            · rw [up_n _ _ (by omega)]
              exact hqo i (by omega)
            · rw [← hqe]
              show _ = insO σ w p (j + 1) q
              rw [insO_s, if_neg c29]
  refine r_aload_n 0 X dX6_putInOrder_0 rfl ?_
  refine r_getf X dX6_putInOrder_1 fX6_32 hc.1 rfl ?_
  refine r_istore_n (L' := [(3, iv (k : Int)), (0, .ref x), (1, iv p), (2, iv w)]) X dX6_putInOrder_4 (by decide) rfl ?_
  refine WW_h (hu_self ho).symm ?_
  exact loop k od (Nat.le_refl _) (fun _ _ => rfl) rfl
abbrev rX6_sort : Room := { frames := 6, cells := 1, slots := 6, locals := 92 }
theorem Keep_tr {W : Nat → Prop} {h h1 h2 : Hp} (a : Keep W h h1) (b : Keep W h1 h2) : Keep W h h2 := fun y e hy hn => b y e (a y e hy hn) hn
theorem srt_s (σ : Tg) (w : Int) (od : Nat → Int) (k : Nat) : srt σ w od (k + 1) = if (σ k).isNone then srt σ w od k else ((srt σ w od k).1 + 1, insO σ w (k : Int) (srt σ w od k).1 (srt σ w od k).2) := rfl
def cdBy (w : Int) : Int := if w = 99 ∨ w = 112 ∨ w = 115 then 0 else 1
theorem c_X6_sort {l : Launch} (hl : l.stackTraces = false) (D : va_G) (z0 : Nat) (h : Hp) (x T f u v o : Nat) (n : Int) (g : Nat → Option Nat) (σ : Tg) (hc : Cy D h x T f u v o n g σ) (w : Int) (hw : 0 ≤ w ∧ w ≤ 65535) (od : Nat → Int) (ho : h o = some (aI D 16 od)) : CC l yX6_sort cX6_sort 3 (some .int) rX6_sort D z0 h [.ref x, iv w] (fun w0 h' => w0 = some (iv ((srt σ w od 16).1 : Int)) ∧ Cy D h' x T f u v o ((srt σ w od 16).1 : Int) g σ ∧ h' o = some (aI D 16 (srt σ w od 16).2) ∧ Keep (fun y => y = o ∨ y = x) h h' ∧ cdBy w = 0) (Xn [iae] (cdBy w) h) := by
  refine CC_of RX6 hl (by decide) rfl (Nat.le_of_ble_eq_true rfl) (fun K X Y Z hmn hKl => ?_)
  subst hKl
  show WW K D z0 3 h 0 0 0 [(0, .ref x), (1, iv w)] []
  refine r_iload_n 1 X dX6_sort_0 rfl ?_
  refine r_bipush X dX6_sort_1 (by decide) ?_
  refine r_icmp_eq 28 X dX6_sort_3 (by decide) ⟨by omega, by omega⟩ ⟨by omega, by omega⟩ (fun c3 => ?_) (fun c3 => ?_)
  · have hcd : cdBy w = 0 := if_pos (by omega)
    have loop : ∀ (m k : Nat) (hA : Hp), k + m = 16 → Cy D hA x T f u v o ((srt σ w od k).1 : Int) g σ → hA o = some (aI D 16 (srt σ w od k).2) → Keep (fun y => y = o ∨ y = x) h hA → WW K D z0 3 hA 0 0 35 [(0, .ref x), (1, iv w), (2, iv (k : Int))] [] := by
      intro m
      induction m with
      | zero =>
        intro k hA hk hq9 hqo hqk
        have hk2 : k = 16 := hk
        subst hk2
        refine r_iload_n 2 X dX6_sort_35 rfl ?_
        refine r_bipush X dX6_sort_36 (by decide) ?_
        refine r_icmp_ge 61 X dX6_sort_38 (by decide) ⟨by omega, by omega⟩ ⟨by omega, by omega⟩ (fun c38 => ?_) (fun c38 => ?_)
        · refine r_aload_n 0 X dX6_sort_61 rfl ?_
          refine r_getf X dX6_sort_62 fX6_32 hq9.1 rfl ?_
          refine r_iret X Y dX6_sort_65 (by decide) (by decide) ?_
          exact ⟨rfl, hq9, hqo, hqk, hcd⟩
        · exact absurd (by omega) c38
      | succ m ih =>
        intro k hA hk hq9 hqo hqk
        refine r_iload_n 2 X dX6_sort_35 rfl ?_
        refine r_bipush X dX6_sort_36 (by decide) ?_
        refine r_icmp_ge 61 X dX6_sort_38 (by decide) ⟨by omega, by omega⟩ ⟨by omega, by omega⟩ (fun c38 => ?_) (fun c38 => ?_)
        · exact absurd c38 (by omega)
        · refine r_aload_n 0 X dX6_sort_41 rfl ?_
          refine r_iload_n 2 X dX6_sort_42 rfl ?_
          refine r_callV X dX6_sort_43 kX6_71 hq9.1 (c_X6_triangleAt (CX_l X) D z0 hA x T f u v o ((srt σ w od k).1 : Int) g σ hq9 (k : Int) ⟨by omega, by omega⟩) [] rfl rfl (Nat.le_of_ble_eq_true rfl) (by decide) (by decide) (fun _ _ z => z.elim) (fun v9 h9 hv9 => ?_)
          obtain ⟨rfl, e9⟩ := hv9
          rw [e9]
          rw [if_pos (show pl (k : Int) by omega), Int.toNat_natCast]
          cases hg : g k with
          | none =>
            have hσ := Trs_none hc.2.2 (by omega) hg
            show WW K D z0 3 hA 0 0 46 [(0, .ref x), (1, iv w), (2, iv (k : Int))] [.null]
            refine r_ifnullN 55 X dX6_sort_46 (by decide) ?_
            refine r_iinc 2 (L' := [(2, iv ((k : Int) + 1)), (0, .ref x), (1, iv w)]) X dX6_sort_55 rfl (by decide) rfl ?_
            refine r_goto 35 X dX6_sort_58 (by decide) ?_
            refine WW_sub (L' := [(0, .ref x), (1, iv w), (2, iv ((k : Int) + 1))]) [1, 2, 0] rfl ?_
            rw [show (k : Int) + 1 = ((k + 1 : Nat) : Int) from rfl]
            have es : srt σ w od (k + 1) = srt σ w od k := by rw [srt_s, hσ]; rfl
            exact ih (k + 1) hA (by omega) (by rw [es]; exact hq9) (by rw [es]; exact hqo) hqk
          | some q =>
            obtain ⟨a, b, c, hσ, ht, hv⟩ := Trs_some hc.2.2 (by omega) hg
            show WW K D z0 3 hA 0 0 46 [(0, .ref x), (1, iv w), (2, iv (k : Int))] [.ref q]
            refine r_ifnull X dX6_sort_46 ?_
            refine r_aload_n 0 X dX6_sort_49 rfl ?_
            refine r_iload_n 2 X dX6_sort_50 rfl ?_
            refine r_iload_n 1 X dX6_sort_51 rfl ?_
            refine r_callV X dX6_sort_52 kX6_240 hq9.1 (c_X6_putInOrder (CX_l X) D z0 hA x T f u v o (srt σ w od k).1 g σ hq9 (k : Int) w (srt σ w od k).2 hqo (by have := (srt_ok σ w od k (by omega)).1; omega) (srt_ok σ w od k (by omega)).2 ⟨by omega, a, b, c, hσ⟩ hw) [] rfl rfl (Nat.le_of_ble_eq_true rfl) (by decide) (by decide) (fun _ _ z => z.elim) (fun v9 h8 hv9 => ?_)
            obtain ⟨rfl, hc8, ho8, hk8⟩ := hv9
            show WW K D z0 3 h8 0 0 55 [(0, .ref x), (1, iv w), (2, iv (k : Int))] []
            refine r_iinc 2 (L' := [(2, iv ((k : Int) + 1)), (0, .ref x), (1, iv w)]) X dX6_sort_55 rfl (by decide) rfl ?_
            refine r_goto 35 X dX6_sort_58 (by decide) ?_
            refine WW_sub (L' := [(0, .ref x), (1, iv w), (2, iv ((k : Int) + 1))]) [1, 2, 0] rfl ?_
            rw [show (k : Int) + 1 = ((k + 1 : Nat) : Int) from rfl]
            have es : srt σ w od (k + 1) = ((srt σ w od k).1 + 1, insO σ w (k : Int) (srt σ w od k).1 (srt σ w od k).2) := by rw [srt_s, hσ]; rfl
            exact ih (k + 1) h8 (by omega) (by rw [es]; exact hc8) (by rw [es]; exact ho8) (Keep_tr hqk hk8)
    refine r_aload_n 0 X dX6_sort_28 rfl ?_
    refine r_iconst X dX6_sort_29 ?_
    refine r_putf (fs' := [.ref T, .ref f, .ref u, .ref v, .ref o, iv 0]) X dX6_sort_30 fX6_32 hc.1 rfl (Nat.le_of_ble_eq_true rfl) rfl rfl rfl ?_
    refine r_iconst X dX6_sort_33 ?_
    refine r_istore_n (L' := [(2, iv 0), (0, .ref x), (1, iv w)]) X dX6_sort_34 (by decide) rfl ?_
    refine WW_sub (L' := [(0, .ref x), (1, iv w), (2, iv 0)]) [1, 2, 0] rfl ?_
    refine loop 16 0 _ rfl (Cy_x hc _) ?_ (fun y e' hy hn => ?_)
    · rw [hu_n _ _ (fun z => ?_)]
      · exact ho
      · have h1 := hc.1
        rw [← z, ho] at h1
        cases h1
    · rw [hu_n _ _ (fun z => hn (Or.inr z))]
      exact hy
  · refine r_iload_n 1 X dX6_sort_6 rfl ?_
    refine r_bipush X dX6_sort_7 (by decide) ?_
    refine r_icmp_eq 28 X dX6_sort_9 (by decide) ⟨by omega, by omega⟩ ⟨by omega, by omega⟩ (fun c9 => ?_) (fun c9 => ?_)
    · have hcd : cdBy w = 0 := if_pos (by omega)
      have loop : ∀ (m k : Nat) (hA : Hp), k + m = 16 → Cy D hA x T f u v o ((srt σ w od k).1 : Int) g σ → hA o = some (aI D 16 (srt σ w od k).2) → Keep (fun y => y = o ∨ y = x) h hA → WW K D z0 3 hA 0 0 35 [(0, .ref x), (1, iv w), (2, iv (k : Int))] [] := by
        intro m
        induction m with
        | zero =>
          intro k hA hk hq9 hqo hqk
          have hk2 : k = 16 := hk
          subst hk2
          refine r_iload_n 2 X dX6_sort_35 rfl ?_
          refine r_bipush X dX6_sort_36 (by decide) ?_
          refine r_icmp_ge 61 X dX6_sort_38 (by decide) ⟨by omega, by omega⟩ ⟨by omega, by omega⟩ (fun c38 => ?_) (fun c38 => ?_)
          · refine r_aload_n 0 X dX6_sort_61 rfl ?_
            refine r_getf X dX6_sort_62 fX6_32 hq9.1 rfl ?_
            refine r_iret X Y dX6_sort_65 (by decide) (by decide) ?_
            exact ⟨rfl, hq9, hqo, hqk, hcd⟩
          · exact absurd (by omega) c38
        | succ m ih =>
          intro k hA hk hq9 hqo hqk
          refine r_iload_n 2 X dX6_sort_35 rfl ?_
          refine r_bipush X dX6_sort_36 (by decide) ?_
          refine r_icmp_ge 61 X dX6_sort_38 (by decide) ⟨by omega, by omega⟩ ⟨by omega, by omega⟩ (fun c38 => ?_) (fun c38 => ?_)
          · exact absurd c38 (by omega)
          · refine r_aload_n 0 X dX6_sort_41 rfl ?_
            refine r_iload_n 2 X dX6_sort_42 rfl ?_
            refine r_callV X dX6_sort_43 kX6_71 hq9.1 (c_X6_triangleAt (CX_l X) D z0 hA x T f u v o ((srt σ w od k).1 : Int) g σ hq9 (k : Int) ⟨by omega, by omega⟩) [] rfl rfl (Nat.le_of_ble_eq_true rfl) (by decide) (by decide) (fun _ _ z => z.elim) (fun v9 h9 hv9 => ?_)
            obtain ⟨rfl, e9⟩ := hv9
            rw [e9]
            rw [if_pos (show pl (k : Int) by omega), Int.toNat_natCast]
            cases hg : g k with
            | none =>
              have hσ := Trs_none hc.2.2 (by omega) hg
              show WW K D z0 3 hA 0 0 46 [(0, .ref x), (1, iv w), (2, iv (k : Int))] [.null]
              refine r_ifnullN 55 X dX6_sort_46 (by decide) ?_
              refine r_iinc 2 (L' := [(2, iv ((k : Int) + 1)), (0, .ref x), (1, iv w)]) X dX6_sort_55 rfl (by decide) rfl ?_
              refine r_goto 35 X dX6_sort_58 (by decide) ?_
              refine WW_sub (L' := [(0, .ref x), (1, iv w), (2, iv ((k : Int) + 1))]) [1, 2, 0] rfl ?_
              rw [show (k : Int) + 1 = ((k + 1 : Nat) : Int) from rfl]
              have es : srt σ w od (k + 1) = srt σ w od k := by rw [srt_s, hσ]; rfl
              exact ih (k + 1) hA (by omega) (by rw [es]; exact hq9) (by rw [es]; exact hqo) hqk
            | some q =>
              obtain ⟨a, b, c, hσ, ht, hv⟩ := Trs_some hc.2.2 (by omega) hg
              show WW K D z0 3 hA 0 0 46 [(0, .ref x), (1, iv w), (2, iv (k : Int))] [.ref q]
              refine r_ifnull X dX6_sort_46 ?_
              refine r_aload_n 0 X dX6_sort_49 rfl ?_
              refine r_iload_n 2 X dX6_sort_50 rfl ?_
              refine r_iload_n 1 X dX6_sort_51 rfl ?_
              refine r_callV X dX6_sort_52 kX6_240 hq9.1 (c_X6_putInOrder (CX_l X) D z0 hA x T f u v o (srt σ w od k).1 g σ hq9 (k : Int) w (srt σ w od k).2 hqo (by have := (srt_ok σ w od k (by omega)).1; omega) (srt_ok σ w od k (by omega)).2 ⟨by omega, a, b, c, hσ⟩ hw) [] rfl rfl (Nat.le_of_ble_eq_true rfl) (by decide) (by decide) (fun _ _ z => z.elim) (fun v9 h8 hv9 => ?_)
              obtain ⟨rfl, hc8, ho8, hk8⟩ := hv9
              show WW K D z0 3 h8 0 0 55 [(0, .ref x), (1, iv w), (2, iv (k : Int))] []
              refine r_iinc 2 (L' := [(2, iv ((k : Int) + 1)), (0, .ref x), (1, iv w)]) X dX6_sort_55 rfl (by decide) rfl ?_
              refine r_goto 35 X dX6_sort_58 (by decide) ?_
              refine WW_sub (L' := [(0, .ref x), (1, iv w), (2, iv ((k : Int) + 1))]) [1, 2, 0] rfl ?_
              rw [show (k : Int) + 1 = ((k + 1 : Nat) : Int) from rfl]
              have es : srt σ w od (k + 1) = ((srt σ w od k).1 + 1, insO σ w (k : Int) (srt σ w od k).1 (srt σ w od k).2) := by rw [srt_s, hσ]; rfl
              exact ih (k + 1) h8 (by omega) (by rw [es]; exact hc8) (by rw [es]; exact ho8) (Keep_tr hqk hk8)
      refine r_aload_n 0 X dX6_sort_28 rfl ?_
      refine r_iconst X dX6_sort_29 ?_
      refine r_putf (fs' := [.ref T, .ref f, .ref u, .ref v, .ref o, iv 0]) X dX6_sort_30 fX6_32 hc.1 rfl (Nat.le_of_ble_eq_true rfl) rfl rfl rfl ?_
      refine r_iconst X dX6_sort_33 ?_
      refine r_istore_n (L' := [(2, iv 0), (0, .ref x), (1, iv w)]) X dX6_sort_34 (by decide) rfl ?_
      refine WW_sub (L' := [(0, .ref x), (1, iv w), (2, iv 0)]) [1, 2, 0] rfl ?_
      refine loop 16 0 _ rfl (Cy_x hc _) ?_ (fun y e' hy hn => ?_)
      · rw [hu_n _ _ (fun z => ?_)]
        · exact ho
        · have h1 := hc.1
          rw [← z, ho] at h1
          cases h1
      · rw [hu_n _ _ (fun z => hn (Or.inr z))]
        exact hy
    · refine r_iload_n 1 X dX6_sort_12 rfl ?_
      refine r_bipush X dX6_sort_13 (by decide) ?_
      refine r_icmp_eq 28 X dX6_sort_15 (by decide) ⟨by omega, by omega⟩ ⟨by omega, by omega⟩ (fun c15 => ?_) (fun c15 => ?_)
      · have hcd : cdBy w = 0 := if_pos (by omega)
        have loop : ∀ (m k : Nat) (hA : Hp), k + m = 16 → Cy D hA x T f u v o ((srt σ w od k).1 : Int) g σ → hA o = some (aI D 16 (srt σ w od k).2) → Keep (fun y => y = o ∨ y = x) h hA → WW K D z0 3 hA 0 0 35 [(0, .ref x), (1, iv w), (2, iv (k : Int))] [] := by
          intro m
          induction m with
          | zero =>
            intro k hA hk hq9 hqo hqk
            have hk2 : k = 16 := hk
            subst hk2
            refine r_iload_n 2 X dX6_sort_35 rfl ?_
            refine r_bipush X dX6_sort_36 (by decide) ?_
            refine r_icmp_ge 61 X dX6_sort_38 (by decide) ⟨by omega, by omega⟩ ⟨by omega, by omega⟩ (fun c38 => ?_) (fun c38 => ?_)
            · refine r_aload_n 0 X dX6_sort_61 rfl ?_
              refine r_getf X dX6_sort_62 fX6_32 hq9.1 rfl ?_
              refine r_iret X Y dX6_sort_65 (by decide) (by decide) ?_
              exact ⟨rfl, hq9, hqo, hqk, hcd⟩
            · exact absurd (by omega) c38
          | succ m ih =>
            intro k hA hk hq9 hqo hqk
            refine r_iload_n 2 X dX6_sort_35 rfl ?_
            refine r_bipush X dX6_sort_36 (by decide) ?_
            refine r_icmp_ge 61 X dX6_sort_38 (by decide) ⟨by omega, by omega⟩ ⟨by omega, by omega⟩ (fun c38 => ?_) (fun c38 => ?_)
            · exact absurd c38 (by omega)
            · refine r_aload_n 0 X dX6_sort_41 rfl ?_
              refine r_iload_n 2 X dX6_sort_42 rfl ?_
              refine r_callV X dX6_sort_43 kX6_71 hq9.1 (c_X6_triangleAt (CX_l X) D z0 hA x T f u v o ((srt σ w od k).1 : Int) g σ hq9 (k : Int) ⟨by omega, by omega⟩) [] rfl rfl (Nat.le_of_ble_eq_true rfl) (by decide) (by decide) (fun _ _ z => z.elim) (fun v9 h9 hv9 => ?_)
              obtain ⟨rfl, e9⟩ := hv9
              rw [e9]
              rw [if_pos (show pl (k : Int) by omega), Int.toNat_natCast]
              cases hg : g k with
              | none =>
                have hσ := Trs_none hc.2.2 (by omega) hg
                show WW K D z0 3 hA 0 0 46 [(0, .ref x), (1, iv w), (2, iv (k : Int))] [.null]
                refine r_ifnullN 55 X dX6_sort_46 (by decide) ?_
                refine r_iinc 2 (L' := [(2, iv ((k : Int) + 1)), (0, .ref x), (1, iv w)]) X dX6_sort_55 rfl (by decide) rfl ?_
                refine r_goto 35 X dX6_sort_58 (by decide) ?_
                refine WW_sub (L' := [(0, .ref x), (1, iv w), (2, iv ((k : Int) + 1))]) [1, 2, 0] rfl ?_
                rw [show (k : Int) + 1 = ((k + 1 : Nat) : Int) from rfl]
                have es : srt σ w od (k + 1) = srt σ w od k := by rw [srt_s, hσ]; rfl
                exact ih (k + 1) hA (by omega) (by rw [es]; exact hq9) (by rw [es]; exact hqo) hqk
              | some q =>
                obtain ⟨a, b, c, hσ, ht, hv⟩ := Trs_some hc.2.2 (by omega) hg
                show WW K D z0 3 hA 0 0 46 [(0, .ref x), (1, iv w), (2, iv (k : Int))] [.ref q]
                refine r_ifnull X dX6_sort_46 ?_
                refine r_aload_n 0 X dX6_sort_49 rfl ?_
                refine r_iload_n 2 X dX6_sort_50 rfl ?_
                refine r_iload_n 1 X dX6_sort_51 rfl ?_
                refine r_callV X dX6_sort_52 kX6_240 hq9.1 (c_X6_putInOrder (CX_l X) D z0 hA x T f u v o (srt σ w od k).1 g σ hq9 (k : Int) w (srt σ w od k).2 hqo (by have := (srt_ok σ w od k (by omega)).1; omega) (srt_ok σ w od k (by omega)).2 ⟨by omega, a, b, c, hσ⟩ hw) [] rfl rfl (Nat.le_of_ble_eq_true rfl) (by decide) (by decide) (fun _ _ z => z.elim) (fun v9 h8 hv9 => ?_)
                obtain ⟨rfl, hc8, ho8, hk8⟩ := hv9
                show WW K D z0 3 h8 0 0 55 [(0, .ref x), (1, iv w), (2, iv (k : Int))] []
                refine r_iinc 2 (L' := [(2, iv ((k : Int) + 1)), (0, .ref x), (1, iv w)]) X dX6_sort_55 rfl (by decide) rfl ?_
                refine r_goto 35 X dX6_sort_58 (by decide) ?_
                refine WW_sub (L' := [(0, .ref x), (1, iv w), (2, iv ((k : Int) + 1))]) [1, 2, 0] rfl ?_
                rw [show (k : Int) + 1 = ((k + 1 : Nat) : Int) from rfl]
                have es : srt σ w od (k + 1) = ((srt σ w od k).1 + 1, insO σ w (k : Int) (srt σ w od k).1 (srt σ w od k).2) := by rw [srt_s, hσ]; rfl
                exact ih (k + 1) h8 (by omega) (by rw [es]; exact hc8) (by rw [es]; exact ho8) (Keep_tr hqk hk8)
        refine r_aload_n 0 X dX6_sort_28 rfl ?_
        refine r_iconst X dX6_sort_29 ?_
        refine r_putf (fs' := [.ref T, .ref f, .ref u, .ref v, .ref o, iv 0]) X dX6_sort_30 fX6_32 hc.1 rfl (Nat.le_of_ble_eq_true rfl) rfl rfl rfl ?_
        refine r_iconst X dX6_sort_33 ?_
        refine r_istore_n (L' := [(2, iv 0), (0, .ref x), (1, iv w)]) X dX6_sort_34 (by decide) rfl ?_
        refine WW_sub (L' := [(0, .ref x), (1, iv w), (2, iv 0)]) [1, 2, 0] rfl ?_
        refine loop 16 0 _ rfl (Cy_x hc _) ?_ (fun y e' hy hn => ?_)
        · rw [hu_n _ _ (fun z => ?_)]
          · exact ho
          · have h1 := hc.1
            rw [← z, ho] at h1
            cases h1
        · rw [hu_n _ _ (fun z => hn (Or.inr z))]
          exact hy
      · refine r_throwS (E := "java/lang/IllegalArgumentException") (text := "there is no such by") X Y Z dX6_sort_18 dX6_sort_21 dX6_sort_22 dX6_sort_24 dX6_sort_27 (by decide) gX6_44 ini_IllegalArgumentException (by decide) hX6_48 (Nat.le_of_ble_eq_true rfl) (by decide) (by decide) (by decide) ?_
        exact Xn_mk 1 (if_neg (by omega)) (by decide) rfl
abbrev rX6_sorted : Room := { frames := 6, cells := 1, slots := 6, locals := 90 }
def cdSo (n w : Int) : Int := if 0 ≤ w ∧ w < n then 0 else 1
theorem c_X6_sorted {l : Launch} (hl : l.stackTraces = false) (D : va_G) (z0 : Nat) (h : Hp) (x T f u v o : Nat) (n : Int) (g : Nat → Option Nat) (σ : Tg) (hc : Cy D h x T f u v o n g σ) (w : Int) (hw : I32 w) (hn : 0 ≤ n ∧ n ≤ 16) (od : Nat → Int) (ho : h o = some (aI D 16 od)) : CC l yX6_sorted cX6_sorted 2 (some .int) rX6_sorted D z0 h [.ref x, iv w] (fun w0 h' => w0 = some (iv (od w.toNat)) ∧ h = h' ∧ cdSo n w = 0) (Xn [iob] (cdSo n w) h) := by
  refine CC_of RX6 hl (by decide) rfl (Nat.le_of_ble_eq_true rfl) (fun K X Y Z hmn hKl => ?_)
  subst hKl
  show WW K D z0 2 h 0 0 0 [(0, .ref x), (1, iv w)] []
  refine r_iload_n 1 X dX6_sorted_0 rfl ?_
  refine r_if_lt 18 X dX6_sorted_1 (by decide) ⟨by omega, by omega⟩ (fun c1 => ?_) (fun c1 => ?_)
  · refine r_throwS (E := "java/lang/IndexOutOfBoundsException") (text := "there is none") X Y Z dX6_sorted_18 dX6_sorted_21 dX6_sorted_22 dX6_sorted_24 dX6_sorted_27 (by decide) gX6_219 ini_IndexOutOfBoundsException (by decide) hX6_223 (Nat.le_of_ble_eq_true rfl) (by decide) (by decide) (by decide) ?_
    exact Xn_mk 1 (if_neg (by omega)) (by decide) rfl
  · refine r_iload_n 1 X dX6_sorted_4 rfl ?_
    refine r_aload_n 0 X dX6_sorted_5 rfl ?_
    refine r_getf X dX6_sorted_6 fX6_32 hc.1 rfl ?_
    refine r_icmp_ge 18 X dX6_sorted_9 (by decide) ⟨by omega, by omega⟩ ⟨by omega, by omega⟩ (fun c9 => ?_) (fun c9 => ?_)
    · refine r_throwS (E := "java/lang/IndexOutOfBoundsException") (text := "there is none") X Y Z dX6_sorted_18 dX6_sorted_21 dX6_sorted_22 dX6_sorted_24 dX6_sorted_27 (by decide) gX6_219 ini_IndexOutOfBoundsException (by decide) hX6_223 (Nat.le_of_ble_eq_true rfl) (by decide) (by decide) (by decide) ?_
      exact Xn_mk 1 (if_neg (by omega)) (by decide) rfl
    · refine r_iload_n 1 X dX6_sorted_12 rfl ?_
      refine r_bipush X dX6_sorted_13 (by decide) ?_
      refine r_icmp_lt 28 X dX6_sorted_15 (by decide) ⟨by omega, by omega⟩ ⟨by omega, by omega⟩ (fun c15 => ?_) (fun c15 => ?_)
      · refine r_aload_n 0 X dX6_sorted_28 rfl ?_
        refine r_getf X dX6_sorted_29 fX6_28 hc.1 rfl ?_
        refine r_iload_n 1 X dX6_sorted_32 rfl ?_
        refine r_iaload X dX6_sorted_33 ho ⟨by omega, by omega⟩ (by decide) ?_
        refine r_iret X Y dX6_sorted_34 (by decide) (by decide) ?_
        exact ⟨rfl, rfl, if_pos (by omega)⟩
      · refine r_throwS (E := "java/lang/IndexOutOfBoundsException") (text := "there is none") X Y Z dX6_sorted_18 dX6_sorted_21 dX6_sorted_22 dX6_sorted_24 dX6_sorted_27 (by decide) gX6_219 ini_IndexOutOfBoundsException (by decide) hX6_223 (Nat.le_of_ble_eq_true rfl) (by decide) (by decide) (by decide) ?_
        exact Xn_mk 1 (if_neg (by omega)) (by decide) rfl
