/-! the model: what it holds -/
def fA (σ : Tg) : Nat → Int := fun i => match σ i with
  | some (a, _, _) => a
  | none => 0
def fB (σ : Tg) : Nat → Int := fun i => match σ i with
  | some (_, b, _) => b
  | none => 0
def fC (σ : Tg) : Nat → Int := fun i => match σ i with
  | some (_, _, c) => c
  | none => 0
theorem fA_s {σ : Tg} {i : Nat} {a b c : Int} (h : σ i = some (a, b, c)) : fA σ i = a := by unfold fA; rw [h]
theorem fB_s {σ : Tg} {i : Nat} {a b c : Int} (h : σ i = some (a, b, c)) : fB σ i = b := by unfold fB; rw [h]
theorem fC_s {σ : Tg} {i : Nat} {a b c : Int} (h : σ i = some (a, b, c)) : fC σ i = c := by unfold fC; rw [h]
def TVs (σ : Tg) : Prop := ∀ i, i < 16 → ∀ a b c : Int, σ i = some (a, b, c) → TV a b c
theorem TVs_of {h : Hp} {g : Nat → Option Nat} {σ : Tg} (hs : Trs h g σ) : TVs σ := by
  intro i hi a b c e
  rcases hs i hi with ⟨-, z⟩ | ⟨q, x, y, w, -, z, -, hv⟩
  · rw [z] at e; cases e
  · rw [z] at e; cases e; exact hv
theorem f_b {σ : Tg} (ht : TVs σ) {i : Nat} (hi : i < 16) : (0 ≤ fA σ i ∧ fA σ i ≤ 65535) ∧ (0 ≤ fB σ i ∧ fB σ i ≤ 65535) ∧ (0 ≤ fC σ i ∧ fC σ i ≤ 65535) ∧ ((σ i).isSome = true ↔ 0 < fC σ i) ∧ (if (σ i).isNone then (0 : Int) else 1) = (if 0 < fC σ i then 1 else 0) := by
  cases e : σ i with
  | none =>
    rw [show fA σ i = 0 by unfold fA; rw [e], show fB σ i = 0 by unfold fB; rw [e], show fC σ i = 0 by unfold fC; rw [e]]
    simp
  | some t =>
    obtain ⟨a, b, c⟩ := t
    have hv := ht i hi a b c e
    rw [fA_s e, fB_s e, fC_s e]
    unfold TV at hv
    refine ⟨by omega, by omega, by omega, ⟨fun _ => by omega, fun _ => rfl⟩, ?_⟩
    rw [if_pos (show 0 < c by omega)]
    rfl
theorem f_up (σ : Tg) (k : Nat) (a b c : Int) : up (fA σ) k a = fA (up σ k (some (a, b, c))) ∧ up (fB σ) k b = fB (up σ k (some (a, b, c))) ∧ up (fC σ) k c = fC (up σ k (some (a, b, c))) := by
  refine ⟨?_, ?_, ?_⟩ <;> funext j <;> by_cases e : j = k
  · rw [e, up_s, fA_s (up_s _ _ _)]
  · unfold fA; rw [up_n _ _ e, up_n _ _ e]
  · rw [e, up_s, fB_s (up_s _ _ _)]
  · unfold fB; rw [up_n _ _ e, up_n _ _ e]
  · rw [e, up_s, fC_s (up_s _ _ _)]
  · unfold fC; rw [up_n _ _ e, up_n _ _ e]
theorem f_un (σ : Tg) (k : Nat) : up (fA σ) k 0 = fA (up σ k none) ∧ up (fB σ) k 0 = fB (up σ k none) ∧ up (fC σ) k 0 = fC (up σ k none) := by
  refine ⟨?_, ?_, ?_⟩ <;> funext j <;> by_cases e : j = k
  · unfold fA; rw [e, up_s, up_s]
  · unfold fA; rw [up_n _ _ e, up_n _ _ e]
  · unfold fB; rw [e, up_s, up_s]
  · unfold fB; rw [up_n _ _ e, up_n _ _ e]
  · unfold fC; rw [e, up_s, up_s]
  · unfold fC; rw [up_n _ _ e, up_n _ _ e]
theorem TVs_un {σ : Tg} (ht : TVs σ) (k : Nat) : TVs (up σ k none) := by
  intro i hi a b c e
  by_cases z : i = k
  · rw [z, up_s] at e; cases e
  · rw [up_n _ _ z] at e; exact ht i hi a b c e
theorem TVs_up {σ : Tg} (ht : TVs σ) (k : Nat) {x y z : Int} (hv : TV x y z) : TVs (up σ k (some (x, y, z))) := by
  intro i hi a b c e
  by_cases w : i = k
  · rw [w, up_s] at e; cases e; exact hv
  · rw [up_n _ _ w] at e; exact ht i hi a b c e
theorem ms_0 {σ : Tg} {p k : Int} (hk : k ≠ 0) (h : ms σ p k = 0) : pl p ∧ ∃ a b c : Int, σ p.toNat = some (a, b, c) := by
  unfold ms at h
  by_cases hp : pl p
  · refine ⟨hp, ?_⟩
    rw [if_neg (fun z => z hp)] at h
    cases e : σ p.toNat with
    | none => rw [e] at h; exact absurd h hk
    | some t => obtain ⟨a, b, c⟩ := t; exact ⟨a, b, c, rfl⟩
  · rw [if_pos hp] at h
    exact absurd h (by decide)
/-- the model y, its arrays v 0 .. v 6 -/
def Mz (D : va_G) (h : Hp) (y : Nat) (v : Nat → Nat) (g1 g2 g3 e1 e2 e3 od : Nat → Int) (lc oc tc hi lo rf sq : Int) : Prop :=
  h y = some (ob 3 [.ref (v 0), .ref (v 1), .ref (v 2), .ref (v 3), .ref (v 4), .ref (v 5), .ref (v 6), iv lc, iv oc, iv tc, jv hi, jv lo, jv rf, iv sq]) ∧ h (v 0) = some (aI D 16 g1) ∧ h (v 1) = some (aI D 16 g2) ∧ h (v 2) = some (aI D 16 g3) ∧ h (v 3) = some (aI D 80 e1) ∧ h (v 4) = some (aI D 80 e2) ∧ h (v 5) = some (aI D 80 e3) ∧ h (v 6) = some (aI D 16 od) ∧ (∀ i j, i < 7 → j < 7 → v i = v j → i = j)
abbrev WM (y : Nat) (v : Nat → Nat) : Nat → Prop := fun z => z = y ∨ ∃ i, i < 7 ∧ z = v i
section Model
variable {D : va_G} {h : Hp} {y : Nat} {v : Nat → Nat} {g1 g2 g3 e1 e2 e3 od : Nat → Int} {lc oc tc hi lo rf sq : Int}
theorem Mz_ne (hm : Mz D h y v g1 g2 g3 e1 e2 e3 od lc oc tc hi lo rf sq) : ∀ i, i < 7 → v i ≠ y := by
  obtain ⟨h0, h1, h2, h3, h4, h5, h6, h7, -⟩ := hm
  intro i hi e
  match i, hi with
  | 0, _ => rw [e, h0] at h1; cases h1
  | 1, _ => rw [e, h0] at h2; cases h2
  | 2, _ => rw [e, h0] at h3; cases h3
  | 3, _ => rw [e, h0] at h4; cases h4
  | 4, _ => rw [e, h0] at h5; cases h5
  | 5, _ => rw [e, h0] at h6; cases h6
  | 6, _ => rw [e, h0] at h7; cases h7
  | k + 7, hk => omega
theorem Mz_y (hm : Mz D h y v g1 g2 g3 e1 e2 e3 od lc oc tc hi lo rf sq) (lc' oc' tc' hi' lo' rf' sq' : Int) : Mz D (hu h y (ob 3 [.ref (v 0), .ref (v 1), .ref (v 2), .ref (v 3), .ref (v 4), .ref (v 5), .ref (v 6), iv lc', iv oc', iv tc', jv hi', jv lo', jv rf', iv sq'])) y v g1 g2 g3 e1 e2 e3 od lc' oc' tc' hi' lo' rf' sq' := by
  have hn := Mz_ne hm
  obtain ⟨h0, h1, h2, h3, h4, h5, h6, h7, h8⟩ := hm
  exact ⟨hu_s _ _ _, by rw [hu_n _ _ (hn 0 (by decide))]; exact h1, by rw [hu_n _ _ (hn 1 (by decide))]; exact h2, by rw [hu_n _ _ (hn 2 (by decide))]; exact h3, by rw [hu_n _ _ (hn 3 (by decide))]; exact h4, by rw [hu_n _ _ (hn 4 (by decide))]; exact h5, by rw [hu_n _ _ (hn 5 (by decide))]; exact h6, by rw [hu_n _ _ (hn 6 (by decide))]; exact h7, h8⟩
theorem Keep_y {e : va_E} : Keep (WM y v) h (hu h y e) := fun q e' hq hn => by rw [hu_n h e (fun z => hn (Or.inl z))]; exact hq
theorem Keep_v {e : va_E} (i : Nat) (hi : i < 7) : Keep (WM y v) h (hu h (v i) e) := fun q e' hq hn => by rw [hu_n h e (fun z => hn (Or.inr ⟨i, hi, z⟩))]; exact hq
theorem Mz_0 (hm : Mz D h y v g1 g2 g3 e1 e2 e3 od lc oc tc hi lo rf sq) (k : Nat) (x : Int) : Mz D (hu h (v 0) (aI D 16 (up g1 k x))) y v (up g1 k x) g2 g3 e1 e2 e3 od lc oc tc hi lo rf sq := by
  have hn := Mz_ne hm
  obtain ⟨h0, h1, h2, h3, h4, h5, h6, h7, h8⟩ := hm
  exact ⟨by rw [hu_n _ _ (Ne.symm (hn 0 (by decide)))]; exact h0, hu_s _ _ _, by rw [hu_n _ _ (fun z => absurd (h8 1 0 (by decide) (by decide) z) (by decide))]; exact h2, by rw [hu_n _ _ (fun z => absurd (h8 2 0 (by decide) (by decide) z) (by decide))]; exact h3, by rw [hu_n _ _ (fun z => absurd (h8 3 0 (by decide) (by decide) z) (by decide))]; exact h4, by rw [hu_n _ _ (fun z => absurd (h8 4 0 (by decide) (by decide) z) (by decide))]; exact h5, by rw [hu_n _ _ (fun z => absurd (h8 5 0 (by decide) (by decide) z) (by decide))]; exact h6, by rw [hu_n _ _ (fun z => absurd (h8 6 0 (by decide) (by decide) z) (by decide))]; exact h7, h8⟩
theorem Mz_1 (hm : Mz D h y v g1 g2 g3 e1 e2 e3 od lc oc tc hi lo rf sq) (k : Nat) (x : Int) : Mz D (hu h (v 1) (aI D 16 (up g2 k x))) y v g1 (up g2 k x) g3 e1 e2 e3 od lc oc tc hi lo rf sq := by
  have hn := Mz_ne hm
  obtain ⟨h0, h1, h2, h3, h4, h5, h6, h7, h8⟩ := hm
  exact ⟨by rw [hu_n _ _ (Ne.symm (hn 1 (by decide)))]; exact h0, by rw [hu_n _ _ (fun z => absurd (h8 0 1 (by decide) (by decide) z) (by decide))]; exact h1, hu_s _ _ _, by rw [hu_n _ _ (fun z => absurd (h8 2 1 (by decide) (by decide) z) (by decide))]; exact h3, by rw [hu_n _ _ (fun z => absurd (h8 3 1 (by decide) (by decide) z) (by decide))]; exact h4, by rw [hu_n _ _ (fun z => absurd (h8 4 1 (by decide) (by decide) z) (by decide))]; exact h5, by rw [hu_n _ _ (fun z => absurd (h8 5 1 (by decide) (by decide) z) (by decide))]; exact h6, by rw [hu_n _ _ (fun z => absurd (h8 6 1 (by decide) (by decide) z) (by decide))]; exact h7, h8⟩
theorem Mz_2 (hm : Mz D h y v g1 g2 g3 e1 e2 e3 od lc oc tc hi lo rf sq) (k : Nat) (x : Int) : Mz D (hu h (v 2) (aI D 16 (up g3 k x))) y v g1 g2 (up g3 k x) e1 e2 e3 od lc oc tc hi lo rf sq := by
  have hn := Mz_ne hm
  obtain ⟨h0, h1, h2, h3, h4, h5, h6, h7, h8⟩ := hm
  exact ⟨by rw [hu_n _ _ (Ne.symm (hn 2 (by decide)))]; exact h0, by rw [hu_n _ _ (fun z => absurd (h8 0 2 (by decide) (by decide) z) (by decide))]; exact h1, by rw [hu_n _ _ (fun z => absurd (h8 1 2 (by decide) (by decide) z) (by decide))]; exact h2, hu_s _ _ _, by rw [hu_n _ _ (fun z => absurd (h8 3 2 (by decide) (by decide) z) (by decide))]; exact h4, by rw [hu_n _ _ (fun z => absurd (h8 4 2 (by decide) (by decide) z) (by decide))]; exact h5, by rw [hu_n _ _ (fun z => absurd (h8 5 2 (by decide) (by decide) z) (by decide))]; exact h6, by rw [hu_n _ _ (fun z => absurd (h8 6 2 (by decide) (by decide) z) (by decide))]; exact h7, h8⟩
theorem Mz_3 (hm : Mz D h y v g1 g2 g3 e1 e2 e3 od lc oc tc hi lo rf sq) (k : Nat) (x : Int) : Mz D (hu h (v 3) (aI D 80 (up e1 k x))) y v g1 g2 g3 (up e1 k x) e2 e3 od lc oc tc hi lo rf sq := by
  have hn := Mz_ne hm
  obtain ⟨h0, h1, h2, h3, h4, h5, h6, h7, h8⟩ := hm
  exact ⟨by rw [hu_n _ _ (Ne.symm (hn 3 (by decide)))]; exact h0, by rw [hu_n _ _ (fun z => absurd (h8 0 3 (by decide) (by decide) z) (by decide))]; exact h1, by rw [hu_n _ _ (fun z => absurd (h8 1 3 (by decide) (by decide) z) (by decide))]; exact h2, by rw [hu_n _ _ (fun z => absurd (h8 2 3 (by decide) (by decide) z) (by decide))]; exact h3, hu_s _ _ _, by rw [hu_n _ _ (fun z => absurd (h8 4 3 (by decide) (by decide) z) (by decide))]; exact h5, by rw [hu_n _ _ (fun z => absurd (h8 5 3 (by decide) (by decide) z) (by decide))]; exact h6, by rw [hu_n _ _ (fun z => absurd (h8 6 3 (by decide) (by decide) z) (by decide))]; exact h7, h8⟩
theorem Mz_4 (hm : Mz D h y v g1 g2 g3 e1 e2 e3 od lc oc tc hi lo rf sq) (k : Nat) (x : Int) : Mz D (hu h (v 4) (aI D 80 (up e2 k x))) y v g1 g2 g3 e1 (up e2 k x) e3 od lc oc tc hi lo rf sq := by
  have hn := Mz_ne hm
  obtain ⟨h0, h1, h2, h3, h4, h5, h6, h7, h8⟩ := hm
  exact ⟨by rw [hu_n _ _ (Ne.symm (hn 4 (by decide)))]; exact h0, by rw [hu_n _ _ (fun z => absurd (h8 0 4 (by decide) (by decide) z) (by decide))]; exact h1, by rw [hu_n _ _ (fun z => absurd (h8 1 4 (by decide) (by decide) z) (by decide))]; exact h2, by rw [hu_n _ _ (fun z => absurd (h8 2 4 (by decide) (by decide) z) (by decide))]; exact h3, by rw [hu_n _ _ (fun z => absurd (h8 3 4 (by decide) (by decide) z) (by decide))]; exact h4, hu_s _ _ _, by rw [hu_n _ _ (fun z => absurd (h8 5 4 (by decide) (by decide) z) (by decide))]; exact h6, by rw [hu_n _ _ (fun z => absurd (h8 6 4 (by decide) (by decide) z) (by decide))]; exact h7, h8⟩
theorem Mz_5 (hm : Mz D h y v g1 g2 g3 e1 e2 e3 od lc oc tc hi lo rf sq) (k : Nat) (x : Int) : Mz D (hu h (v 5) (aI D 80 (up e3 k x))) y v g1 g2 g3 e1 e2 (up e3 k x) od lc oc tc hi lo rf sq := by
  have hn := Mz_ne hm
  obtain ⟨h0, h1, h2, h3, h4, h5, h6, h7, h8⟩ := hm
  exact ⟨by rw [hu_n _ _ (Ne.symm (hn 5 (by decide)))]; exact h0, by rw [hu_n _ _ (fun z => absurd (h8 0 5 (by decide) (by decide) z) (by decide))]; exact h1, by rw [hu_n _ _ (fun z => absurd (h8 1 5 (by decide) (by decide) z) (by decide))]; exact h2, by rw [hu_n _ _ (fun z => absurd (h8 2 5 (by decide) (by decide) z) (by decide))]; exact h3, by rw [hu_n _ _ (fun z => absurd (h8 3 5 (by decide) (by decide) z) (by decide))]; exact h4, by rw [hu_n _ _ (fun z => absurd (h8 4 5 (by decide) (by decide) z) (by decide))]; exact h5, hu_s _ _ _, by rw [hu_n _ _ (fun z => absurd (h8 6 5 (by decide) (by decide) z) (by decide))]; exact h7, h8⟩
theorem Mz_6 (hm : Mz D h y v g1 g2 g3 e1 e2 e3 od lc oc tc hi lo rf sq) (k : Nat) (x : Int) : Mz D (hu h (v 6) (aI D 16 (up od k x))) y v g1 g2 g3 e1 e2 e3 (up od k x) lc oc tc hi lo rf sq := by
  have hn := Mz_ne hm
  obtain ⟨h0, h1, h2, h3, h4, h5, h6, h7, h8⟩ := hm
  exact ⟨by rw [hu_n _ _ (Ne.symm (hn 6 (by decide)))]; exact h0, by rw [hu_n _ _ (fun z => absurd (h8 0 6 (by decide) (by decide) z) (by decide))]; exact h1, by rw [hu_n _ _ (fun z => absurd (h8 1 6 (by decide) (by decide) z) (by decide))]; exact h2, by rw [hu_n _ _ (fun z => absurd (h8 2 6 (by decide) (by decide) z) (by decide))]; exact h3, by rw [hu_n _ _ (fun z => absurd (h8 3 6 (by decide) (by decide) z) (by decide))]; exact h4, by rw [hu_n _ _ (fun z => absurd (h8 4 6 (by decide) (by decide) z) (by decide))]; exact h5, by rw [hu_n _ _ (fun z => absurd (h8 5 6 (by decide) (by decide) z) (by decide))]; exact h6, hu_s _ _ _, h8⟩
variable {K : KT} {z0 nL : Nat} {kc ks pc : Nat} {L : List (Nat × Value)} {st : List Value} {cc : ByteArray} {own : String} {rm : Room}
theorem r_mput (X : CX K D z0 cc nL own rm) {i : Nat} (d : decode cc pc = .ok (.putfield i, 3)) {k : Nat} (F : fdl own i 3 k) (hm : Mz D h y v g1 g2 g3 e1 e2 e3 od lc oc tc hi lo rf sq) {x : Value} (lc' oc' tc' hi' lo' rf' sq' : Int)
    (hfs : [Value.ref (v 0), .ref (v 1), .ref (v 2), .ref (v 3), .ref (v 4), .ref (v 5), .ref (v 6), iv lc, iv oc, iv tc, jv hi, jv lo, jv rf, iv sq].set k x = [.ref (v 0), .ref (v 1), .ref (v 2), .ref (v 3), .ref (v 4), .ref (v 5), .ref (v 6), iv lc', iv oc', iv tc', jv hi', jv lo', jv rf', iv sq']) (hl0 : k < 14)
    (hfin : ((cls4[3]?.map fun q => (q.2.1 k).2.2.2) = some false)) (hn : narrow (tyc 3 k) x = x) (hfit : fits (tyc 3 k) x = true) (kk : ∀ h' : Hp, Mz D h' y v g1 g2 g3 e1 e2 e3 od lc' oc' tc' hi' lo' rf' sq' → Keep (WM y v) h h' → WW K D z0 nL h' kc ks (pc + 3) L st) : WW K D z0 nL h kc ks pc L (x :: .ref y :: st) :=
  r_putf X d F hm.1 hfs hl0 hfin hn hfit (kk _ (Mz_y hm lc' oc' tc' hi' lo' rf' sq') Keep_y)
theorem r_mst0 (X : CX K D z0 cc nL own rm) (d : decode cc pc = .ok (.iastore, 1)) (hm : Mz D h y v g1 g2 g3 e1 e2 e3 od lc oc tc hi lo rf sq) {j x : Int} (hj : 0 ≤ j ∧ j < 16) (kk : ∀ h' : Hp, Mz D h' y v (up g1 j.toNat x) g2 g3 e1 e2 e3 od lc oc tc hi lo rf sq → Keep (WM y v) h h' → WW K D z0 nL h' kc ks (pc + 1) L st) : WW K D z0 nL h kc ks pc L (iv x :: iv j :: .ref (v 0) :: st) :=
  r_iastore X d hm.2.1 hj (by decide) (kk _ (Mz_0 hm j.toNat x) (Keep_v 0 (by decide)))
theorem r_mst1 (X : CX K D z0 cc nL own rm) (d : decode cc pc = .ok (.iastore, 1)) (hm : Mz D h y v g1 g2 g3 e1 e2 e3 od lc oc tc hi lo rf sq) {j x : Int} (hj : 0 ≤ j ∧ j < 16) (kk : ∀ h' : Hp, Mz D h' y v g1 (up g2 j.toNat x) g3 e1 e2 e3 od lc oc tc hi lo rf sq → Keep (WM y v) h h' → WW K D z0 nL h' kc ks (pc + 1) L st) : WW K D z0 nL h kc ks pc L (iv x :: iv j :: .ref (v 1) :: st) :=
  r_iastore X d hm.2.2.1 hj (by decide) (kk _ (Mz_1 hm j.toNat x) (Keep_v 1 (by decide)))
theorem r_mst2 (X : CX K D z0 cc nL own rm) (d : decode cc pc = .ok (.iastore, 1)) (hm : Mz D h y v g1 g2 g3 e1 e2 e3 od lc oc tc hi lo rf sq) {j x : Int} (hj : 0 ≤ j ∧ j < 16) (kk : ∀ h' : Hp, Mz D h' y v g1 g2 (up g3 j.toNat x) e1 e2 e3 od lc oc tc hi lo rf sq → Keep (WM y v) h h' → WW K D z0 nL h' kc ks (pc + 1) L st) : WW K D z0 nL h kc ks pc L (iv x :: iv j :: .ref (v 2) :: st) :=
  r_iastore X d hm.2.2.2.1 hj (by decide) (kk _ (Mz_2 hm j.toNat x) (Keep_v 2 (by decide)))
theorem r_mst3 (X : CX K D z0 cc nL own rm) (d : decode cc pc = .ok (.iastore, 1)) (hm : Mz D h y v g1 g2 g3 e1 e2 e3 od lc oc tc hi lo rf sq) {j x : Int} (hj : 0 ≤ j ∧ j < 80) (kk : ∀ h' : Hp, Mz D h' y v g1 g2 g3 (up e1 j.toNat x) e2 e3 od lc oc tc hi lo rf sq → Keep (WM y v) h h' → WW K D z0 nL h' kc ks (pc + 1) L st) : WW K D z0 nL h kc ks pc L (iv x :: iv j :: .ref (v 3) :: st) :=
  r_iastore X d hm.2.2.2.2.1 hj (by decide) (kk _ (Mz_3 hm j.toNat x) (Keep_v 3 (by decide)))
theorem r_mst4 (X : CX K D z0 cc nL own rm) (d : decode cc pc = .ok (.iastore, 1)) (hm : Mz D h y v g1 g2 g3 e1 e2 e3 od lc oc tc hi lo rf sq) {j x : Int} (hj : 0 ≤ j ∧ j < 80) (kk : ∀ h' : Hp, Mz D h' y v g1 g2 g3 e1 (up e2 j.toNat x) e3 od lc oc tc hi lo rf sq → Keep (WM y v) h h' → WW K D z0 nL h' kc ks (pc + 1) L st) : WW K D z0 nL h kc ks pc L (iv x :: iv j :: .ref (v 4) :: st) :=
  r_iastore X d hm.2.2.2.2.2.1 hj (by decide) (kk _ (Mz_4 hm j.toNat x) (Keep_v 4 (by decide)))
theorem r_mst5 (X : CX K D z0 cc nL own rm) (d : decode cc pc = .ok (.iastore, 1)) (hm : Mz D h y v g1 g2 g3 e1 e2 e3 od lc oc tc hi lo rf sq) {j x : Int} (hj : 0 ≤ j ∧ j < 80) (kk : ∀ h' : Hp, Mz D h' y v g1 g2 g3 e1 e2 (up e3 j.toNat x) od lc oc tc hi lo rf sq → Keep (WM y v) h h' → WW K D z0 nL h' kc ks (pc + 1) L st) : WW K D z0 nL h kc ks pc L (iv x :: iv j :: .ref (v 5) :: st) :=
  r_iastore X d hm.2.2.2.2.2.2.1 hj (by decide) (kk _ (Mz_5 hm j.toNat x) (Keep_v 5 (by decide)))
theorem r_mst6 (X : CX K D z0 cc nL own rm) (d : decode cc pc = .ok (.iastore, 1)) (hm : Mz D h y v g1 g2 g3 e1 e2 e3 od lc oc tc hi lo rf sq) {j x : Int} (hj : 0 ≤ j ∧ j < 16) (kk : ∀ h' : Hp, Mz D h' y v g1 g2 g3 e1 e2 e3 (up od j.toNat x) lc oc tc hi lo rf sq → Keep (WM y v) h h' → WW K D z0 nL h' kc ks (pc + 1) L st) : WW K D z0 nL h kc ks pc L (iv x :: iv j :: .ref (v 6) :: st) :=
  r_iastore X d hm.2.2.2.2.2.2.2.1 hj (by decide) (kk _ (Mz_6 hm j.toNat x) (Keep_v 6 (by decide)))
theorem r_ialoadE (X : CX K D z0 cc nL own rm) (d : decode cc pc = .ok (.iaload, 1)) {a n : Nat} {g : Nat → Int} {i x : Int} (he : h a = some (aI D n g)) (hi : 0 ≤ i ∧ i < n) (hn : n < 2147483648) (e : g i.toNat = x) (kk : WW K D z0 nL h kc ks (pc + 1) L (iv x :: st)) : WW K D z0 nL h kc ks pc L (iv i :: .ref a :: st) :=
  r_iaload X d he hi hn (by rw [e]; exact kk)
end Model
/-- how a call of the model ends: code cd; the answer val if it is 0, z otherwise; what is held -/
def MO (D : va_G) (y : Nat) (v : Nat → Nat) (σ σ2 : Tg) (e1 e2 e3 od : Nat → Int) (lc oc cd : Int) (val z : Value) (h : Hp) : Option Value → Hp → Prop := fun w h' => w = some (if cd = 0 then val else z) ∧ (∃ hi lo rf sq : Int, Mz D h' y v (fA (if cd = 0 then σ2 else σ)) (fB (if cd = 0 then σ2 else σ)) (fC (if cd = 0 then σ2 else σ)) e1 e2 e3 od lc oc cd hi lo rf sq) ∧ Keep (WM y v) h h'
theorem MO_w {D : va_G} {y : Nat} {v : Nat → Nat} {σ σ2 : Tg} {e1 e2 e3 od : Nat → Int} {lc oc cd k hi lo rf sq : Int} {val z : Value} {h h' : Hp} (e : cd = k) (hk : k ≠ 0) (hm : Mz D h' y v (fA σ) (fB σ) (fC σ) e1 e2 e3 od lc oc k hi lo rf sq) (kp : Keep (WM y v) h h') : MO D y v σ σ2 e1 e2 e3 od lc oc cd val z h (some z) h' := by
  subst e
  unfold MO
  rw [if_neg hk, if_neg hk]
  exact ⟨rfl, ⟨hi, lo, rf, sq, hm⟩, kp⟩
theorem MO_k {D : va_G} {y : Nat} {v : Nat → Nat} {σ σ2 : Tg} {e1 e2 e3 od : Nat → Int} {lc oc cd k hi lo rf sq : Int} {val z w : Value} {h h' : Hp} (e : cd = k) (hk : k = 0) (hw : w = val) (hm : Mz D h' y v (fA σ2) (fB σ2) (fC σ2) e1 e2 e3 od lc oc k hi lo rf sq) (kp : Keep (WM y v) h h') : MO D y v σ σ2 e1 e2 e3 od lc oc cd val z h (some w) h' := by
  subst e
  subst hw
  unfold MO
  rw [if_pos hk, if_pos hk]
  exact ⟨rfl, ⟨hi, lo, rf, sq, hm⟩, kp⟩
abbrev rX7_isBetween : Room := { frames := 0, cells := 0, slots := 0, locals := 0 }
theorem c_X7_isBetween {l : Launch} (hl : l.stackTraces = false) (D : va_G) (z0 : Nat) (h : Hp) (a b c : Int) (ha : I64 a) (hb : I64 b) (hcc : I64 c) : CC l yX7_isBetween cX7_isBetween 6 (some .boolean) rX7_isBetween D z0 h [jv a, jv b, jv c] (PV (iv (if b ≤ a ∧ a ≤ c then 1 else 0)) h) NX := by
  refine CC_of RX7 hl (by decide) rfl (Nat.le_of_ble_eq_true rfl) (fun K X Y Z hmn hKl => ?_)
  subst hKl
  show WW K D z0 6 h 0 0 0 [(0, jv a), (2, jv b), (4, jv c)] []
  refine r_lload_n 0 X dX7_isBetween_0 rfl ?_
  refine r_lload_n 1 X dX7_isBetween_1 rfl ?_
  refine r_lcmp_lt 17 X dX7_isBetween_2 dX7_isBetween_3 (by decide) ⟨by omega, by omega⟩ ⟨by omega, by omega⟩ (fun c2 => ?_) (fun c2 => ?_)
  · refine r_iconst X dX7_isBetween_17 ?_
    refine r_zret X Y dX7_isBetween_18 (Or.inl rfl) (by decide) (by decide) ?_
    exact pv_f (by omega)
  · refine r_lload_n 0 X dX7_isBetween_6 rfl ?_
    refine r_lload 2 X dX7_isBetween_7 rfl ?_
    refine r_lcmp_gt 17 X dX7_isBetween_9 dX7_isBetween_10 (by decide) ⟨by omega, by omega⟩ ⟨by omega, by omega⟩ (fun c9 => ?_) (fun c9 => ?_)
    · refine r_iconst X dX7_isBetween_17 ?_
      refine r_zret X Y dX7_isBetween_18 (Or.inl rfl) (by decide) (by decide) ?_
      exact pv_f (by omega)
    · refine r_iconst X dX7_isBetween_13 ?_
      refine r_goto 18 X dX7_isBetween_14 (by decide) ?_
      refine r_zret X Y dX7_isBetween_18 (Or.inr rfl) (by decide) (by decide) ?_
      exact pv_t (by omega)
abbrev rX7_isPlace : Room := { frames := 1, cells := 0, slots := 0, locals := 25 }
theorem c_X7_isPlace {l : Launch} (hl : l.stackTraces = false) (D : va_G) (z0 : Nat) (h : Hp) (p : Int) (hp0 : I32 p) : CC l yX7_isPlace cX7_isPlace 1 (some .boolean) rX7_isPlace D z0 h [iv p] (PV (iv (if pl p then 1 else 0)) h) NX := by
  refine CC_of RX7 hl (by decide) rfl (Nat.le_of_ble_eq_true rfl) (fun K X Y Z hmn hKl => ?_)
  subst hKl
  show WW K D z0 1 h 0 0 0 [(0, iv p)] []
  refine r_iload_n 0 X dX7_isPlace_0 rfl ?_
  refine r_i2l X dX7_isPlace_1 ⟨by omega, by omega⟩ ?_
  refine r_lconst 0 X dX7_isPlace_2 (by decide) ?_
  refine r_ldc2 15 X dX7_isPlace_3 nX7_35 (by decide) ?_
  refine r_callS_v X dX7_isPlace_6 kX7_37 (c_X7_isBetween (CX_l X) D z0 _ p 0 15 ⟨by omega, by omega⟩ ⟨by omega, by omega⟩ ⟨by omega, by omega⟩) [] rfl rfl (Nat.le_of_ble_eq_true rfl) (by decide) rfl rfl (by decide) ?_
  refine r_zret X Y dX7_isPlace_9 (by split <;> simp) (by decide) (by decide) ?_
  exact pv_b (by omega)
abbrev rX7_isThere : Room := { frames := 0, cells := 0, slots := 0, locals := 0 }
theorem c_X7_isThere {l : Launch} (hl : l.stackTraces = false) (D : va_G) (z0 : Nat) (h : Hp) {y : Nat} {v : Nat → Nat} {σ : Tg} {e1 e2 e3 od : Nat → Int} {lc oc tc hi lo rf sq : Int} (hm : Mz D h y v (fA σ) (fB σ) (fC σ) e1 e2 e3 od lc oc tc hi lo rf sq) (ht : TVs σ) (p : Int) (hp : pl p) : CC l yX7_isThere cX7_isThere 2 (some .boolean) rX7_isThere D z0 h [.ref y, iv p] (PV (iv (if (σ p.toNat).isSome = true then 1 else 0)) h) NX := by
  refine CC_of RX7 hl (by decide) rfl (Nat.le_of_ble_eq_true rfl) (fun K X Y Z hmn hKl => ?_)
  subst hKl
  have hfb := f_b ht (i := p.toNat) (by omega)
  show WW K D z0 2 h 0 0 0 [(0, .ref y), (1, iv p)] []
  refine r_aload_n 0 X dX7_isThere_0 rfl ?_
  refine r_getf X dX7_isThere_1 fX7_16 hm.1 rfl ?_
  refine r_iload_n 1 X dX7_isThere_4 rfl ?_
  refine r_iaload X dX7_isThere_5 hm.2.2.2.1 ⟨by omega, by omega⟩ (by decide) ?_
  refine r_if_le 13 X dX7_isThere_6 (by decide) ⟨by omega, by omega⟩ (fun c6 => ?_) (fun c6 => ?_)
  · refine r_iconst X dX7_isThere_13 ?_
    refine r_zret X Y dX7_isThere_14 (Or.inl rfl) (by decide) (by decide) ?_
    exact pv_f (by rw [hfb.2.2.2.1]; omega)
  · refine r_iconst X dX7_isThere_9 ?_
    refine r_goto 14 X dX7_isThere_10 (by decide) ?_
    refine r_zret X Y dX7_isThere_14 (Or.inr rfl) (by decide) (by decide) ?_
    exact pv_t (by rw [hfb.2.2.2.1]; omega)
abbrev rX7_missing : Room := { frames := 2, cells := 0, slots := 0, locals := 45 }
theorem c_X7_missing {l : Launch} (hl : l.stackTraces = false) (D : va_G) (z0 : Nat) (h : Hp) {y : Nat} {v : Nat → Nat} {σ : Tg} {e1 e2 e3 od : Nat → Int} {lc oc tc hi lo rf sq : Int} (hm : Mz D h y v (fA σ) (fB σ) (fC σ) e1 e2 e3 od lc oc tc hi lo rf sq) (ht : TVs σ) (p k : Int) (hp0 : I32 p) : CC l yX7_missing cX7_missing 3 (some .int) rX7_missing D z0 h [.ref y, iv p, iv k] (PV (iv (ms σ p k)) h) NX := by
  refine CC_of RX7 hl (by decide) rfl (Nat.le_of_ble_eq_true rfl) (fun K X Y Z hmn hKl => ?_)
  subst hKl
  show WW K D z0 3 h 0 0 0 [(0, .ref y), (1, iv p), (2, iv k)] []
  refine r_iload_n 1 X dX7_missing_0 rfl ?_
  refine r_callS_v X dX7_missing_1 kX7_41 (c_X7_isPlace (CX_l X) D z0 _ p ⟨by omega, by omega⟩) [] rfl rfl (Nat.le_of_ble_eq_true rfl) (by decide) rfl rfl (by decide) ?_
  refine r_ifb_ne 11 X dX7_missing_4 (by decide) (fun c4 => ?_) (fun c4 => ?_)
  · refine r_aload_n 0 X dX7_missing_11 rfl ?_
    refine r_iload_n 1 X dX7_missing_12 rfl ?_
    refine r_callV_v X dX7_missing_13 kX7_45 hm.1 (c_X7_isThere (CX_l X) D z0 _ hm ht p (by omega)) [] rfl rfl (Nat.le_of_ble_eq_true rfl) (by decide) rfl rfl (by decide) ?_
    refine r_ifb_ne 23 X dX7_missing_16 (by decide) (fun c16 => ?_) (fun c16 => ?_)
    · refine r_iconst X dX7_missing_23 ?_
      refine r_iret X Y dX7_missing_24 (by decide) (by decide) ?_
      exact pv_i (by unfold ms; (repeat' split) <;> first | rfl | contradiction | (exfalso; simp_all))
    · refine r_iload_n 2 X dX7_missing_19 rfl ?_
      refine r_goto 24 X dX7_missing_20 (by decide) ?_
      refine r_iret X Y dX7_missing_24 (by decide) (by decide) ?_
      exact pv_i (by unfold ms; (repeat' split) <;> first | rfl | contradiction | (exfalso; simp_all))
  · refine r_iconst X dX7_missing_7 ?_
    refine r_goto 24 X dX7_missing_8 (by decide) ?_
    refine r_iret X Y dX7_missing_24 (by decide) (by decide) ?_
    exact pv_i (by unfold ms; (repeat' split) <;> first | rfl | contradiction | (exfalso; simp_all))
abbrev rX7_isWrong : Room := { frames := 0, cells := 0, slots := 0, locals := 0 }
theorem c_X7_isWrong {l : Launch} (hl : l.stackTraces = false) (D : va_G) (z0 : Nat) (h : Hp) {y : Nat} {v : Nat → Nat} {g1 g2 g3 e1 e2 e3 od : Nat → Int} {lc oc tc hi lo rf sq : Int} (hm : Mz D h y v g1 g2 g3 e1 e2 e3 od lc oc tc hi lo rf sq) (k : Int) (hk : I32 k) : CC l yX7_isWrong cX7_isWrong 2 (some .boolean) rX7_isWrong D z0 h [.ref y, iv k] (fun w h' => w = some (iv (if k ≠ 0 then 1 else 0)) ∧ Mz D h' y v g1 g2 g3 e1 e2 e3 od lc oc k hi lo rf sq ∧ Keep (WM y v) h h') NX := by
  refine CC_of RX7 hl (by decide) rfl (Nat.le_of_ble_eq_true rfl) (fun K X Y Z hmn hKl => ?_)
  subst hKl
  show WW K D z0 2 h 0 0 0 [(0, .ref y), (1, iv k)] []
  refine r_aload_n 0 X dX7_isWrong_0 rfl ?_
  refine r_iload_n 1 X dX7_isWrong_1 rfl ?_
  refine r_mput X dX7_isWrong_2 fX7_31 hm lc oc k hi lo rf sq rfl (by decide) rfl rfl rfl (fun hp2 hm2 kp2 => ?_)
  refine r_iload_n 1 X dX7_isWrong_5 rfl ?_
  refine r_if_eq 13 X dX7_isWrong_6 (by decide) ⟨by omega, by omega⟩ (fun c6 => ?_) (fun c6 => ?_)
  · refine r_iconst X dX7_isWrong_13 ?_
    refine r_zret X Y dX7_isWrong_14 (Or.inl rfl) (by decide) (by decide) ?_
    exact ⟨congrArg (fun z => some (iv z)) (if_neg (by omega)).symm, hm2, kp2⟩
  · refine r_iconst X dX7_isWrong_9 ?_
    refine r_goto 14 X dX7_isWrong_10 (by decide) ?_
    refine r_zret X Y dX7_isWrong_14 (Or.inr rfl) (by decide) (by decide) ?_
    exact ⟨congrArg (fun z => some (iv z)) (if_pos (by omega)).symm, hm2, kp2⟩
theorem ms_b {σ : Tg} {p k : Int} (hk : 0 ≤ k ∧ k < 100) : I32 (ms σ p k) := by
  unfold ms
  (repeat' split) <;> omega
abbrev rX7_many : Room := { frames := 0, cells := 0, slots := 0, locals := 0 }
theorem c_X7_many {l : Launch} (hl : l.stackTraces = false) (D : va_G) (z0 : Nat) (h : Hp) {y : Nat} {v : Nat → Nat} {σ : Tg} {e1 e2 e3 od : Nat → Int} {lc oc tc hi lo rf sq : Int} (hm : Mz D h y v (fA σ) (fB σ) (fC σ) e1 e2 e3 od lc oc tc hi lo rf sq) (ht : TVs σ) : CC l yX7_many cX7_many 3 (some .int) rX7_many D z0 h [.ref y] (PV (iv (cntT σ 16)) h) NX := by
  refine CC_of RX7 hl (by decide) rfl (Nat.le_of_ble_eq_true rfl) (fun K X Y Z hmn hKl => ?_)
  subst hKl
  show WW K D z0 3 h 0 0 0 [(0, .ref y)] []
  have loop : ∀ (q i : Nat), i + q = 16 → WW K D z0 3 h 0 0 4 [(2, iv (i : Int)), (1, iv (cntT σ i)), (0, .ref y)] [] := by
    intro q
    induction q with
    | zero =>
      intro i hi6
      refine r_iload_n 0 X dX7_many_4 rfl ?_
      refine r_bipush X dX7_many_5 (by decide) ?_
      refine r_icmp_ge 33 X dX7_many_7 (by decide) ⟨by omega, by omega⟩ ⟨by omega, by omega⟩ (fun c7 => ?_) (fun c7 => ?_)
      · refine r_iload_n 1 X dX7_many_33 rfl ?_
        refine r_iret X Y dX7_many_34 (by decide) (by decide) ?_
        exact pv_i (by rw [show i = 16 from hi6])
      · exfalso
        omega
    | succ q ih =>
      intro i hi6
      have hfb := f_b ht (i := i) (by omega)
      have hcb := cntT_b σ i
      refine r_iload_n 0 X dX7_many_4 rfl ?_
      refine r_bipush X dX7_many_5 (by decide) ?_
      refine r_icmp_ge 33 X dX7_many_7 (by decide) ⟨by omega, by omega⟩ ⟨by omega, by omega⟩ (fun c7 => ?_) (fun c7 => ?_)
      · exfalso
        omega
      · refine r_iload_n 1 X dX7_many_10 rfl ?_
        refine r_aload_n 2 X dX7_many_11 rfl ?_
        refine r_getf X dX7_many_12 fX7_16 hm.1 rfl ?_
        refine r_iload_n 0 X dX7_many_15 rfl ?_
        refine r_ialoadE X dX7_many_16 hm.2.2.2.1 ⟨by omega, by omega⟩ (by decide) (show (fC σ) (i : Int).toNat = (fC σ) i from rfl) ?_
        refine r_if_le 24 X dX7_many_17 (by decide) ⟨by omega, by omega⟩ (fun c17 => ?_) (fun c17 => ?_)
        · refine r_iconst X dX7_many_24 ?_
          refine r_iadd X dX7_many_25 ?_
          refine r_istore_n (L' := [(1, iv ((cntT σ i) + 0)), (2, iv (i : Int)), (0, .ref y)]) X dX7_many_26 (by decide) rfl ?_
          refine r_iinc 1 (L' := [(2, iv ((i : Int) + 1)), (1, iv ((cntT σ i) + 0)), (0, .ref y)]) X dX7_many_27 rfl (by decide) rfl ?_
          refine r_goto 4 X dX7_many_30 (by decide) ?_
          rw [show (cntT σ i) + 0 = cntT σ (i + 1) by
            show _ = cntT σ i + _
            rw [hfb.2.2.2.2]
            split <;> omega]
          exact ih (i + 1) (by omega)
        · refine r_iconst X dX7_many_20 ?_
          refine r_goto 25 X dX7_many_21 (by decide) ?_
          refine r_iadd X dX7_many_25 ?_
          refine r_istore_n (L' := [(1, iv ((cntT σ i) + 1)), (2, iv (i : Int)), (0, .ref y)]) X dX7_many_26 (by decide) rfl ?_
          refine r_iinc 1 (L' := [(2, iv ((i : Int) + 1)), (1, iv ((cntT σ i) + 1)), (0, .ref y)]) X dX7_many_27 rfl (by decide) rfl ?_
          refine r_goto 4 X dX7_many_30 (by decide) ?_
          rw [show (cntT σ i) + 1 = cntT σ (i + 1) by
            show _ = cntT σ i + _
            rw [hfb.2.2.2.2]
            split <;> omega]
          exact ih (i + 1) (by omega)
  refine r_iconst X dX7_many_0 ?_
  refine r_istore_n (L' := [(1, iv 0), (0, .ref y)]) X dX7_many_1 (by decide) rfl ?_
  refine r_iconst X dX7_many_2 ?_
  refine r_istore_n (L' := [(2, iv 0), (1, iv 0), (0, .ref y)]) X dX7_many_3 (by decide) rfl ?_
  exact loop 16 0 rfl
abbrev rX7_sideOf : Room := { frames := 0, cells := 0, slots := 0, locals := 0 }
theorem c_X7_sideOf {l : Launch} (hl : l.stackTraces = false) (D : va_G) (z0 : Nat) (h : Hp) {y : Nat} {v : Nat → Nat} {σ : Tg} {e1 e2 e3 od : Nat → Int} {lc oc tc hi lo rf sq : Int} (hm : Mz D h y v (fA σ) (fB σ) (fC σ) e1 e2 e3 od lc oc tc hi lo rf sq) (ht : TVs σ) (p : Int) (hp : pl p) (a b c : Int) (hs : σ p.toNat = some (a, b, c)) (w : Int) (hw : I32 w := by omega) : CC l yX7_sideOf cX7_sideOf 3 (some .int) rX7_sideOf D z0 h [.ref y, iv p, iv w] (PV (iv (ln a b c w)) h) NX := by
  refine CC_of RX7 hl (by decide) rfl (Nat.le_of_ble_eq_true rfl) (fun K X Y Z hmn hKl => ?_)
  subst hKl
  have hv := ht p.toNat (by omega) a b c hs
  have hb := TV_b hv
  show WW K D z0 3 h 0 0 0 [(0, .ref y), (1, iv p), (2, iv w)] []
  refine r_iload_n 2 X dX7_sideOf_0 rfl ?_
  refine r_if_ne 13 X dX7_sideOf_1 (by decide) ⟨by omega, by omega⟩ (fun c1 => ?_) (fun c1 => ?_)
  · refine r_iload_n 2 X dX7_sideOf_13 rfl ?_
    refine r_iconst X dX7_sideOf_14 ?_
    refine r_icmp_ne 27 X dX7_sideOf_15 (by decide) ⟨by omega, by omega⟩ ⟨by omega, by omega⟩ (fun c15 => ?_) (fun c15 => ?_)
    · refine r_aload_n 0 X dX7_sideOf_27 rfl ?_
      refine r_getf X dX7_sideOf_28 fX7_16 hm.1 rfl ?_
      refine r_iload_n 1 X dX7_sideOf_31 rfl ?_
      refine r_ialoadE X dX7_sideOf_32 hm.2.2.2.1 ⟨by omega, by omega⟩ (by decide) (fC_s hs) ?_
      refine r_iret X Y dX7_sideOf_33 (by decide) (by decide) ?_
      exact pv_i (by unfold ln; split <;> (try split) <;> omega)
    · refine r_aload_n 0 X dX7_sideOf_18 rfl ?_
      refine r_getf X dX7_sideOf_19 fX7_13 hm.1 rfl ?_
      refine r_iload_n 1 X dX7_sideOf_22 rfl ?_
      refine r_ialoadE X dX7_sideOf_23 hm.2.2.1 ⟨by omega, by omega⟩ (by decide) (fB_s hs) ?_
      refine r_goto 33 X dX7_sideOf_24 (by decide) ?_
      refine r_iret X Y dX7_sideOf_33 (by decide) (by decide) ?_
      exact pv_i (by unfold ln; split <;> (try split) <;> omega)
  · refine r_aload_n 0 X dX7_sideOf_4 rfl ?_
    refine r_getf X dX7_sideOf_5 fX7_7 hm.1 rfl ?_
    refine r_iload_n 1 X dX7_sideOf_8 rfl ?_
    refine r_ialoadE X dX7_sideOf_9 hm.2.1 ⟨by omega, by omega⟩ (by decide) (fA_s hs) ?_
    refine r_goto 33 X dX7_sideOf_10 (by decide) ?_
    refine r_iret X Y dX7_sideOf_33 (by decide) (by decide) ?_
    exact pv_i (by unfold ln; split <;> (try split) <;> omega)
abbrev rX7_least : Room := { frames := 0, cells := 0, slots := 0, locals := 0 }
theorem c_X7_least {l : Launch} (hl : l.stackTraces = false) (D : va_G) (z0 : Nat) (h : Hp) (y : Nat) (a b : Int) (ha : I32 a) (hb : I32 b) : CC l yX7_least cX7_least 3 (some .int) rX7_least D z0 h [.ref y, iv a, iv b] (PV (iv (min a b)) h) NX := by
  refine CC_of RX7 hl (by decide) rfl (Nat.le_of_ble_eq_true rfl) (fun K X Y Z hmn hKl => ?_)
  subst hKl
  show WW K D z0 3 h 0 0 0 [(0, .ref y), (1, iv a), (2, iv b)] []
  refine r_iload_n 1 X dX7_least_0 rfl ?_
  refine r_iload_n 2 X dX7_least_1 rfl ?_
  refine r_icmp_ge 9 X dX7_least_2 (by decide) ⟨by omega, by omega⟩ ⟨by omega, by omega⟩ (fun c2 => ?_) (fun c2 => ?_)
  · refine r_iload_n 2 X dX7_least_9 rfl ?_
    refine r_iret X Y dX7_least_10 (by decide) (by decide) ?_
    exact pv_i (by omega)
  · refine r_iload_n 1 X dX7_least_5 rfl ?_
    refine r_goto 10 X dX7_least_6 (by decide) ?_
    refine r_iret X Y dX7_least_10 (by decide) (by decide) ?_
    exact pv_i (by omega)
abbrev rX7_most : Room := { frames := 0, cells := 0, slots := 0, locals := 0 }
theorem c_X7_most {l : Launch} (hl : l.stackTraces = false) (D : va_G) (z0 : Nat) (h : Hp) (y : Nat) (a b : Int) (ha : I32 a) (hb : I32 b) : CC l yX7_most cX7_most 3 (some .int) rX7_most D z0 h [.ref y, iv a, iv b] (PV (iv (max a b)) h) NX := by
  refine CC_of RX7 hl (by decide) rfl (Nat.le_of_ble_eq_true rfl) (fun K X Y Z hmn hKl => ?_)
  subst hKl
  show WW K D z0 3 h 0 0 0 [(0, .ref y), (1, iv a), (2, iv b)] []
  refine r_iload_n 1 X dX7_most_0 rfl ?_
  refine r_iload_n 2 X dX7_most_1 rfl ?_
  refine r_icmp_ge 9 X dX7_most_2 (by decide) ⟨by omega, by omega⟩ ⟨by omega, by omega⟩ (fun c2 => ?_) (fun c2 => ?_)
  · refine r_iload_n 1 X dX7_most_9 rfl ?_
    refine r_iret X Y dX7_most_10 (by decide) (by decide) ?_
    exact pv_i (by omega)
  · refine r_iload_n 2 X dX7_most_5 rfl ?_
    refine r_goto 10 X dX7_most_6 (by decide) ?_
    refine r_iret X Y dX7_most_10 (by decide) (by decide) ?_
    exact pv_i (by omega)
abbrev rX7_hold : Room := { frames := 1, cells := 0, slots := 0, locals := 22 }
theorem c_X7_hold {l : Launch} (hl : l.stackTraces = false) (D : va_G) (z0 : Nat) (h : Hp) {y : Nat} {v : Nat → Nat} {σ : Tg} {e1 e2 e3 od : Nat → Int} {lc oc tc hi lo rf sq : Int} (hm : Mz D h y v (fA σ) (fB σ) (fC σ) e1 e2 e3 od lc oc tc hi lo rf sq) (ht : TVs σ) (p a b c : Int) (hp : pl p) (ha : I32 a) (hb : I32 b) (hcc : I32 c) : CC l yX7_hold cX7_hold 7 none rX7_hold D z0 h [.ref y, iv p, iv a, iv b, iv c] (fun w h' => w = none ∧ Mz D h' y v (fA (up σ p.toNat (st3 a b c))) (fB (up σ p.toNat (st3 a b c))) (fC (up σ p.toNat (st3 a b c))) e1 e2 e3 od lc oc tc hi lo rf sq ∧ Keep (WM y v) h h') NX := by
  refine CC_of RX7 hl (by decide) rfl (Nat.le_of_ble_eq_true rfl) (fun K X Y Z hmn hKl => ?_)
  subst hKl
  show WW K D z0 7 h 0 0 0 [(0, .ref y), (1, iv p), (2, iv a), (3, iv b), (4, iv c)] []
  refine r_aload_n 0 X dX7_hold_0 rfl ?_
  refine r_iload_n 2 X dX7_hold_1 rfl ?_
  refine r_aload_n 0 X dX7_hold_2 rfl ?_
  refine r_iload_n 3 X dX7_hold_3 rfl ?_
  refine r_iload 4 X dX7_hold_4 rfl ?_
  refine r_callV_v X dX7_hold_6 kX7_48 hm.1 (c_X7_least (CX_l X) D z0 _ y b c ⟨by omega, by omega⟩ ⟨by omega, by omega⟩) [iv a, .ref y] rfl rfl (Nat.le_of_ble_eq_true rfl) (by decide) rfl rfl (by decide) ?_
  refine r_callV_v X dX7_hold_9 kX7_48 hm.1 (c_X7_least (CX_l X) D z0 _ y a (min b c) ⟨by omega, by omega⟩ ⟨by omega, by omega⟩) [] rfl rfl (Nat.le_of_ble_eq_true rfl) (by decide) rfl rfl (by decide) ?_
  refine r_istore (L' := [(5, iv (min a (min b c))), (0, .ref y), (1, iv p), (2, iv a), (3, iv b), (4, iv c)]) X dX7_hold_12 (by decide) rfl ?_
  refine r_aload_n 1 X dX7_hold_14 rfl ?_
  refine r_iload_n 3 X dX7_hold_15 rfl ?_
  refine r_aload_n 1 X dX7_hold_16 rfl ?_
  refine r_iload_n 4 X dX7_hold_17 rfl ?_
  refine r_iload 5 X dX7_hold_18 rfl ?_
  refine r_callV_v X dX7_hold_20 kX7_52 hm.1 (c_X7_most (CX_l X) D z0 _ y b c ⟨by omega, by omega⟩ ⟨by omega, by omega⟩) [iv a, .ref y] rfl rfl (Nat.le_of_ble_eq_true rfl) (by decide) rfl rfl (by decide) ?_
  refine r_callV_v X dX7_hold_23 kX7_52 hm.1 (c_X7_most (CX_l X) D z0 _ y a (max b c) ⟨by omega, by omega⟩ ⟨by omega, by omega⟩) [] rfl rfl (Nat.le_of_ble_eq_true rfl) (by decide) rfl rfl (by decide) ?_
  refine r_istore (L' := [(6, iv (max a (max b c))), (5, iv (min a (min b c))), (0, .ref y), (1, iv p), (2, iv a), (3, iv b), (4, iv c)]) X dX7_hold_26 (by decide) rfl ?_
  refine r_aload_n 2 X dX7_hold_28 rfl ?_
  refine r_getf X dX7_hold_29 fX7_7 hm.1 rfl ?_
  refine r_iload_n 3 X dX7_hold_32 rfl ?_
  refine r_iload 1 X dX7_hold_33 rfl ?_
  refine r_mst0 X dX7_hold_35 hm ⟨by omega, by omega⟩ (fun hp35 hm35 kp35 => ?_)
  refine r_aload_n 2 X dX7_hold_36 rfl ?_
  refine r_getf X dX7_hold_37 fX7_16 hm35.1 rfl ?_
  refine r_iload_n 3 X dX7_hold_40 rfl ?_
  refine r_iload 0 X dX7_hold_41 rfl ?_
  refine r_mst2 X dX7_hold_43 hm35 ⟨by omega, by omega⟩ (fun hp43 hm43 kp43 => ?_)
  refine r_aload_n 2 X dX7_hold_44 rfl ?_
  refine r_getf X dX7_hold_45 fX7_13 hm43.1 rfl ?_
  refine r_iload_n 3 X dX7_hold_48 rfl ?_
  refine r_iload_n 4 X dX7_hold_49 rfl ?_
  refine r_iload_n 5 X dX7_hold_50 rfl ?_
  refine r_iadd X dX7_hold_51 ?_
  refine r_iload 6 X dX7_hold_52 rfl ?_
  refine r_iadd X dX7_hold_54 ?_
  refine r_iload 1 X dX7_hold_55 rfl ?_
  refine r_isub X dX7_hold_57 ?_
  refine r_iload 0 X dX7_hold_58 rfl ?_
  refine r_isub X dX7_hold_60 ?_
  refine r_mst1 X dX7_hold_61 hm43 ⟨by omega, by omega⟩ (fun hp61 hm61 kp61 => ?_)
  refine r_vret X Y dX7_hold_62 (by decide) (by decide) ?_
  have hf := f_up σ p.toNat (mn3 a b c) (md3 a b c) (mx3 a b c)
  refine ⟨rfl, ?_, (Keep_tr (Keep_tr kp35 kp43) kp61)⟩
  have hz := hm61
  rw [show min a (min b c) = mn3 a b c from rfl, show max a (max b c) = mx3 a b c from rfl, show a + b + c - mn3 a b c - mx3 a b c = md3 a b c from rfl, hf.1, hf.2.1, hf.2.2] at hz
  exact hz
abbrev rX7_squared : Room := { frames := 0, cells := 0, slots := 0, locals := 0 }
theorem c_X7_squared {l : Launch} (hl : l.stackTraces = false) (D : va_G) (z0 : Nat) (h : Hp) (a : Int) : CC l yX7_squared cX7_squared 2 (some .long) rX7_squared D z0 h [jv a] (PV (jv (a * a)) h) NX := by
  refine CC_of RX7 hl (by decide) rfl (Nat.le_of_ble_eq_true rfl) (fun K X Y Z hmn hKl => ?_)
  subst hKl
  show WW K D z0 2 h 0 0 0 [(0, jv a)] []
  refine r_lload_n 0 X dX7_squared_0 rfl ?_
  refine r_lload_n 0 X dX7_squared_1 rfl ?_
  refine r_lmul X dX7_squared_2 ?_
  refine r_lret X Y dX7_squared_3 (by decide) (by decide) ?_
  exact pv_j (by rfl)
abbrev rX7_kindOf : Room := { frames := 1, cells := 0, slots := 0, locals := 21 }
theorem c_X7_kindOf {l : Launch} (hl : l.stackTraces = false) (D : va_G) (z0 : Nat) (h : Hp) {y : Nat} {v : Nat → Nat} {σ : Tg} {e1 e2 e3 od : Nat → Int} {lc oc tc hi lo rf sq : Int} (hm : Mz D h y v (fA σ) (fB σ) (fC σ) e1 e2 e3 od lc oc tc hi lo rf sq) (ht : TVs σ) (p : Int) (hp : pl p) (a b c : Int) (hs : σ p.toNat = some (a, b, c)) : CC l yX7_kindOf cX7_kindOf 6 (some .int) rX7_kindOf D z0 h [.ref y, iv p] (PV (iv (cmpv (sqb3 a b c 2) 0)) h) NX := by
  refine CC_of RX7 hl (by decide) rfl (Nat.le_of_ble_eq_true rfl) (fun K X Y Z hmn hKl => ?_)
  subst hKl
  have hv := ht p.toNat (by omega) a b c hs
  have hb := TV_b hv
  show WW K D z0 6 h 0 0 0 [(0, .ref y), (1, iv p)] []
  refine r_aload_n 0 X dX7_kindOf_0 rfl ?_
  refine r_getf X dX7_kindOf_1 fX7_7 hm.1 rfl ?_
  refine r_iload_n 1 X dX7_kindOf_4 rfl ?_
  refine r_ialoadE X dX7_kindOf_5 hm.2.1 ⟨by omega, by omega⟩ (by decide) (fA_s hs) ?_
  refine r_i2l X dX7_kindOf_6 ⟨by omega, by omega⟩ ?_
  refine r_callS_v X dX7_kindOf_7 kX7_92 (c_X7_squared (CX_l X) D z0 _ a) [] rfl rfl (Nat.le_of_ble_eq_true rfl) (by decide) rfl rfl (by decide) ?_
  refine r_aload_n 0 X dX7_kindOf_10 rfl ?_
  refine r_getf X dX7_kindOf_11 fX7_13 hm.1 rfl ?_
  refine r_iload_n 1 X dX7_kindOf_14 rfl ?_
  refine r_ialoadE X dX7_kindOf_15 hm.2.2.1 ⟨by omega, by omega⟩ (by decide) (fB_s hs) ?_
  refine r_i2l X dX7_kindOf_16 ⟨by omega, by omega⟩ ?_
  refine r_callS_v X dX7_kindOf_17 kX7_92 (c_X7_squared (CX_l X) D z0 _ b) [jv (a * a)] rfl rfl (Nat.le_of_ble_eq_true rfl) (by decide) rfl rfl (by decide) ?_
  refine r_ladd X dX7_kindOf_20 ?_
  refine r_lstore_n (L' := [(2, jv ((a * a) + (b * b))), (0, .ref y), (1, iv p)]) X dX7_kindOf_21 (by decide) rfl ?_
  refine r_aload_n 1 X dX7_kindOf_22 rfl ?_
  refine r_getf X dX7_kindOf_23 fX7_16 hm.1 rfl ?_
  refine r_iload_n 2 X dX7_kindOf_26 rfl ?_
  refine r_ialoadE X dX7_kindOf_27 hm.2.2.2.1 ⟨by omega, by omega⟩ (by decide) (fC_s hs) ?_
  refine r_i2l X dX7_kindOf_28 ⟨by omega, by omega⟩ ?_
  refine r_callS_v X dX7_kindOf_29 kX7_92 (c_X7_squared (CX_l X) D z0 _ c) [] rfl rfl (Nat.le_of_ble_eq_true rfl) (by decide) rfl rfl (by decide) ?_
  refine r_lstore (L' := [(4, jv (c * c)), (2, jv ((a * a) + (b * b))), (0, .ref y), (1, iv p)]) X dX7_kindOf_32 (by decide) rfl ?_
  refine r_lload_n 1 X dX7_kindOf_34 rfl ?_
  refine r_lload 0 X dX7_kindOf_35 rfl ?_
  refine r_lcmp_ge 45 X dX7_kindOf_37 dX7_kindOf_38 (by decide) ⟨by omega, by omega⟩ ⟨by omega, by omega⟩ (fun c37 => ?_) (fun c37 => ?_)
  · refine r_lload_n 1 X dX7_kindOf_45 rfl ?_
    refine r_lload 0 X dX7_kindOf_46 rfl ?_
    refine r_lcmp_le 56 X dX7_kindOf_48 dX7_kindOf_49 (by decide) ⟨by omega, by omega⟩ ⟨by omega, by omega⟩ (fun c48 => ?_) (fun c48 => ?_)
    · refine r_iconst X dX7_kindOf_56 ?_
      refine r_iret X Y dX7_kindOf_57 (by decide) (by decide) ?_
      exact pv_i (by rw [sq2]; unfold cmpv; split <;> (try split) <;> omega)
    · refine r_iconst X dX7_kindOf_52 ?_
      refine r_goto 57 X dX7_kindOf_53 (by decide) ?_
      refine r_iret X Y dX7_kindOf_57 (by decide) (by decide) ?_
      exact pv_i (by rw [sq2]; unfold cmpv; split <;> (try split) <;> omega)
  · refine r_iconst X dX7_kindOf_41 ?_
    refine r_goto 57 X dX7_kindOf_42 (by decide) ?_
    refine r_iret X Y dX7_kindOf_57 (by decide) (by decide) ?_
    exact pv_i (by rw [sq2]; unfold cmpv; split <;> (try split) <;> omega)
abbrev rX7_around : Room := { frames := 0, cells := 0, slots := 0, locals := 0 }
theorem c_X7_around {l : Launch} (hl : l.stackTraces = false) (D : va_G) (z0 : Nat) (h : Hp) {y : Nat} {v : Nat → Nat} {σ : Tg} {e1 e2 e3 od : Nat → Int} {lc oc tc hi lo rf sq : Int} (hm : Mz D h y v (fA σ) (fB σ) (fC σ) e1 e2 e3 od lc oc tc hi lo rf sq) (ht : TVs σ) (p : Int) (hp : pl p) : CC l yX7_around cX7_around 2 (some .int) rX7_around D z0 h [.ref y, iv p] (PV (iv (fA σ p.toNat + fB σ p.toNat + fC σ p.toNat)) h) NX := by
  refine CC_of RX7 hl (by decide) rfl (Nat.le_of_ble_eq_true rfl) (fun K X Y Z hmn hKl => ?_)
  subst hKl
  show WW K D z0 2 h 0 0 0 [(0, .ref y), (1, iv p)] []
  refine r_aload_n 0 X dX7_around_0 rfl ?_
  refine r_getf X dX7_around_1 fX7_7 hm.1 rfl ?_
  refine r_iload_n 1 X dX7_around_4 rfl ?_
  refine r_iaload X dX7_around_5 hm.2.1 ⟨by omega, by omega⟩ (by decide) ?_
  refine r_aload_n 0 X dX7_around_6 rfl ?_
  refine r_getf X dX7_around_7 fX7_13 hm.1 rfl ?_
  refine r_iload_n 1 X dX7_around_10 rfl ?_
  refine r_iaload X dX7_around_11 hm.2.2.1 ⟨by omega, by omega⟩ (by decide) ?_
  refine r_iadd X dX7_around_12 ?_
  refine r_aload_n 0 X dX7_around_13 rfl ?_
  refine r_getf X dX7_around_14 fX7_16 hm.1 rfl ?_
  refine r_iload_n 1 X dX7_around_17 rfl ?_
  refine r_iaload X dX7_around_18 hm.2.2.2.1 ⟨by omega, by omega⟩ (by decide) ?_
  refine r_iadd X dX7_around_19 ?_
  refine r_iret X Y dX7_around_20 (by decide) (by decide) ?_
  exact pv_i (by rfl)
theorem c_X7_aroundH {l : Launch} (hl : l.stackTraces = false) (D : va_G) (z0 : Nat) (h : Hp) {y : Nat} {v : Nat → Nat} {σ : Tg} {e1 e2 e3 od : Nat → Int} {lc oc tc hi lo rf sq : Int} (hm : Mz D h y v (fA σ) (fB σ) (fC σ) e1 e2 e3 od lc oc tc hi lo rf sq) (ht : TVs σ) (p : Int) (hp : pl p) (a b c : Int) (hs : σ p.toNat = some (a, b, c)) : CC l yX7_around cX7_around 2 (some .int) rX7_around D z0 h [.ref y, iv p] (PV (iv (a + b + c)) h) NX := by
  refine CC_of RX7 hl (by decide) rfl (Nat.le_of_ble_eq_true rfl) (fun K X Y Z hmn hKl => ?_)
  subst hKl
  show WW K D z0 2 h 0 0 0 [(0, .ref y), (1, iv p)] []
  refine r_aload_n 0 X dX7_around_0 rfl ?_
  refine r_getf X dX7_around_1 fX7_7 hm.1 rfl ?_
  refine r_iload_n 1 X dX7_around_4 rfl ?_
  refine r_ialoadE X dX7_around_5 hm.2.1 ⟨by omega, by omega⟩ (by decide) (fA_s hs) ?_
  refine r_aload_n 0 X dX7_around_6 rfl ?_
  refine r_getf X dX7_around_7 fX7_13 hm.1 rfl ?_
  refine r_iload_n 1 X dX7_around_10 rfl ?_
  refine r_ialoadE X dX7_around_11 hm.2.2.1 ⟨by omega, by omega⟩ (by decide) (fB_s hs) ?_
  refine r_iadd X dX7_around_12 ?_
  refine r_aload_n 0 X dX7_around_13 rfl ?_
  refine r_getf X dX7_around_14 fX7_16 hm.1 rfl ?_
  refine r_iload_n 1 X dX7_around_17 rfl ?_
  refine r_ialoadE X dX7_around_18 hm.2.2.2.1 ⟨by omega, by omega⟩ (by decide) (fC_s hs) ?_
  refine r_iadd X dX7_around_19 ?_
  refine r_iret X Y dX7_around_20 (by decide) (by decide) ?_
  exact pv_i (by rfl)
theorem some_of {σ : Tg} {i : Nat} (h : (σ i).isSome = true) : ∃ a b c : Int, σ i = some (a, b, c) := by
  cases e : σ i with
  | none => rw [e] at h; cases h
  | some t => obtain ⟨a, b, c⟩ := t; exact ⟨a, b, c, rfl⟩
theorem isS_f {t : Int × Int × Int} : ((some t).isSome = true) = True := by simp
theorem nN_s {o : Option (Int × Int × Int)} : (¬ o.isSome = true) ↔ o.isNone = true := by cases o <;> simp
theorem nS_n {o : Option (Int × Int × Int)} : o.isSome = true ↔ ¬ o.isNone = true := by cases o <;> simp
