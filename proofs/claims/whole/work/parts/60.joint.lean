/-! the class's object and the model's, side by side -/
/-- what sort of cell: a class's object, or an array and its length -/
def kd : va_E → Nat × Nat
  | .inr (i, _) => (i, 0)
  | .inl (_, n, .inl _) => (10, n)
  | .inl (_, n, .inr (.inl _)) => (11, n)
  | .inl (_, n, .inr (.inr (.inl _))) => (12, n)
  | .inl (_, n, .inr (.inr (.inr (.inl _)))) => (13, n)
  | .inl (_, n, .inr (.inr (.inr (.inr _)))) => (14, n)
theorem ne_kdo {h : Hp} {p q : Nat} {e1 e2 : va_E} {a b : Nat × Nat} (x : h p = some e1) (y : h q = some e2) (ka : kd e1 = a) (kb : kd e2 = b) (n : a ≠ b) : p ≠ q := by
  intro z
  rw [z, y] at x
  cases x
  exact n (ka.symm.trans kb)
theorem kd_ne {a b : Nat × Nat} (h : (a == b) = false) : a ≠ b := fun z => by
  rw [z, beq_self_eq_true] at h
  cases h
theorem ne_kd {h : Hp} {p q : Nat} {e1 e2 : va_E} (x : h p = some e1) (y : h q = some e2) (n : (kd e1 == kd e2) = false) : p ≠ q := ne_kdo x y rfl rfl (kd_ne n)
theorem ne_kdr {h : Hp} {p q : Nat} {e1 e2 : va_E} {b : Nat × Nat} (x : h p = some e1) (y : h q = some e2) (kb : kd e2 = b) (n : (kd e1 == b) = false) : p ≠ q := ne_kdo x y rfl kb (kd_ne n)
/-- cells of the class: its object, its lists, its row of places, the rows of its lists -/
def kdC (e : va_E) : Prop := kd e = (0, 0) ∨ kd e = (1, 0) ∨ kd e = (14, 16) ∨ kd e = (10, 64)
/-- triangles too -/
def kdT (e : va_E) : Prop := kdC e ∨ kd e = (2, 0)
/-- what a call of the class may write -/
def KC (o : Nat) (h h' : Hp) : Prop := ∀ (q : Nat) (e : va_E), h q = some e → q ≠ o → ¬ kdC e → h' q = some e
/-- the same, and the row of the answer -/
def KA (o a : Nat) (h h' : Hp) : Prop := ∀ (q : Nat) (e : va_E), h q = some e → q ≠ o → q ≠ a → ¬ kdC e → h' q = some e
/-- the class's object x, its order's row o; held, listed and ordered is what is told -/
def CS (D : va_G) (h : Hp) (x o : Nat) (σ : Tg) (r : List Nat) (m : Nat) (od : Nat → Int) : Prop :=
  ∃ (T f u v k ku kv : Nat) (g : Nat → Option Nat) (r1 r2 : List Nat), Cy D h x T f u v o (m : Int) g σ ∧ Pm D h f k r ∧ Pm D h u ku r1 ∧ Pm D h v kv r2 ∧ h o = some (aI D 16 od) ∧ (f ≠ u ∧ f ≠ v ∧ u ≠ v) ∧ k ≠ ku ∧ k ≠ kv ∧ ku ≠ kv
/-- the model's object y -/
def MSt (D : va_G) (h : Hp) (y : Nat) (v : Nat → Nat) (σ : Tg) (r : List Nat) (m : Nat) (od : Nat → Int) (tc : Int) : Prop :=
  ∃ (e1 e2 e3 : Nat → Int) (hi lo rf sq : Int), Mz D h y v (fA σ) (fB σ) (fC σ) e1 e2 e3 od (r.length : Int) (m : Int) tc hi lo rf sq ∧ EL e1 e2 e3 r
/-- bounds of what is listed and ordered -/
def PI (r : List Nat) (m : Nat) (od : Nat → Int) : Prop := (r.length ≤ 63 ∧ ∀ a ∈ r, a < 134217728) ∧ m ≤ 16 ∧ ∀ i, i < m → 0 ≤ od i ∧ od i < 16
theorem CS_TVs {D : va_G} {h : Hp} {x o : Nat} {σ : Tg} {r : List Nat} {m : Nat} {od : Nat → Int} (hc : CS D h x o σ r m od) : TVs σ := by
  obtain ⟨T, f, u, v, k, ku, kv, g, r1, r2, h1, -⟩ := hc
  exact TVs_of h1.2.2
theorem Trs_fr {h h' : Hp} {g : Nat → Option Nat} {σ : Tg} (hs : Trs h g σ) (k : ∀ (q : Nat) (e : va_E), h q = some e → kd e = (2, 0) → h' q = some e) : Trs h' g σ := by
  intro i hi
  rcases hs i hi with z | ⟨q, a, b, c, z1, z2, z3, z4⟩
  · exact Or.inl z
  · exact Or.inr ⟨q, a, b, c, z1, z2, k q _ z3 rfl, z4⟩
theorem Pm_fr {D : va_G} {h h' : Hp} {f k : Nat} {r : List Nat} (hm : Pm D h f k r) (k1 : ∀ e, h f = some e → h' f = some e) (k2 : ∀ e, h k = some e → h' k = some e) : Pm D h' f k r := by
  obtain ⟨h1, ks, h2, h3⟩ := hm
  exact ⟨k1 _ h1, ks, k2 _ h2, h3⟩
theorem CS_fr {D : va_G} {h h' : Hp} {x o : Nat} {σ : Tg} {r : List Nat} {m : Nat} {od : Nat → Int} (hc : CS D h x o σ r m od) (k : ∀ (q : Nat) (e : va_E), h q = some e → kdT e ∨ q = o → h' q = some e) : CS D h' x o σ r m od := by
  obtain ⟨T, f, u, v, kk, ku, kv, g, r1, r2, h1, h2, h3, h4, h5, h6⟩ := hc
  have P9 : ∀ {f k : Nat} {r : List Nat}, Pm D h f k r → Pm D h' f k r := by
    intro f k9 r hm
    obtain ⟨y1, ks, y2, y3⟩ := id hm
    exact Pm_fr hm (fun e he => k _ _ he (Or.inl (Or.inl (Or.inr (Or.inl (by rw [y1] at he; cases he; rfl)))))) (fun e he => k _ _ he (Or.inl (Or.inl (Or.inr (Or.inr (Or.inr (by rw [y2] at he; cases he; rfl)))))))
  refine ⟨T, f, u, v, kk, ku, kv, g, r1, r2, ⟨k _ _ h1.1 (Or.inl (Or.inl (Or.inl rfl))), k _ _ h1.2.1 (Or.inl (Or.inl (Or.inr (Or.inr (Or.inl rfl))))), Trs_fr h1.2.2 (fun q e hq hk => k q e hq (Or.inl (Or.inr hk)))⟩, P9 h2, P9 h3, P9 h4, k _ _ h5 (Or.inr rfl), h6⟩
/-- an answer's row is written: the class's object is as it was -/
theorem CS_hu {D : va_G} {h : Hp} {x o : Nat} {σ : Tg} {r : List Nat} {m : Nat} {od : Nat → Int} (hc : CS D h x o σ r m od) {a : Nat} {e : va_E} {n : Nat × Nat} (ha : h a = some e) (hn : kd e = n) (hn2 : n = (11, 1) ∨ n = (13, 1)) (e' : va_E) : CS D (hu h a e') x o σ r m od := by
  have ho : o ≠ a := by
    obtain ⟨T, f, u, v, kk, ku, kv, g, r1, r2, h1, h2, h3, h4, h5, h6⟩ := hc
    rcases hn2 with rfl | rfl
    · exact ne_kdr h5 ha hn rfl
    · exact ne_kdr h5 ha hn rfl
  refine CS_fr hc (fun q e2 hq hk => ?_)
  rw [hu_n]
  · exact hq
  · rintro rfl
    rw [ha] at hq
    cases hq
    rcases hk with (hk | hk) | hk
    · unfold kdC at hk
      rw [hn] at hk
      rcases hn2 with rfl | rfl <;> simp at hk
    · rw [hn] at hk
      rcases hn2 with rfl | rfl <;> simp at hk
    · exact ho hk.symm
theorem CS_oa {D : va_G} {h : Hp} {x o : Nat} {σ : Tg} {r : List Nat} {m : Nat} {od : Nat → Int} (hc : CS D h x o σ r m od) {a : Nat} {e : va_E} {n : Nat × Nat} (ha : h a = some e) (hn : kd e = n) (hn2 : n ≠ (10, 16)) : a ≠ o := by
  obtain ⟨T, f, u, v, kk, ku, kv, g, r1, r2, h1, h2, h3, h4, h5, h6⟩ := hc
  exact ne_kdo ha h5 hn rfl hn2
theorem KC_a {D : va_G} {h h' : Hp} {o a : Nat} {g : Nat → Int} (k : KC o h h') (ha : h a = some (aJ D 1 g)) (hao : a ≠ o) : h' a = some (aJ D 1 g) := k a _ ha hao (by unfold kdC; rintro (z | z | z | z) <;> cases z)
theorem KC_d {D : va_G} {h h' : Hp} {o a : Nat} {g : Nat → UInt64} (k : KC o h h') (ha : h a = some (aD D 1 g)) (hao : a ≠ o) : h' a = some (aD D 1 g) := k a _ ha hao (by unfold kdC; rintro (z | z | z | z) <;> cases z)
theorem KC_rf {o : Nat} {h : Hp} : KC o h h := fun _ _ hq _ _ => hq
theorem KA_of {o a : Nat} {h h' : Hp} (k : KC o h h') : KA o a h h' := fun q e hq h1 _ h3 => k q e hq h1 h3
theorem KA_hu {o a : Nat} {h h' : Hp} (k : KC o h h') (e' : va_E) : KA o a h (hu h' a e') := fun q e hq h1 h2 h3 => by rw [hu_n h' e' h2]; exact k q e hq h1 h3
/-- the class's contract, movers: only the row of places has changed, and new triangles -/
theorem CS_mv {D : va_G} {h h' : Hp} {x T f u v o k ku kv : Nat} {g g' : Nat → Option Nat} {σ σ' : Tg} {r r1 r2 : List Nat} {m : Nat} {od : Nat → Int} (h1 : Cy D h x T f u v o (m : Int) g σ) (h2 : Pm D h f k r) (h3 : Pm D h u ku r1) (h4 : Pm D h v kv r2) (h5 : h o = some (aI D 16 od)) (h6 : (f ≠ u ∧ f ≠ v ∧ u ≠ v) ∧ k ≠ ku ∧ k ≠ kv ∧ ku ≠ kv)
    (hc : Cy D h' x T f u v o (m : Int) g' σ') (hk : Keep (fun y => y = T) h h') : CS D h' x o σ' r m od ∧ KC o h h' := by
  have P9 : ∀ {f k : Nat} {r : List Nat}, Pm D h f k r → Pm D h' f k r := by
    intro f k9 r hm
    obtain ⟨y1, ks, y2, y3⟩ := id hm
    exact Pm_keep hk hm (ne_kd y1 h1.2.1 rfl) (ne_kd y2 h1.2.1 rfl)
  refine ⟨⟨T, f, u, v, k, ku, kv, g', r1, r2, hc, P9 h2, P9 h3, P9 h4, hk o _ h5 (ne_kd h5 h1.2.1 rfl), h6⟩, fun q e hq _ hn => hk q e hq ?_⟩
  rintro rfl
  rw [h1.2.1] at hq
  cases hq
  exact hn (Or.inr (Or.inr (Or.inl rfl)))
/-- the model's cells are none of the class's -/
theorem Mz_fr {D : va_G} {h h' : Hp} {y : Nat} {v : Nat → Nat} {g1 g2 g3 e1 e2 e3 od : Nat → Int} {lc oc tc hi lo rf sq : Int} (hm : Mz D h y v g1 g2 g3 e1 e2 e3 od lc oc tc hi lo rf sq) {o a : Nat} {ea : va_E} {n : Nat × Nat} (k : KA o a h h') (ho : ∀ i, i < 7 → o ≠ v i) (hox : ∃ od9 : Nat → Int, h o = some (aI D 16 od9)) (ha : h a = some ea) (hn : kd ea = n) (hn2 : n = (11, 1) ∨ n = (13, 1)) : Mz D h' y v g1 g2 g3 e1 e2 e3 od lc oc tc hi lo rf sq := by
  obtain ⟨od9, hox⟩ := hox
  obtain ⟨h0, h1, h2, h3, h4, h5, h6, h7, h8⟩ := hm
  have hya : y ≠ a := by rcases hn2 with rfl | rfl <;> exact ne_kdr h0 ha hn rfl
  have A16 : ∀ {p : Nat} {f : Nat → Int}, h p = some (aI D 16 f) → o ≠ p → h' p = some (aI D 16 f) := by
    intro p f hp hop
    exact k p _ hp hop.symm (by rcases hn2 with rfl | rfl <;> exact ne_kdr hp ha hn rfl) (by unfold kdC; rintro (z | z | z | z) <;> cases z)
  have A80 : ∀ {p : Nat} {f : Nat → Int}, h p = some (aI D 80 f) → o ≠ p → h' p = some (aI D 80 f) := by
    intro p f hp hop
    exact k p _ hp hop.symm (by rcases hn2 with rfl | rfl <;> exact ne_kdr hp ha hn rfl) (by unfold kdC; rintro (z | z | z | z) <;> cases z)
  exact ⟨k y _ h0 (ne_kd h0 hox rfl) hya (by unfold kdC; rintro (z | z | z | z) <;> cases z), A16 h1 (ho 0 (by decide)), A16 h2 (ho 1 (by decide)), A16 h3 (ho 2 (by decide)), A80 h4 (ho 3 (by decide)), A80 h5 (ho 4 (by decide)), A80 h6 (ho 5 (by decide)), A16 h7 (ho 6 (by decide)), h8⟩
/-- the model's cells: their sorts -/
theorem WM_kd {D : va_G} {h : Hp} {y : Nat} {v : Nat → Nat} {g1 g2 g3 e1 e2 e3 od : Nat → Int} {lc oc tc hi lo rf sq : Int} (hm : Mz D h y v g1 g2 g3 e1 e2 e3 od lc oc tc hi lo rf sq) {q : Nat} {e : va_E} (hq : h q = some e) (hw : WM y v q) : kd e = (3, 0) ∨ ((kd e = (10, 16) ∨ kd e = (10, 80)) ∧ ∃ i, i < 7 ∧ q = v i) := by
  obtain ⟨h0, h1, h2, h3, h4, h5, h6, h7, h8⟩ := hm
  rcases hw with rfl | ⟨i, hi, rfl⟩
  · rw [h0] at hq; cases hq; exact Or.inl rfl
  · refine Or.inr ⟨?_, i, hi, rfl⟩
    match i, hi with
    | 0, _ => rw [h1] at hq; cases hq; exact Or.inl rfl
    | 1, _ => rw [h2] at hq; cases hq; exact Or.inl rfl
    | 2, _ => rw [h3] at hq; cases hq; exact Or.inl rfl
    | 3, _ => rw [h4] at hq; cases hq; exact Or.inr rfl
    | 4, _ => rw [h5] at hq; cases hq; exact Or.inr rfl
    | 5, _ => rw [h6] at hq; cases hq; exact Or.inr rfl
    | 6, _ => rw [h7] at hq; cases hq; exact Or.inl rfl
    | k + 7, hk => omega
/-- a call of the model: the class's object is as it was -/
theorem CS_WM {D : va_G} {h h' : Hp} {x o : Nat} {σ : Tg} {r : List Nat} {m : Nat} {od : Nat → Int} (hc : CS D h x o σ r m od) {y : Nat} {v : Nat → Nat} {g1 g2 g3 e1 e2 e3 od9 : Nat → Int} {lc oc tc hi lo rf sq : Int} (hm : Mz D h y v g1 g2 g3 e1 e2 e3 od9 lc oc tc hi lo rf sq) (ho : ∀ i, i < 7 → o ≠ v i) (k : Keep (WM y v) h h') : CS D h' x o σ r m od := by
  refine CS_fr hc (fun q e hq hk => k q e hq (fun hw => ?_))
  rcases WM_kd hm hq hw with z | ⟨z, i, hi, zi⟩
  · rcases hk with (hk | hk) | hk
    · unfold kdC at hk; rw [z] at hk; simp at hk
    · rw [z] at hk; cases hk
    · obtain ⟨T, f, u, w, kk, ku, kv, g, r1, r2, y1, y2, y3, y4, y5, y6⟩ := hc
      rw [hk, y5] at hq; cases hq; cases z
  · rcases hk with (hk | hk) | hk
    · unfold kdC at hk; rcases z with z | z <;> rw [z] at hk <;> simp at hk
    · rcases z with z | z <;> rw [z] at hk <;> cases hk
    · exact ho i hi (hk.symm.trans zi)
theorem WM_a {D : va_G} {h h' : Hp} {y : Nat} {v : Nat → Nat} {g1 g2 g3 e1 e2 e3 od9 : Nat → Int} {lc oc tc hi lo rf sq : Int} (hm : Mz D h y v g1 g2 g3 e1 e2 e3 od9 lc oc tc hi lo rf sq) (k : Keep (WM y v) h h') {a : Nat} {e : va_E} {n : Nat × Nat} (ha : h a = some e) (hn : kd e = n) (hn2 : n = (11, 1) ∨ n = (13, 1)) : h' a = some e := by
  refine k a e ha (fun hw => ?_)
  rcases WM_kd hm ha hw with z | ⟨z, -⟩
  · rw [hn] at z; rcases hn2 with rfl | rfl <;> cases z
  · rw [hn] at z; rcases hn2 with rfl | rfl <;> rcases z with z | z <;> cases z
/-- how a call of the law's own method ends: code cd; the answer E in the row a -/
def WPJ (D : va_G) (o a : Nat) (cd : Int) (A B : Hp → Prop) (E : Int) (h : Hp) : Option Value → Hp → Prop := fun w h' => w = some (iv cd) ∧ (0 ≤ cd ∧ cd ≤ 4) ∧ (cd = 0 → A h' ∧ ∃ g1, h' a = some (aJ D 1 g1) ∧ jv (g1 0) = jv E) ∧ (cd ≠ 0 → B h' ∧ ∃ g1, h' a = some (aJ D 1 g1)) ∧ KA o a h h'
def WPD (D : va_G) (o a : Nat) (cd : Int) (A B : Hp → Prop) (E : UInt64) (h : Hp) : Option Value → Hp → Prop := fun w h' => w = some (iv cd) ∧ (0 ≤ cd ∧ cd ≤ 4) ∧ (cd = 0 → A h' ∧ ∃ g1, h' a = some (aD D 1 g1) ∧ g1 0 = E) ∧ (cd ≠ 0 → B h' ∧ ∃ g1, h' a = some (aD D 1 g1)) ∧ KA o a h h'
theorem WPJ_w {D : va_G} {o a : Nat} {cd : Int} {A B : Hp → Prop} {E : Int} {h : Hp} {g : Nat → Int} (k : Int) (e : cd = k) (h1 : 1 ≤ k) (h4 : k ≤ 4) (hB : B h) (ha : h a = some (aJ D 1 g)) : WPJ D o a cd A B E h (some (iv k)) h := by
  subst e
  exact ⟨rfl, ⟨by omega, h4⟩, fun z => by omega, fun _ => ⟨hB, g, ha⟩, KA_of KC_rf⟩
theorem WPD_w {D : va_G} {o a : Nat} {cd : Int} {A B : Hp → Prop} {E : UInt64} {h : Hp} {g : Nat → UInt64} (k : Int) (e : cd = k) (h1 : 1 ≤ k) (h4 : k ≤ 4) (hB : B h) (ha : h a = some (aD D 1 g)) : WPD D o a cd A B E h (some (iv k)) h := by
  subst e
  exact ⟨rfl, ⟨by omega, h4⟩, fun z => by omega, fun _ => ⟨hB, g, ha⟩, KA_of KC_rf⟩
theorem WPJ_k {D : va_G} {o a : Nat} {cd : Int} {A B : Hp → Prop} {E E' : Int} {h h' : Hp} {g : Nat → Int} (e : cd = 0) (eE : jv E' = jv E) (hA : ∀ e', A (hu h' a e')) (k : KC o h h') : WPJ D o a cd A B E h (some (iv 0)) (hu h' a (aJ D 1 (up g (0 : Int).toNat E'))) := by
  subst e
  exact ⟨rfl, ⟨by omega, by omega⟩, fun _ => ⟨hA _, _, hu_s _ _ _, (congrArg jv (up_s g 0 E')).trans eE⟩, fun z => absurd rfl z, KA_hu k _⟩
theorem WPD_k {D : va_G} {o a : Nat} {cd : Int} {A B : Hp → Prop} {E E' : UInt64} {h h' : Hp} {g : Nat → UInt64} (e : cd = 0) (eE : E' = E) (hA : ∀ e', A (hu h' a e')) (k : KC o h h') : WPD D o a cd A B E h (some (iv 0)) (hu h' a (aD D 1 (up g (0 : Int).toNat E'))) := by
  subst e
  exact ⟨rfl, ⟨by omega, by omega⟩, fun _ => ⟨hA _, _, hu_s _ _ _, (up_s g 0 E').trans eE⟩, fun z => absurd rfl z, KA_hu k _⟩
/-- how a call of the model ends -/
def MW (y : Nat) (v : Nat → Nat) (cd : Int) (A B : Hp → Prop) (val z : Value) (h : Hp) : Option Value → Hp → Prop := fun w h' => (cd = 0 → w = some val ∧ A h') ∧ (cd ≠ 0 → w = some z ∧ B h') ∧ Keep (WM y v) h h'
theorem MO_MW {D : va_G} {y : Nat} {v : Nat → Nat} {σ σ2 : Tg} {e1 e2 e3 od : Nat → Int} {r : List Nat} {m : Nat} {cd : Int} {val z : Value} {h h' : Hp} {w : Option Value} (hE : EL e1 e2 e3 r) (k : MO D y v σ σ2 e1 e2 e3 od (r.length : Int) (m : Int) cd val z h w h') : MW y v cd (fun h9 => MSt D h9 y v σ2 r m od cd) (fun h9 => MSt D h9 y v σ r m od cd) val z h w h' := by
  obtain ⟨k1, ⟨hi, lo, rf, sq, k2⟩, k3⟩ := k
  refine ⟨fun hc => ?_, fun hc => ?_, k3⟩
  · rw [if_pos hc] at k1 k2
    exact ⟨k1, e1, e2, e3, hi, lo, rf, sq, k2, hE⟩
  · rw [if_neg hc] at k1 k2
    exact ⟨k1, e1, e2, e3, hi, lo, rf, sq, k2, hE⟩
theorem Xn_1 {e1 : String} {k : Int} {h h' : Hp} {E : String} (x : Xn [e1] k h E h') : h = h' ∧ k = 1 ∧ E = e1 := by
  obtain ⟨x1, x2, x3⟩ := x
  have h9 : (k - 1).toNat < 1 := (List.getElem?_eq_some_iff.mp x3).1
  have e : k = 1 := by omega
  rw [e] at x3
  exact ⟨x1, e, (Option.some.inj x3).symm⟩
theorem Xn_2 {e1 e2 : String} {k : Int} {h h' : Hp} {E : String} (x : Xn [e1, e2] k h E h') : h = h' ∧ ((k = 1 ∧ E = e1) ∨ (k = 2 ∧ E = e2)) := by
  obtain ⟨x1, x2, x3⟩ := x
  have h9 : (k - 1).toNat < 2 := (List.getElem?_eq_some_iff.mp x3).1
  refine ⟨x1, ?_⟩
  rcases (show k = 1 ∨ k = 2 by omega) with e | e <;> rw [e] at x3
  · exact Or.inl ⟨e, (Option.some.inj x3).symm⟩
  · exact Or.inr ⟨e, (Option.some.inj x3).symm⟩
theorem Xn_3 {e1 e2 e3 : String} {k : Int} {h h' : Hp} {E : String} (x : Xn [e1, e2, e3] k h E h') : h = h' ∧ ((k = 1 ∧ E = e1) ∨ (k = 2 ∧ E = e2) ∨ (k = 3 ∧ E = e3)) := by
  obtain ⟨x1, x2, x3⟩ := x
  have h9 : (k - 1).toNat < 3 := (List.getElem?_eq_some_iff.mp x3).1
  refine ⟨x1, ?_⟩
  rcases (show k = 1 ∨ k = 2 ∨ k = 3 by omega) with e | e | e <;> rw [e] at x3
  · exact Or.inl ⟨e, (Option.some.inj x3).symm⟩
  · exact Or.inr (Or.inl ⟨e, (Option.some.inj x3).symm⟩)
  · exact Or.inr (Or.inr ⟨e, (Option.some.inj x3).symm⟩)
theorem Xn_4 {e1 e2 e3 e4 : String} {k : Int} {h h' : Hp} {E : String} (x : Xn [e1, e2, e3, e4] k h E h') : h = h' ∧ ((k = 1 ∧ E = e1) ∨ (k = 2 ∧ E = e2) ∨ (k = 3 ∧ E = e3) ∨ (k = 4 ∧ E = e4)) := by
  obtain ⟨x1, x2, x3⟩ := x
  have h9 : (k - 1).toNat < 4 := (List.getElem?_eq_some_iff.mp x3).1
  refine ⟨x1, ?_⟩
  rcases (show k = 1 ∨ k = 2 ∨ k = 3 ∨ k = 4 by omega) with e | e | e | e <;> rw [e] at x3
  · exact Or.inl ⟨e, (Option.some.inj x3).symm⟩
  · exact Or.inr (Or.inl ⟨e, (Option.some.inj x3).symm⟩)
  · exact Or.inr (Or.inr (Or.inl ⟨e, (Option.some.inj x3).symm⟩))
  · exact Or.inr (Or.inr (Or.inr ⟨e, (Option.some.inj x3).symm⟩))
/-- no NaN: alike with itself -/
theorem cmp_slf (a : Int) : compare a a = Ordering.eq := by
  simp [compare, compareOfLessAndEq]
theorem dcmp_slf {x : UInt64} (h : vf_n64 x) : FP.dcmp x x = some .eq := by
  have hb : x.toNat % 9223372036854775808 ≤ 9218868437227405312 := by
    unfold vf_n64 at h
    have h2 := UInt64.le_iff_toNat_le.mp h
    rw [UInt64.toNat_and] at h2
    have e1 : (0x7fffffffffffffff : UInt64).toNat = 2 ^ 63 - 1 := by decide
    have e2 : (0x7ff0000000000000 : UInt64).toNat = 9218868437227405312 := by decide
    rw [e1, e2, Nat.and_two_pow_sub_one_eq_mod] at h2
    exact h2
  show FP.Core.order (FP.Core.decode FP.Core.b64 x.toNat) (FP.Core.decode FP.Core.b64 x.toNat) = some .eq
  have hd : FP.Core.decode FP.Core.b64 x.toNat ≠ .nan := by
    intro z
    unfold FP.Core.decode FP.Core.fieldE FP.Core.fieldT at z
    have t1 : FP.Core.b64.tails = 4503599627370496 := by decide
    have t2 : FP.Core.b64.exps = 2048 := by decide
    simp only [t1, t2] at z
    split at z
    · split at z
      · cases z
      · next y1 y2 => omega
    · split at z <;> cases z
  cases hc : FP.Core.decode FP.Core.b64 x.toNat with
  | nan => exact absurd hc hd
  | inf s => exact congrArg some (cmp_slf _)
  | fin s c q => exact congrArg some (cmp_slf _)
theorem cm64_nn {x : UInt64} (h : vf_n64 x) : cm64 x = 0 := by
  unfold cm64
  rw [dcmp_slf h]
  rfl
