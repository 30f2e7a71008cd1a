/-! the calls of the class, over what it holds -/
theorem c6_put {l : Launch} (hl : l.stackTraces = false) (D : va_G) (z0 : Nat) (h : Hp) {x o : Nat} {σ : Tg} {r : List Nat} {m : Nat} {od : Nat → Int} (hc : CS D h x o σ r m od) (hp : PI r m od) (p : Int) (p_ : I32 p) (a : Int) (a_ : I32 a) (b : Int) (b_ : I32 b) (c : Int) (c_ : I32 c) : CC l yX6_put cX6_put 5 (some .int) rX6_put D z0 h [.ref x, iv p, iv a, iv b, iv c] (fun w0 h' => w0 = some (iv (cntT (up σ p.toNat (st3 a b c)) 16)) ∧ CS D h' x o (up σ p.toNat (st3 a b c)) r m od ∧ KC o h h' ∧ (cdPu p a b c) = 0) (Xn [iob, iae, ise] (cdPu p a b c) h) := by
  obtain ⟨T, f, u, v, k, ku, kv, g, r1, r2, h1, h2, h3, h4, h5, h6⟩ := id hc
  refine CC_mono (c_X6_put hl D z0 h x T f u v o (m : Int) g σ h1 p p_ a b c a_ b_ c_) (fun w0 h' z => ?_) (fun _ _ z => z)
  obtain ⟨g', rfl, z2, z3, z4⟩ := z
  have z5 := CS_mv h1 h2 h3 h4 h5 h6 z2 z3
  exact ⟨rfl, z5.1, z5.2, z4⟩
theorem c6_take {l : Launch} (hl : l.stackTraces = false) (D : va_G) (z0 : Nat) (h : Hp) {x o : Nat} {σ : Tg} {r : List Nat} {m : Nat} {od : Nat → Int} (hc : CS D h x o σ r m od) (hp : PI r m od) (p : Int) (p_ : I32 p) : CC l yX6_take cX6_take 2 (some .int) rX6_take D z0 h [.ref x, iv p] (fun w0 h' => w0 = some (iv (cntT (up σ p.toNat none) 16)) ∧ CS D h' x o (up σ p.toNat none) r m od ∧ KC o h h' ∧ (ms σ p 2) = 0) (Xn [iob, nseN] (ms σ p 2) h) := by
  obtain ⟨T, f, u, v, k, ku, kv, g, r1, r2, h1, h2, h3, h4, h5, h6⟩ := id hc
  refine CC_mono (c_X6_take hl D z0 h x T f u v o (m : Int) g σ h1 p p_) (fun w0 h' z => ?_) (fun _ _ z => z)
  obtain ⟨g', rfl, z2, z3, z4⟩ := z
  have z5 := CS_mv h1 h2 h3 h4 h5 h6 z2 z3
  exact ⟨rfl, z5.1, z5.2, z4⟩
theorem c6_isHeld {l : Launch} (hl : l.stackTraces = false) (D : va_G) (z0 : Nat) (h : Hp) {x o : Nat} {σ : Tg} {r : List Nat} {m : Nat} {od : Nat → Int} (hc : CS D h x o σ r m od) (hp : PI r m od) (p : Int) (p_ : I32 p) : CC l yX6_isHeld cX6_isHeld 2 (some .boolean) rX6_isHeld D z0 h [.ref x, iv p] (fun w0 h' => w0 = some (iv (if (σ p.toNat).isSome = true then 1 else 0)) ∧ CS D h' x o σ r m od ∧ KC o h h' ∧ (cdPl p) = 0) (Xn [iob] (cdPl p) h) := by
  obtain ⟨T, f, u, v, k, ku, kv, g, r1, r2, h1, h2, h3, h4, h5, h6⟩ := id hc
  refine CC_mono (c_X6_isHeld hl D z0 h x T f u v o (m : Int) g σ h1 p p_) (fun w0 h' z => ?_) (fun _ _ z => z)
  obtain ⟨rfl, rfl, z3⟩ := z
  exact ⟨rfl, hc, KC_rf, z3⟩
theorem c6_side {l : Launch} (hl : l.stackTraces = false) (D : va_G) (z0 : Nat) (h : Hp) {x o : Nat} {σ : Tg} {r : List Nat} {m : Nat} {od : Nat → Int} (hc : CS D h x o σ r m od) (hp : PI r m od) (p : Int) (p_ : I32 p) (w : Int) (w_ : I32 w) : CC l yX6_side cX6_side 3 (some .int) rX6_side D z0 h [.ref x, iv p, iv w] (fun w0 h' => w0 = some (iv (on σ p (fun a b c => ln a b c w))) ∧ CS D h' x o σ r m od ∧ KC o h h' ∧ (cdSd σ p w) = 0) (Xn [iob, nseN] (cdSd σ p w) h) := by
  obtain ⟨T, f, u, v, k, ku, kv, g, r1, r2, h1, h2, h3, h4, h5, h6⟩ := id hc
  refine CC_mono (c_X6_side hl D z0 h x T f u v o (m : Int) g σ h1 p p_ w w_) (fun w0 h' z => ?_) (fun _ _ z => z)
  obtain ⟨rfl, rfl, z3⟩ := z
  exact ⟨rfl, hc, KC_rf, z3⟩
theorem c6_copy {l : Launch} (hl : l.stackTraces = false) (D : va_G) (z0 : Nat) (h : Hp) {x o : Nat} {σ : Tg} {r : List Nat} {m : Nat} {od : Nat → Int} (hc : CS D h x o σ r m od) (hp : PI r m od) (p : Int) (p_ : I32 p) (q : Int) (q_ : I32 q) : CC l yX6_copy cX6_copy 3 (some .int) rX6_copy D z0 h [.ref x, iv p, iv q] (fun w0 h' => w0 = some (iv (cntT (up σ q.toNat (σ p.toNat)) 16)) ∧ CS D h' x o (up σ q.toNat (σ p.toNat)) r m od ∧ KC o h h' ∧ (cdCo σ p q) = 0) (Xn [iob, nseN] (cdCo σ p q) h) := by
  obtain ⟨T, f, u, v, k, ku, kv, g, r1, r2, h1, h2, h3, h4, h5, h6⟩ := id hc
  refine CC_mono (c_X6_copy hl D z0 h x T f u v o (m : Int) g σ h1 p p_ q q_) (fun w0 h' z => ?_) (fun _ _ z => z)
  obtain ⟨g', rfl, z2, z3, z4⟩ := z
  have z5 := CS_mv h1 h2 h3 h4 h5 h6 z2 z3
  exact ⟨rfl, z5.1, z5.2, z4⟩
theorem c6_scale {l : Launch} (hl : l.stackTraces = false) (D : va_G) (z0 : Nat) (h : Hp) {x o : Nat} {σ : Tg} {r : List Nat} {m : Nat} {od : Nat → Int} (hc : CS D h x o σ r m od) (hp : PI r m od) (p : Int) (p_ : I32 p) (w : Int) (w_ : I32 w) : CC l yX6_scale cX6_scale 4 (some .int) rX6_scale D z0 h [.ref x, iv p, iv w] (fun w0 h' => w0 = some (iv (on σ p (fun _ _ c => w * c))) ∧ CS D h' x o (up σ p.toNat (onT σ p (fun a b c => st3 (w * a) (w * b) (w * c)))) r m od ∧ KC o h h' ∧ (cdSc σ p w) = 0) (Xn [iob, iae, nseN, ise] (cdSc σ p w) h) := by
  obtain ⟨T, f, u, v, k, ku, kv, g, r1, r2, h1, h2, h3, h4, h5, h6⟩ := id hc
  refine CC_mono (c_X6_scale hl D z0 h x T f u v o (m : Int) g σ h1 p p_ w w_) (fun w0 h' z => ?_) (fun _ _ z => z)
  obtain ⟨g', rfl, z2, z3, z4⟩ := z
  have z5 := CS_mv h1 h2 h3 h4 h5 h6 z2 z3
  exact ⟨rfl, z5.1, z5.2, z4⟩
theorem c6_reduce {l : Launch} (hl : l.stackTraces = false) (D : va_G) (z0 : Nat) (h : Hp) {x o : Nat} {σ : Tg} {r : List Nat} {m : Nat} {od : Nat → Int} (hc : CS D h x o σ r m od) (hp : PI r m od) (p : Int) (p_ : I32 p) : CC l yX6_reduce cX6_reduce 4 (some .int) rX6_reduce D z0 h [.ref x, iv p] (fun w0 h' => w0 = some (iv (on σ p gcd3)) ∧ CS D h' x o (up σ p.toNat (onT σ p (fun a b c => st3 (a / gcd3 a b c) (b / gcd3 a b c) (c / gcd3 a b c)))) r m od ∧ KC o h h' ∧ (ms σ p 2) = 0) (Xn [iob, nseN] (ms σ p 2) h) := by
  obtain ⟨T, f, u, v, k, ku, kv, g, r1, r2, h1, h2, h3, h4, h5, h6⟩ := id hc
  refine CC_mono (c_X6_reduce hl D z0 h x T f u v o (m : Int) g σ h1 p p_) (fun w0 h' z => ?_) (fun _ _ z => z)
  obtain ⟨g', rfl, z2, z3, z4⟩ := z
  have z5 := CS_mv h1 h2 h3 h4 h5 h6 z2 z3
  exact ⟨rfl, z5.1, z5.2, z4⟩
theorem c6_join {l : Launch} (hl : l.stackTraces = false) (D : va_G) (z0 : Nat) (h : Hp) {x o : Nat} {σ : Tg} {r : List Nat} {m : Nat} {od : Nat → Int} (hc : CS D h x o σ r m od) (hp : PI r m od) (p : Int) (p_ : I32 p) (q : Int) (q_ : I32 q) (r9 : Int) (r9_ : I32 r9) : CC l yX6_join cX6_join 7 (some .int) rX6_join D z0 h [.ref x, iv p, iv q, iv r9] (fun w0 h' => w0 = some (iv (on σ p (fun a b c => on σ q (fun d e f => mx3 c f (wd a b d e))))) ∧ CS D h' x o (up σ r9.toNat (onT σ p (fun a b c => onT σ q (fun d e f => st3 c f (wd a b d e))))) r m od ∧ KC o h h' ∧ (cdJo σ p q r9) = 0) (Xn [iob, nseN, ise] (cdJo σ p q r9) h) := by
  obtain ⟨T, f, u, v, k, ku, kv, g, r1, r2, h1, h2, h3, h4, h5, h6⟩ := id hc
  refine CC_mono (c_X6_join hl D z0 h x T f u v o (m : Int) g σ h1 p p_ q q_ r9 r9_) (fun w0 h' z => ?_) (fun _ _ z => z)
  obtain ⟨g', rfl, z2, z3, z4⟩ := z
  have z5 := CS_mv h1 h2 h3 h4 h5 h6 z2 z3
  exact ⟨rfl, z5.1, z5.2, z4⟩
theorem c6_kind {l : Launch} (hl : l.stackTraces = false) (D : va_G) (z0 : Nat) (h : Hp) {x o : Nat} {σ : Tg} {r : List Nat} {m : Nat} {od : Nat → Int} (hc : CS D h x o σ r m od) (hp : PI r m od) (p : Int) (p_ : I32 p) : CC l yX6_kind cX6_kind 2 (some .int) rX6_kind D z0 h [.ref x, iv p] (fun w0 h' => w0 = some (iv (on σ p (fun a b c => cmpv (sqb3 a b c 2) 0))) ∧ CS D h' x o σ r m od ∧ KC o h h' ∧ (ms σ p 2) = 0) (Xn [iob, nseN] (ms σ p 2) h) := by
  obtain ⟨T, f, u, v, k, ku, kv, g, r1, r2, h1, h2, h3, h4, h5, h6⟩ := id hc
  refine CC_mono (c_X6_kind hl D z0 h x T f u v o (m : Int) g σ h1 p p_) (fun w0 h' z => ?_) (fun _ _ z => z)
  obtain ⟨rfl, rfl, z3⟩ := z
  exact ⟨rfl, hc, KC_rf, z3⟩
theorem c6_angle {l : Launch} (hl : l.stackTraces = false) (D : va_G) (z0 : Nat) (h : Hp) {x o : Nat} {σ : Tg} {r : List Nat} {m : Nat} {od : Nat → Int} (hc : CS D h x o σ r m od) (hp : PI r m od) (p : Int) (p_ : I32 p) (w : Int) (w_ : I32 w) : CC l yX6_angle cX6_angle 3 (some .int) rX6_angle D z0 h [.ref x, iv p, iv w] (fun w0 h' => w0 = some (iv (on σ p (fun a b c => deg a b c w))) ∧ CS D h' x o σ r m od ∧ KC o h h' ∧ (cdSd σ p w) = 0) (Xn [iob, nseN] (cdSd σ p w) h) := by
  obtain ⟨T, f, u, v, k, ku, kv, g, r1, r2, h1, h2, h3, h4, h5, h6⟩ := id hc
  refine CC_mono (c_X6_angle hl D z0 h x T f u v o (m : Int) g σ h1 p p_ w w_) (fun w0 h' z => ?_) (fun _ _ z => z)
  obtain ⟨rfl, rfl, z3⟩ := z
  exact ⟨rfl, hc, KC_rf, z3⟩
theorem c6_areaIsWhole {l : Launch} (hl : l.stackTraces = false) (D : va_G) (z0 : Nat) (h : Hp) {x o : Nat} {σ : Tg} {r : List Nat} {m : Nat} {od : Nat → Int} (hc : CS D h x o σ r m od) (hp : PI r m od) (p : Int) (p_ : I32 p) : CC l yX6_areaIsWhole cX6_areaIsWhole 2 (some .boolean) rX6_areaIsWhole D z0 h [.ref x, iv p] (fun w0 h' => w0 = some (iv (if 0 < on σ p (fun a b c => wq (rtS (Sx a b c)) 4) then 1 else 0)) ∧ CS D h' x o σ r m od ∧ KC o h h' ∧ (ms σ p 2) = 0) (Xn [iob, nseN] (ms σ p 2) h) := by
  obtain ⟨T, f, u, v, k, ku, kv, g, r1, r2, h1, h2, h3, h4, h5, h6⟩ := id hc
  refine CC_mono (c_X6_areaIsWhole hl D z0 h x T f u v o (m : Int) g σ h1 p p_) (fun w0 h' z => ?_) (fun _ _ z => z)
  obtain ⟨rfl, rfl, z3⟩ := z
  exact ⟨rfl, hc, KC_rf, z3⟩
theorem c6_area {l : Launch} (hl : l.stackTraces = false) (D : va_G) (z0 : Nat) (h : Hp) {x o : Nat} {σ : Tg} {r : List Nat} {m : Nat} {od : Nat → Int} (hc : CS D h x o σ r m od) (hp : PI r m od) (p : Int) (p_ : I32 p) : CC l yX6_area cX6_area 4 (some .long) rX6_area D z0 h [.ref x, iv p] (fun w0 h' => w0 = some (jv (on σ p (fun a b c => wq (rtS (Sx a b c)) 4))) ∧ CS D h' x o σ r m od ∧ KC o h h' ∧ (cdAr σ p) = 0) (Xn [iob, nseN, ise] (cdAr σ p) h) := by
  obtain ⟨T, f, u, v, k, ku, kv, g, r1, r2, h1, h2, h3, h4, h5, h6⟩ := id hc
  refine CC_mono (c_X6_area hl D z0 h x T f u v o (m : Int) g σ h1 p p_) (fun w0 h' z => ?_) (fun _ _ z => z)
  obtain ⟨rfl, rfl, z3⟩ := z
  exact ⟨rfl, hc, KC_rf, z3⟩
theorem c6_circle {l : Launch} (hl : l.stackTraces = false) (D : va_G) (z0 : Nat) (h : Hp) {x o : Nat} {σ : Tg} {r : List Nat} {m : Nat} {od : Nat → Int} (hc : CS D h x o σ r m od) (hp : PI r m od) (p : Int) (p_ : I32 p) (w : Int) (w_ : 0 ≤ w ∧ w ≤ 65535) : CC l yX6_circle cX6_circle 6 (some .long) rX6_circle D z0 h [.ref x, iv p, iv w] (fun w0 h' => w0 = some (jv (vCi σ p w)) ∧ CS D h' x o σ r m od ∧ KC o h h' ∧ (cdCi σ p w) = 0) (Xn [iob, iae, nseN, ise] (cdCi σ p w) h) := by
  obtain ⟨T, f, u, v, k, ku, kv, g, r1, r2, h1, h2, h3, h4, h5, h6⟩ := id hc
  refine CC_mono (c_X6_circle hl D z0 h x T f u v o (m : Int) g σ h1 p p_ w w_) (fun w0 h' z => ?_) (fun _ _ z => z)
  obtain ⟨rfl, rfl, z3⟩ := z
  exact ⟨rfl, hc, KC_rf, z3⟩
theorem c6_compareAreas {l : Launch} (hl : l.stackTraces = false) (D : va_G) (z0 : Nat) (h : Hp) {x o : Nat} {σ : Tg} {r : List Nat} {m : Nat} {od : Nat → Int} (hc : CS D h x o σ r m od) (hp : PI r m od) (p : Int) (p_ : I32 p) (q : Int) (q_ : I32 q) : CC l yX6_compareAreas cX6_compareAreas 4 (some .int) rX6_compareAreas D z0 h [.ref x, iv p, iv q] (fun w0 h' => w0 = some (iv (on σ p (fun a b c => on σ q (fun d e f => cmpv (Sx a b c) (Sx d e f))))) ∧ CS D h' x o σ r m od ∧ KC o h h' ∧ (cd2 σ p q) = 0) (Xn [iob, nseN] (cd2 σ p q) h) := by
  obtain ⟨T, f, u, v, k, ku, kv, g, r1, r2, h1, h2, h3, h4, h5, h6⟩ := id hc
  refine CC_mono (c_X6_compareAreas hl D z0 h x T f u v o (m : Int) g σ h1 p p_ q q_) (fun w0 h' z => ?_) (fun _ _ z => z)
  obtain ⟨rfl, rfl, z3⟩ := z
  exact ⟨rfl, hc, KC_rf, z3⟩
theorem c6_product {l : Launch} (hl : l.stackTraces = false) (D : va_G) (z0 : Nat) (h : Hp) {x o : Nat} {σ : Tg} {r : List Nat} {m : Nat} {od : Nat → Int} (hc : CS D h x o σ r m od) (hp : PI r m od) (p : Int) (p_ : I32 p) : CC l yX6_product cX6_product 2 (some .long) rX6_product D z0 h [.ref x, iv p] (fun w0 h' => w0 = some (jv (on σ p Sx)) ∧ CS D h' x o σ r m od ∧ KC o h h' ∧ (ms σ p 2) = 0) (Xn [iob, nseN] (ms σ p 2) h) := by
  obtain ⟨T, f, u, v, k, ku, kv, g, r1, r2, h1, h2, h3, h4, h5, h6⟩ := id hc
  refine CC_mono (c_X6_product hl D z0 h x T f u v o (m : Int) g σ h1 p p_) (fun w0 h' z => ?_) (fun _ _ z => z)
  obtain ⟨rfl, rfl, z3⟩ := z
  exact ⟨rfl, hc, KC_rf, z3⟩
theorem c6_bits {l : Launch} (hl : l.stackTraces = false) (D : va_G) (z0 : Nat) (h : Hp) {x o : Nat} {σ : Tg} {r : List Nat} {m : Nat} {od : Nat → Int} (hc : CS D h x o σ r m od) (hp : PI r m od) (p : Int) (p_ : I32 p) : CC l yX6_bits cX6_bits 2 (some .int) rX6_bits D z0 h [.ref x, iv p] (fun w0 h' => w0 = some (iv (on σ p (fun a b c => ((bl (Sx a b c).toNat : Nat) : Int)))) ∧ CS D h' x o σ r m od ∧ KC o h h' ∧ (ms σ p 2) = 0) (Xn [iob, nseN] (ms σ p 2) h) := by
  obtain ⟨T, f, u, v, k, ku, kv, g, r1, r2, h1, h2, h3, h4, h5, h6⟩ := id hc
  refine CC_mono (c_X6_bits hl D z0 h x T f u v o (m : Int) g σ h1 p p_) (fun w0 h' z => ?_) (fun _ _ z => z)
  obtain ⟨rfl, rfl, z3⟩ := z
  exact ⟨rfl, hc, KC_rf, z3⟩
theorem c6_hypot {l : Launch} (hl : l.stackTraces = false) (D : va_G) (z0 : Nat) (h : Hp) {x o : Nat} {σ : Tg} {r : List Nat} {m : Nat} {od : Nat → Int} (hc : CS D h x o σ r m od) (hp : PI r m od) (p : Int) (p_ : I32 p) (i : Int) (i_ : I32 i) (k9 : Int) (k9_ : I32 k9) : CC l yX6_hypot cX6_hypot 5 (some .double) rX6_hypot D z0 h [.ref x, iv p, iv i, iv k9] (fun w0 h' => w0 = some (.double (dR (hyN σ p i k9))) ∧ CS D h' x o σ r m od ∧ KC o h h' ∧ (cdHy σ p i k9) = 0) (Xn [iob, nseN] (cdHy σ p i k9) h) := by
  obtain ⟨T, f, u, v, k, ku, kv, g, r1, r2, h1, h2, h3, h4, h5, h6⟩ := id hc
  refine CC_mono (c_X6_hypot hl D z0 h x T f u v o (m : Int) g σ h1 p p_ i k9 i_ k9_) (fun w0 h' z => ?_) (fun _ _ z => z)
  obtain ⟨rfl, rfl, z3⟩ := z
  exact ⟨rfl, hc, KC_rf, z3⟩
theorem c6_root {l : Launch} (hl : l.stackTraces = false) (D : va_G) (z0 : Nat) (h : Hp) {x o : Nat} {σ : Tg} {r : List Nat} {m : Nat} {od : Nat → Int} (hc : CS D h x o σ r m od) (hp : PI r m od) (p : Int) (p_ : I64 p) : CC l yX6_root cX6_root 3 (some .double) rX6_root D z0 h [.ref x, jv p] (fun w0 h' => w0 = some (.double (dR p.toNat)) ∧ CS D h' x o σ r m od ∧ KC o h h' ∧ (cdRo p) = 0) (Xn [iae] (cdRo p) h) := by
  obtain ⟨T, f, u, v, k, ku, kv, g, r1, r2, h1, h2, h3, h4, h5, h6⟩ := id hc
  refine CC_mono (c_X6_root hl D z0 h x p p_) (fun w0 h' z => ?_) (fun _ _ z => z)
  obtain ⟨rfl, rfl, z3⟩ := z
  exact ⟨rfl, hc, KC_rf, z3⟩
theorem c6_shape {l : Launch} (hl : l.stackTraces = false) (D : va_G) (z0 : Nat) (h : Hp) {x o : Nat} {σ : Tg} {r : List Nat} {m : Nat} {od : Nat → Int} (hc : CS D h x o σ r m od) (hp : PI r m od) (p : Int) (p_ : I32 p) : CC l yX6_shape cX6_shape 3 (some .float) rX6_shape D z0 h [.ref x, iv p] (fun w0 h' => w0 = some (.float (fSh σ p)) ∧ CS D h' x o σ r m od ∧ KC o h h' ∧ (ms σ p 2) = 0) (Xn [iob, nseN] (ms σ p 2) h) := by
  obtain ⟨T, f, u, v, k, ku, kv, g, r1, r2, h1, h2, h3, h4, h5, h6⟩ := id hc
  refine CC_mono (c_X6_shape hl D z0 h x T f u v o (m : Int) g σ h1 p p_) (fun w0 h' z => ?_) (fun _ _ z => z)
  obtain ⟨rfl, rfl, z3⟩ := z
  exact ⟨rfl, hc, KC_rf, z3⟩
theorem c6_euclid {l : Launch} (hl : l.stackTraces = false) (D : va_G) (z0 : Nat) (h : Hp) {x o : Nat} {σ : Tg} {r : List Nat} {m : Nat} {od : Nat → Int} (hc : CS D h x o σ r m od) (hp : PI r m od) (p : Int) (p_ : I32 p) (m9 : Int) (m9_ : I32 m9) (k9 : Int) (k9_ : I32 k9) : CC l yX6_euclid cX6_euclid 4 (some .int) rX6_euclid D z0 h [.ref x, iv p, iv m9, iv k9] (fun w0 h' => w0 = some (iv (m9 * m9 + k9 * k9)) ∧ CS D h' x o (up σ p.toNat (st3 (m9 * m9 - k9 * k9) (2 * m9 * k9) (m9 * m9 + k9 * k9))) r m od ∧ KC o h h' ∧ (cdEu p m9 k9) = 0) (Xn [iob, iae, ise] (cdEu p m9 k9) h) := by
  obtain ⟨T, f, u, v, k, ku, kv, g, r1, r2, h1, h2, h3, h4, h5, h6⟩ := id hc
  refine CC_mono (c_X6_euclid hl D z0 h x T f u v o (m : Int) g σ h1 p p_ m9 k9 m9_ k9_) (fun w0 h' z => ?_) (fun _ _ z => z)
  obtain ⟨g', rfl, z2, z3, z4⟩ := z
  have z5 := CS_mv h1 h2 h3 h4 h5 h6 z2 z3
  exact ⟨rfl, z5.1, z5.2, z4⟩
theorem c6_step {l : Launch} (hl : l.stackTraces = false) (D : va_G) (z0 : Nat) (h : Hp) {x o : Nat} {σ : Tg} {r : List Nat} {m : Nat} {od : Nat → Int} (hc : CS D h x o σ r m od) (hp : PI r m od) (p : Int) (p_ : I32 p) (w : Int) (w_ : 0 ≤ w ∧ w ≤ 65535) : CC l yX6_step cX6_step 6 (some .int) rX6_step D z0 h [.ref x, iv p, iv w] (fun w0 h' => w0 = some (iv (on σ p (fun a b c => mx3 (stX w (odd2 a b) (eve2 a b) c) (stY w (odd2 a b) (eve2 a b) c) (stZ w (odd2 a b) (eve2 a b) c)))) ∧ CS D h' x o (up σ p.toNat (onT σ p (fun a b c => st3 (stX w (odd2 a b) (eve2 a b) c) (stY w (odd2 a b) (eve2 a b) c) (stZ w (odd2 a b) (eve2 a b) c)))) r m od ∧ KC o h h' ∧ (cdSt σ p w) = 0) (Xn [iob, iae, nseN, ise] (cdSt σ p w) h) := by
  obtain ⟨T, f, u, v, k, ku, kv, g, r1, r2, h1, h2, h3, h4, h5, h6⟩ := id hc
  refine CC_mono (c_X6_step hl D z0 h x T f u v o (m : Int) g σ h1 p p_ w w_) (fun w0 h' z => ?_) (fun _ _ z => z)
  obtain ⟨g', rfl, z2, z3, z4⟩ := z
  have z5 := CS_mv h1 h2 h3 h4 h5 h6 z2 z3
  exact ⟨rfl, z5.1, z5.2, z4⟩
theorem c6_depth {l : Launch} (hl : l.stackTraces = false) (D : va_G) (z0 : Nat) (h : Hp) {x o : Nat} {σ : Tg} {r : List Nat} {m : Nat} {od : Nat → Int} (hc : CS D h x o σ r m od) (hp : PI r m od) (p : Int) (p_ : I32 p) : CC l yX6_depth cX6_depth 3 (some .int) rX6_depth D z0 h [.ref x, iv p] (fun w0 h' => w0 = some (iv (vDe σ p)) ∧ CS D h' x o σ r m od ∧ KC o h h' ∧ (cdPr σ p) = 0) (Xn [iob, nseN, ise] (cdPr σ p) h) := by
  obtain ⟨T, f, u, v, k, ku, kv, g, r1, r2, h1, h2, h3, h4, h5, h6⟩ := id hc
  refine CC_mono (c_X6_depth hl D z0 h x T f u v o (m : Int) g σ h1 p p_) (fun w0 h' z => ?_) (fun _ _ z => z)
  obtain ⟨rfl, rfl, z3⟩ := z
  exact ⟨rfl, hc, KC_rf, z3⟩
theorem c6_generator {l : Launch} (hl : l.stackTraces = false) (D : va_G) (z0 : Nat) (h : Hp) {x o : Nat} {σ : Tg} {r : List Nat} {m : Nat} {od : Nat → Int} (hc : CS D h x o σ r m od) (hp : PI r m od) (p : Int) (p_ : I32 p) (w : Int) (w_ : 0 ≤ w ∧ w ≤ 65535) : CC l yX6_generator cX6_generator 5 (some .int) rX6_generator D z0 h [.ref x, iv p, iv w] (fun w0 h' => w0 = some (iv (vGe σ p w)) ∧ CS D h' x o σ r m od ∧ KC o h h' ∧ (cdGe σ p w) = 0) (Xn [iob, iae, nseN, ise] (cdGe σ p w) h) := by
  obtain ⟨T, f, u, v, k, ku, kv, g, r1, r2, h1, h2, h3, h4, h5, h6⟩ := id hc
  refine CC_mono (c_X6_generator hl D z0 h x T f u v o (m : Int) g σ h1 p p_ w w_) (fun w0 h' z => ?_) (fun _ _ z => z)
  obtain ⟨rfl, rfl, z3⟩ := z
  exact ⟨rfl, hc, KC_rf, z3⟩
theorem c6_list {l : Launch} (hl : l.stackTraces = false) (D : va_G) (z0 : Nat) (h : Hp) {x o : Nat} {σ : Tg} {r : List Nat} {m : Nat} {od : Nat → Int} (hc : CS D h x o σ r m od) (hp : PI r m od) (w : Int) (w_ : 0 ≤ w ∧ w ≤ 65535) (b9 : Int) (b9_ : I32 b9) : CC l yX6_list cX6_list 3 (some .int) rX6_list D z0 h [.ref x, iv w, iv b9] (fun w0 h' => w0 = some (iv (((eR b9.toNat).length : Int))) ∧ CS D h' x o σ (eR b9.toNat) m od ∧ KC o h h' ∧ (cdLi w b9) = 0) (Xn [iae] (cdLi w b9) h) := by
  obtain ⟨T, f, u, v, k, ku, kv, g, r1, r2, h1, h2, h3, h4, h5, h6⟩ := id hc
  refine CC_mono (c_X6_list hl D z0 h x T f u v o (m : Int) g σ h1 k r h2 w b9 w_ b9_) (fun w0 h' z => ?_) (fun _ _ z => z)
  obtain ⟨rfl, z2, z4, z5⟩ := z
  obtain ⟨y1, ks, y2, y3⟩ := id h2
  have P9 : ∀ {f9 k9 : Nat} {r : List Nat}, Pm D h f9 k9 r → f ≠ f9 → k ≠ k9 → Pm D h' f9 k9 r := by
    intro f9 k9 r hm n1 n2
    obtain ⟨x1, xs, x2, x3⟩ := id hm
    refine Pm_keep z4 hm ?_ ?_
    · rintro (w | w)
      · exact n1 w.symm
      · exact ne_kd x1 y2 rfl w
    · rintro (w | w)
      · exact ne_kd x2 y1 rfl w
      · exact n2 w.symm
  have K9 : ∀ (q : Nat) (e : va_E), h q = some e → kd e ≠ (1, 0) → kd e ≠ (10, 64) → h' q = some e := by
    intro q e hq n1 n2
    refine z4 q e hq ?_
    rintro (w | w)
    · rw [w, y1] at hq; cases hq; exact n1 rfl
    · rw [w, y2] at hq; cases hq; exact n2 rfl
  refine ⟨rfl, ⟨T, f, u, v, k, ku, kv, g, r1, r2, ⟨K9 _ _ h1.1 (by show ((0 : Nat), (0 : Nat)) ≠ (1, 0); decide) (by show ((0 : Nat), (0 : Nat)) ≠ (10, 64); decide), K9 _ _ h1.2.1 (by show ((14 : Nat), (16 : Nat)) ≠ (1, 0); decide) (by show ((14 : Nat), (16 : Nat)) ≠ (10, 64); decide), Trs_fr h1.2.2 (fun q e hq hk => K9 q e hq (by rw [hk]; decide) (by rw [hk]; decide))⟩, z2, P9 h3 h6.1.1 h6.2.1, P9 h4 h6.1.2.1 h6.2.2.1, K9 _ _ h5 (by show ((10 : Nat), (16 : Nat)) ≠ (1, 0); decide) (by show ((10 : Nat), (16 : Nat)) ≠ (10, 64); decide), h6⟩, fun q e hq _ hn => K9 q e hq (fun w => hn (Or.inr (Or.inl w))) (fun w => hn (Or.inr (Or.inr (Or.inr w)))), z5⟩
theorem c6_listed {l : Launch} (hl : l.stackTraces = false) (D : va_G) (z0 : Nat) (h : Hp) {x o : Nat} {σ : Tg} {r : List Nat} {m : Nat} {od : Nat → Int} (hc : CS D h x o σ r m od) (hp : PI r m od) (i : Int) (i_ : I32 i) (w : Int) (w_ : I32 w) : CC l yX6_listed cX6_listed 3 (some .int) rX6_listed D z0 h [.ref x, iv i, iv w] (fun w0 h' => w0 = some (iv (lnK ((nthR r i.toNat : Nat) : Int) w)) ∧ CS D h' x o σ r m od ∧ KC o h h' ∧ (cdLd r.length i w) = 0) (Xn [iob] (cdLd r.length i w) h) := by
  obtain ⟨T, f, u, v, k, ku, kv, g, r1, r2, h1, h2, h3, h4, h5, h6⟩ := id hc
  refine CC_mono (c_X6_listed hl D z0 h x T f u v o (m : Int) g σ h1 k r h2 hp.1.1 hp.1.2 i w i_ w_) (fun w0 h' z => ?_) (fun _ _ z => z)
  obtain ⟨rfl, rfl, z3⟩ := z
  exact ⟨rfl, hc, KC_rf, z3⟩
theorem c6_counts {l : Launch} (hl : l.stackTraces = false) (D : va_G) (z0 : Nat) (h : Hp) {x o : Nat} {σ : Tg} {r : List Nat} {m : Nat} {od : Nat → Int} (hc : CS D h x o σ r m od) (hp : PI r m od) (w : Int) (w_ : 0 ≤ w ∧ w ≤ 65535) (p : Int) (p_ : I32 p) : CC l yX6_counts cX6_counts 3 (some .int) rX6_counts D z0 h [.ref x, iv w, iv p] (fun w0 h' => w0 = some (iv (vCn w p)) ∧ CS D h' x o σ r m od ∧ KC o h h' ∧ (cdCn w p) = 0) (Xn [iae] (cdCn w p) h) := by
  obtain ⟨T, f, u, v, k, ku, kv, g, r1, r2, h1, h2, h3, h4, h5, h6⟩ := id hc
  refine CC_mono (c_X6_counts hl D z0 h x w p w_ p_) (fun w0 h' z => ?_) (fun _ _ z => z)
  obtain ⟨rfl, rfl, z3⟩ := z
  exact ⟨rfl, hc, KC_rf, z3⟩
theorem c6_sort {l : Launch} (hl : l.stackTraces = false) (D : va_G) (z0 : Nat) (h : Hp) {x o : Nat} {σ : Tg} {r : List Nat} {m : Nat} {od : Nat → Int} (hc : CS D h x o σ r m od) (hp : PI r m od) (w : Int) (w_ : 0 ≤ w ∧ w ≤ 65535) : CC l yX6_sort cX6_sort 3 (some .int) rX6_sort D z0 h [.ref x, iv w] (fun w0 h' => w0 = some (iv (((srt σ w od 16).1 : Int))) ∧ CS D h' x o σ r ((srt σ w od 16).1) ((srt σ w od 16).2) ∧ KC o h h' ∧ (cdBy w) = 0) (Xn [iae] (cdBy w) h) := by
  obtain ⟨T, f, u, v, k, ku, kv, g, r1, r2, h1, h2, h3, h4, h5, h6⟩ := id hc
  refine CC_mono (c_X6_sort hl D z0 h x T f u v o (m : Int) g σ h1 w w_ od h5) (fun w0 h' z => ?_) (fun _ _ z => z)
  obtain ⟨rfl, z2, z3, z4, z5⟩ := z
  have P9 : ∀ {f k : Nat} {r : List Nat}, Pm D h f k r → Pm D h' f k r := by
    intro f k9 r hm
    obtain ⟨y1, ks, y2, y3⟩ := id hm
    refine Pm_keep z4 hm ?_ ?_
    · rintro (w | w)
      · exact ne_kd y1 h5 rfl w
      · exact ne_kd y1 h1.1 rfl w
    · rintro (w | w)
      · exact ne_kd y2 h5 rfl w
      · exact ne_kd y2 h1.1 rfl w
  refine ⟨rfl, ⟨T, f, u, v, k, ku, kv, g, r1, r2, z2, P9 h2, P9 h3, P9 h4, z3, h6⟩, fun q e hq hqo hn => z4 q e hq ?_, z5⟩
  rintro (w | w)
  · exact hqo w
  · rw [w, h1.1] at hq
    cases hq
    exact hn (Or.inl rfl)
theorem c6_sorted {l : Launch} (hl : l.stackTraces = false) (D : va_G) (z0 : Nat) (h : Hp) {x o : Nat} {σ : Tg} {r : List Nat} {m : Nat} {od : Nat → Int} (hc : CS D h x o σ r m od) (hp : PI r m od) (w : Int) (w_ : I32 w) : CC l yX6_sorted cX6_sorted 2 (some .int) rX6_sorted D z0 h [.ref x, iv w] (fun w0 h' => w0 = some (iv (od w.toNat)) ∧ CS D h' x o σ r m od ∧ KC o h h' ∧ (cdSo (m : Int) w) = 0) (Xn [iob] (cdSo (m : Int) w) h) := by
  obtain ⟨T, f, u, v, k, ku, kv, g, r1, r2, h1, h2, h3, h4, h5, h6⟩ := id hc
  refine CC_mono (c_X6_sorted hl D z0 h x T f u v o (m : Int) g σ h1 w w_ ⟨by omega, by have := hp.2.1; omega⟩ od h5) (fun w0 h' z => ?_) (fun _ _ z => z)
  obtain ⟨rfl, rfl, z3⟩ := z
  exact ⟨rfl, hc, KC_rf, z3⟩
theorem c6_isTrue {l : Launch} (hl : l.stackTraces = false) (D : va_G) (z0 : Nat) (h : Hp) {x o : Nat} {σ : Tg} {r : List Nat} {m : Nat} {od : Nat → Int} (hc : CS D h x o σ r m od) (hp : PI r m od) (p : Int) (p_ : I32 p) : CC l yX6_isTrue cX6_isTrue 2 (some .boolean) rX6_isTrue D z0 h [.ref x, iv p] (fun w0 h' => w0 = some (iv (1)) ∧ CS D h' x o σ r m od ∧ KC o h h' ∧ (ms σ p 2) = 0) (Xn [iob, nseN] (ms σ p 2) h) := by
  obtain ⟨T, f, u, v, k, ku, kv, g, r1, r2, h1, h2, h3, h4, h5, h6⟩ := id hc
  refine CC_mono (c_X6_isTrue hl D z0 h x T f u v o (m : Int) g σ h1 p p_) (fun w0 h' z => ?_) (fun _ _ z => z)
  obtain ⟨rfl, rfl, z3⟩ := z
  exact ⟨rfl, hc, KC_rf, z3⟩
theorem c6_rootIsTrue {l : Launch} (hl : l.stackTraces = false) (D : va_G) (z0 : Nat) (h : Hp) {x o : Nat} {σ : Tg} {r : List Nat} {m : Nat} {od : Nat → Int} (hc : CS D h x o σ r m od) (hp : PI r m od) (p : Int) (p_ : I64 p) : CC l yX6_rootIsTrue cX6_rootIsTrue 3 (some .boolean) rX6_rootIsTrue D z0 h [.ref x, jv p] (fun w0 h' => w0 = some (iv (1)) ∧ CS D h' x o σ r m od ∧ KC o h h' ∧ (cdRo p) = 0) (Xn [iae] (cdRo p) h) := by
  obtain ⟨T, f, u, v, k, ku, kv, g, r1, r2, h1, h2, h3, h4, h5, h6⟩ := id hc
  refine CC_mono (c_X6_rootIsTrue hl D z0 h x p p_) (fun w0 h' z => ?_) (fun _ _ z => z)
  obtain ⟨rfl, rfl, z3⟩ := z
  exact ⟨rfl, hc, KC_rf, z3⟩
theorem c6_hypotIsTrue {l : Launch} (hl : l.stackTraces = false) (D : va_G) (z0 : Nat) (h : Hp) {x o : Nat} {σ : Tg} {r : List Nat} {m : Nat} {od : Nat → Int} (hc : CS D h x o σ r m od) (hp : PI r m od) (a : Int) (a_ : I32 a) (b : Int) (b_ : I32 b) : CC l yX6_hypotIsTrue cX6_hypotIsTrue 3 (some .boolean) rX6_hypotIsTrue D z0 h [.ref x, iv a, iv b] (fun w0 h' => w0 = some (iv (1)) ∧ CS D h' x o σ r m od ∧ KC o h h' ∧ (cdHt a b) = 0) (Xn [iae] (cdHt a b) h) := by
  obtain ⟨T, f, u, v, k, ku, kv, g, r1, r2, h1, h2, h3, h4, h5, h6⟩ := id hc
  refine CC_mono (c_X6_hypotIsTrue hl D z0 h x a b a_ b_) (fun w0 h' z => ?_) (fun _ _ z => z)
  obtain ⟨rfl, rfl, z3⟩ := z
  exact ⟨rfl, hc, KC_rf, z3⟩
theorem c6_listIsTrue {l : Launch} (hl : l.stackTraces = false) (D : va_G) (z0 : Nat) (h : Hp) {x o : Nat} {σ : Tg} {r : List Nat} {m : Nat} {od : Nat → Int} (hc : CS D h x o σ r m od) (hp : PI r m od) (p : Int) (p_ : I32 p) : CC l yX6_listIsTrue cX6_listIsTrue 2 (some .boolean) rX6_listIsTrue D z0 h [.ref x, iv p] (fun w0 h' => w0 = some (iv (1)) ∧ CS D h' x o σ r m od ∧ KC o h h' ∧ (cdLt p) = 0) (Xn [iae] (cdLt p) h) := by
  obtain ⟨T, f, u, v, k, ku, kv, g, r1, r2, h1, h2, h3, h4, h5, h6⟩ := id hc
  refine CC_mono (c_X6_listIsTrue hl D z0 h x T f u v o (m : Int) g σ h1 ku kv r1 r2 h3 h4 h6.1.2.2 h6.2.2.2 p p_) (fun w0 h' z => ?_) (fun _ _ z => z)
  obtain ⟨rfl, z2, z3, z4, z5⟩ := z
  obtain ⟨y1, ks, y2, y3⟩ := id h2
  obtain ⟨a1, as, a2, a3⟩ := id h3
  obtain ⟨b1, bs, b2, b3⟩ := id h4
  have K9 : ∀ (q : Nat) (e : va_E), h q = some e → (kd e ≠ (1, 0) ∨ (q ≠ u ∧ q ≠ v)) → (kd e ≠ (10, 64) ∨ (q ≠ ku ∧ q ≠ kv)) → h' q = some e := by
    intro q e hq n1 n2
    refine z4 q e hq ?_
    rintro (w | w | w | w)
    · rcases n1 with n1 | n1
      · rw [w, a1] at hq; cases hq; exact n1 rfl
      · exact n1.1 w
    · rcases n2 with n2 | n2
      · rw [w, a2] at hq; cases hq; exact n2 rfl
      · exact n2.1 w
    · rcases n1 with n1 | n1
      · rw [w, b1] at hq; cases hq; exact n1 rfl
      · exact n1.2 w
    · rcases n2 with n2 | n2
      · rw [w, b2] at hq; cases hq; exact n2 rfl
      · exact n2.2 w
  refine ⟨rfl, ⟨T, f, u, v, k, ku, kv, g, _, _, ⟨K9 _ _ h1.1 (Or.inl (by show ((0 : Nat), (0 : Nat)) ≠ (1, 0); decide)) (Or.inl (by show ((0 : Nat), (0 : Nat)) ≠ (10, 64); decide)), K9 _ _ h1.2.1 (Or.inl (by show ((14 : Nat), (16 : Nat)) ≠ (1, 0); decide)) (Or.inl (by show ((14 : Nat), (16 : Nat)) ≠ (10, 64); decide)), Trs_fr h1.2.2 (fun q e hq hk => K9 q e hq (Or.inl (by rw [hk]; decide)) (Or.inl (by rw [hk]; decide)))⟩, Pm_fr h2 (fun e he => K9 _ _ he (Or.inr ⟨h6.1.1, h6.1.2.1⟩) (Or.inl (by rw [y1] at he; cases he; show ((1 : Nat), (0 : Nat)) ≠ (10, 64); decide))) (fun e he => K9 _ _ he (Or.inl (by rw [y2] at he; cases he; show ((10 : Nat), (64 : Nat)) ≠ (1, 0); decide)) (Or.inr ⟨h6.2.1, h6.2.2.1⟩)), z2, z3, K9 _ _ h5 (Or.inl (by show ((10 : Nat), (16 : Nat)) ≠ (1, 0); decide)) (Or.inl (by show ((10 : Nat), (16 : Nat)) ≠ (10, 64); decide)), h6⟩, fun q e hq _ hn => K9 q e hq (Or.inl (fun w => hn (Or.inr (Or.inl w)))) (Or.inl (fun w => hn (Or.inr (Or.inr (Or.inr w))))), z5⟩
theorem c6_countIsTrue {l : Launch} (hl : l.stackTraces = false) (D : va_G) (z0 : Nat) (h : Hp) {x o : Nat} {σ : Tg} {r : List Nat} {m : Nat} {od : Nat → Int} (hc : CS D h x o σ r m od) (hp : PI r m od) (p : Int) (p_ : I32 p) : CC l yX6_countIsTrue cX6_countIsTrue 2 (some .boolean) rX6_countIsTrue D z0 h [.ref x, iv p] (fun w0 h' => w0 = some (iv (1)) ∧ CS D h' x o σ r m od ∧ KC o h h' ∧ (cdCt p) = 0) (Xn [iae] (cdCt p) h) := by
  obtain ⟨T, f, u, v, k, ku, kv, g, r1, r2, h1, h2, h3, h4, h5, h6⟩ := id hc
  refine CC_mono (c_X6_countIsTrue hl D z0 h x p p_) (fun w0 h' z => ?_) (fun _ _ z => z)
  obtain ⟨rfl, rfl, z3⟩ := z
  exact ⟨rfl, hc, KC_rf, z3⟩
theorem c6_mean {l : Launch} (hl : l.stackTraces = false) (D : va_G) (z0 : Nat) (h : Hp) {x o : Nat} {σ : Tg} {r : List Nat} {m : Nat} {od : Nat → Int} (hc : CS D h x o σ r m od) : CC l yX6_mean cX6_mean 5 (some .double) rX6_mean D z0 h [.ref x] (PV (.double (dMe σ)) h) NX := by
  obtain ⟨T, f, u, v, k, ku, kv, g, r1, r2, h1, h2, h3, h4, h5, h6⟩ := id hc
  exact c_X6_mean hl D z0 h x T f u v o (m : Int) g σ h1
theorem c6_checksum {l : Launch} (hl : l.stackTraces = false) (D : va_G) (z0 : Nat) (h : Hp) {x o : Nat} {σ : Tg} {r : List Nat} {m : Nat} {od : Nat → Int} (hc : CS D h x o σ r m od) (hp : PI r m od) : CC l yX6_checksum cX6_checksum 5 (some .long) rX6_checksum D z0 h [.ref x] (PV (jv (sO od (sL r (s16 σ 16) r.length) m)) h) NX := by
  obtain ⟨T, f, u, v, k, ku, kv, g, r1, r2, h1, h2, h3, h4, h5, h6⟩ := id hc
  exact c_X6_checksum hl D z0 h x T f u v o m g σ h1 k r h2 hp.1.1 hp.1.2 hp.2.1 od h5 hp.2.2
