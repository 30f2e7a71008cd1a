/-! the list by hypot is the same, by computation -/
def adv (s : Nat) : Nat → Nat → Nat
  | 0, z => z
  | m + 1, z => if z * z < s then adv s m (z + 1) else z
theorem adv_s (s m z : Nat) : adv s (m + 1) z = if z * z < s then adv s m (z + 1) else z := rfl
theorem adv_f (s : Nat) : ∀ (m z : Nat), (z - 1) * (z - 1) < s → 401 ≤ z + m → (adv s m z - 1) * (adv s m z - 1) < s ∧ (s ≤ adv s m z * adv s m z ∨ 401 ≤ adv s m z)
  | 0, z, h, hz => ⟨h, Or.inr (by show 401 ≤ z; omega)⟩
  | m + 1, z, h, hz => by
    rw [adv_s]
    by_cases q : z * z < s
    · rw [if_pos q]
      exact adv_f s m (z + 1) (by rw [Nat.add_sub_cancel]; exact q) (by omega)
    · rw [if_neg q]
      exact ⟨h, Or.inl (by omega)⟩
def hits (o q : Nat) : Nat → Nat → Nat → List (Nat × Nat)
  | 0, _, _ => []
  | m + 1, e, z => match adv (o * o + e * e) q z with
    | 0 => []
    | w + 1 => if 400 ≤ w then [] else if (w + 1) * (w + 1) = o * o + e * e ∧ Nat.gcd o e = 1 then (e, w + 1) :: hits o q m (e + 2) (w + 1) else hits o q m (e + 2) (w + 1)
theorem hits_s (o q m e z : Nat) : hits o q (m + 1) e z = match adv (o * o + e * e) q z with
    | 0 => []
    | w + 1 => if 400 ≤ w then [] else if (w + 1) * (w + 1) = o * o + e * e ∧ Nat.gcd o e = 1 then (e, w + 1) :: hits o q m (e + 2) (w + 1) else hits o q m (e + 2) (w + 1) := rfl
def fT (b o : Nat) : List (Nat × Nat) → List Nat → List Nat
  | [], r => r
  | (e, z) :: t, r => fT b o t (if z ≤ b then insR (keyN o e z) r else r)
theorem fT_s (b o e z : Nat) (t : List (Nat × Nat)) (r : List Nat) : fT b o ((e, z) :: t) r = fT b o t (if z ≤ b then insR (keyN o e z) r else r) := rfl
theorem hE_hits {b o q : Nat} (hb : b ≤ 400) (ho : 1 ≤ o) (hq : q = 401) : ∀ (m e z : Nat) (r : List Nat), (z - 1) * (z - 1) < o * o + e * e → hE b o m e r = fT b o (hits o q m e z) r
  | 0, _, _, _, _ => rfl
  | m + 1, e, z, r, h => by
    have hf := adv_f (o * o + e * e) q z h (by omega)
    have hoo := Nat.mul_le_mul ho ho
    have hbb := Nat.mul_le_mul hb hb
    have hmono := Nat.mul_le_mul (show e ≤ e + 2 by omega) (show e ≤ e + 2 by omega)
    rw [hits_s]
    cases hw : adv (o * o + e * e) q z with
    | zero =>
      rw [hw] at hf
      omega
    | succ w =>
      rw [hw, Nat.add_sub_cancel] at hf
      dsimp only
      by_cases c : 400 ≤ w
      · rw [if_pos c]
        have := Nat.mul_le_mul c c
        exact hE_id b o (m + 1) e r (by omega)
      · rw [if_neg c]
        have h2 : o * o + e * e ≤ (w + 1) * (w + 1) := hf.2.resolve_right (by omega)
        have ih := fun r' => hE_hits (b := b) hb ho hq m (e + 2) (w + 1) r' (by rw [Nat.add_sub_cancel]; omega)
        rw [hE_s, ih]
        by_cases d : (w + 1) * (w + 1) = o * o + e * e
        · have hsq : isq (o * o + e * e) = w + 1 := by rw [← d]; exact isq_sq _
          by_cases g : Nat.gcd o e = 1
          · rw [if_pos ⟨d, g⟩, fT_s]
            congr 1
            unfold hA1
            rw [hsq]
            by_cases k : w + 1 ≤ b
            · rw [if_pos ⟨d, k, g⟩, if_pos k]
            · rw [if_neg (fun z => k z.2.1), if_neg k]
          · rw [if_neg (fun z => g z.2)]
            congr 1
            exact if_neg (fun z => g z.2.2)
        · rw [if_neg (fun z => d z.1)]
          congr 1
          refine if_neg (fun z => ?_)
          have z0 := z.1
          have z1 : isq (o * o + e * e) ≤ w + 1 := by
            apply Nat.not_lt.mp
            intro y
            have := Nat.mul_self_le_mul_self (show w + 1 + 1 ≤ isq (o * o + e * e) from y)
            simp only [Nat.mul_add, Nat.add_mul, Nat.mul_one, Nat.one_mul] at this h2
            omega
          have z2 : w + 1 ≤ isq (o * o + e * e) := by
            apply Nat.not_lt.mp
            intro y
            have := Nat.mul_self_le_mul_self (show isq (o * o + e * e) ≤ w by omega)
            omega
          have z3 := Nat.le_antisymm z1 z2
          rw [z3] at z0
          exact d z0
def aT (k q : Nat) : Nat → Nat → List (Nat × List (Nat × Nat))
  | 0, _ => []
  | m + 1, o => (o, hits o q k 2 o) :: aT k q m (o + 2)
theorem aT_s (k q m o : Nat) : aT k q (m + 1) o = (o, hits o q k 2 o) :: aT k q m (o + 2) := rfl
def gT (b : Nat) : List (Nat × List (Nat × Nat)) → List Nat → List Nat
  | [], r => r
  | (o, t) :: u, r => gT b u (fT b o t r)
theorem gT_s (b o : Nat) (t : List (Nat × Nat)) (u : List (Nat × List (Nat × Nat))) (r : List Nat) : gT b ((o, t) :: u) r = gT b u (fT b o t r) := rfl
theorem hO_hits {b k q : Nat} (hb : b ≤ 400) (hq : q = 401) : ∀ (m o : Nat) (r : List Nat), 1 ≤ o → hO b k m o r = gT b (aT k q m o) r
  | 0, _, _, _ => rfl
  | m + 1, o, r, ho => by
    rw [hO_s, aT_s, gT_s, hE_hits hb ho hq k 2 o r (by have := Nat.mul_self_le_mul_self (show o - 1 ≤ o by omega); omega)]
    exact hO_hits hb hq m (o + 2) _ (by omega)
def TT : List (Nat × List (Nat × Nat)) := [(1, []), (3, [(4, 5)]), (5, [(12, 13)]), (7, [(24, 25)]), (9, [(40, 41)]), (11, [(60, 61)]), (13, [(84, 85)]), (15, [(8, 17), (112, 113)]), (17, [(144, 145)]), (19, [(180, 181)]), (21, [(20, 29), (220, 221)]), (23, [(264, 265)]), (25, [(312, 313)]), (27, [(364, 365)]), (29, []), (31, []), (33, [(56, 65)]), (35, [(12, 37)]), (37, []), (39, [(80, 89)]), (41, []), (43, []), (45, [(28, 53)]), (47, []), (49, []), (51, [(140, 149)]), (53, []), (55, [(48, 73)]), (57, [(176, 185)]), (59, []), (61, []), (63, [(16, 65)]), (65, [(72, 97)]), (67, []), (69, [(260, 269)]), (71, []), (73, []), (75, [(308, 317)]), (77, [(36, 85)]), (79, []), (81, []), (83, []), (85, [(132, 157)]), (87, []), (89, []), (91, [(60, 109)]), (93, []), (95, [(168, 193)]), (97, []), (99, [(20, 101)]), (101, []), (103, []), (105, [(88, 137), (208, 233)]), (107, []), (109, []), (111, []), (113, []), (115, [(252, 277)]), (117, [(44, 125)]), (119, [(120, 169)]), (121, []), (123, []), (125, []), (127, []), (129, []), (131, []), (133, [(156, 205)]), (135, [(352, 377)]), (137, []), (139, []), (141, []), (143, [(24, 145)]), (145, []), (147, []), (149, []), (151, []), (153, [(104, 185)]), (155, []), (157, []), (159, []), (161, [(240, 289)]), (163, []), (165, [(52, 173)]), (167, []), (169, []), (171, [(140, 221)]), (173, []), (175, [(288, 337)]), (177, []), (179, []), (181, []), (183, []), (185, []), (187, [(84, 205)]), (189, [(340, 389)]), (191, []), (193, []), (195, [(28, 197)]), (197, []), (199, []), (201, []), (203, []), (205, []), (207, [(224, 305)]), (209, [(120, 241)]), (211, []), (213, []), (215, []), (217, []), (219, []), (221, [(60, 229)]), (223, []), (225, [(272, 353)]), (227, []), (229, []), (231, [(160, 281)]), (233, []), (235, []), (237, []), (239, []), (241, []), (243, []), (245, []), (247, [(96, 265)]), (249, []), (251, []), (253, [(204, 325)]), (255, [(32, 257)]), (257, []), (259, []), (261, []), (263, []), (265, []), (267, []), (269, []), (271, []), (273, [(136, 305)]), (275, [(252, 373)]), (277, []), (279, []), (281, []), (283, []), (285, [(68, 293)]), (287, []), (289, []), (291, []), (293, []), (295, []), (297, []), (299, [(180, 349)]), (301, []), (303, []), (305, []), (307, []), (309, []), (311, []), (313, []), (315, []), (317, []), (319, []), (321, []), (323, [(36, 325)]), (325, [(228, 397)]), (327, []), (329, []), (331, []), (333, []), (335, []), (337, []), (339, []), (341, []), (343, []), (345, [(152, 377)]), (347, []), (349, []), (351, []), (353, []), (355, []), (357, [(76, 365)]), (359, []), (361, []), (363, []), (365, []), (367, []), (369, []), (371, []), (373, []), (375, []), (377, []), (379, []), (381, []), (383, []), (385, []), (387, []), (389, []), (391, []), (393, []), (395, []), (397, []), (399, [])]
theorem TT_is : aT 199 401 200 1 = TT := by decide +kernel
theorem gT_all : ∀ b, b < 401 → gT b TT [] = eR b := by decide +kernel
theorem hR_e {b : Nat} (hb : b ≤ 400) {c m : Nat} (hc : c = 199) (hm : m = 200) : hO b c m 1 [] = eR b := by
  rw [hO_hits hb (q := 401) rfl m 1 [] (Nat.le_refl _)]
  subst hc hm
  rw [TT_is]
  exact gT_all b (by omega)
