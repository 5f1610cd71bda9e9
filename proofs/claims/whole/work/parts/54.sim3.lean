theorem and1 (z : Int32) : z &&& 1 = 0 ∨ z &&& 1 = 1 := by
  obtain ⟨j, hj, e⟩ := pk_andE z (m := 1) 1 rfl
  rcases (show j = 0 ∨ j = 1 by omega) with rfl | rfl
  · exact Or.inl e
  · exact Or.inr e
theorem isIn0 (m s : Int32) : fX5_isIn m s = 0 ↔ (s >>> (m &&& 31)) &&& 1 = 0 := by
  unfold fX5_isIn
  rcases and1 (s >>> (m &&& 31)) with w | w
  · rw [w]; decide
  · rw [w]; decide
theorem isOf_eq (a b : Int32) : fX6_isOf a b = fX5_isWithin a b := rfl
theorem two_bits : ∀ m : Nat, m < 6 → ∀ v : Nat, v < 6 → ∀ s : Nat, s < 64 → (fX6_isOf ((1 <<< (nI m &&& 31)) ||| (1 <<< (nI v &&& 31))) (nI s) = if fX5_isIn (nI m) (nI s) = 0 then 0 else if fX5_isIn (nI v) (nI s) = 0 then 0 else 1) := by decide +kernel
theorem likeF {G H : Nat → Nat → Int32} {x y M W : Int32} (g13 : G 13 (ix x) = nI 6) (g16 : G 16 (ix x) = M) (g17 : G 17 (ix x) = W) (z1 : H 10 (ix y) = G 13 (ix y)) (z2 : H 13 (ix y) = G 16 (ix y)) (z3 : H 14 (ix y) = G 17 (ix y)) : fX2_isLikeJob G x y = fX6_isFold H y M W := by
  unfold fX2_isLikeJob fX6_isFold
  rw [g13, g16, g17, z1, z2, z3, show (nI 6 : Int32) = 6 from rfl]
  by_cases a : G 13 (ix y) = 6
  · rw [if_pos a, if_pos a.symm]
    by_cases b : G 16 (ix y) = M
    · rw [if_pos b, if_pos b.symm]
      by_cases c : G 17 (ix y) = W
      · rw [if_pos c, if_pos c.symm]
      · rw [if_neg c, if_neg (fun w => c w.symm)]
    · rw [if_neg b, if_neg (fun w => b w.symm)]
  · rw [if_neg a, if_neg (fun w => a w.symm)]
theorem like7 {G : Nat → Nat → Int32} {x y : Int32} (g13 : G 13 (ix x) = nI 7) (g16 : G 16 (ix x) = nI 0) (g17 : G 17 (ix x) = nI 0) (z4 : G 13 (ix y) = 7 → G 16 (ix y) = 0 ∧ G 17 (ix y) = 0) : fX2_isLikeJob G x y = if G 13 (ix y) = 7 then 1 else 0 := by
  unfold fX2_isLikeJob
  rw [g13, g16, g17, show (nI 7 : Int32) = 7 from rfl, show (nI 0 : Int32) = 0 from rfl]
  by_cases a : G 13 (ix y) = 7
  · rw [if_pos a, if_pos a.symm, (z4 a).1, (z4 a).2, if_pos rfl, if_pos rfl]
  · rw [if_neg a, if_neg (fun w => a w.symm)]
theorem h0T : ∀ r : Nat, r < 18 → ¬ nI 0 = uT r := by decide
theorem win01 (a b : Int32) : (if fX5_isWithin a b = 0 then 0 else 1 : Int32) = fX5_isWithin a b := by
  unfold fX5_isWithin; split <;> rfl

set_option maxHeartbeats 800000 in
theorem suit_0 {G H : Nat → Nat → Int32} {x k a m v k2 c d m2 v2 : Nat} (s1 : k ≤ 8) (s6 : m < 6) (s7 : ¬ (k = 2 ∨ k = 4 ∨ k = 6) → m = 0) (s10 : k = 6 → v < 6 ∧ v ≠ m) (s12 : k = 0 ∨ k = 5 ∨ k = 7 → v = 0) (t1 : k2 ≤ 8) (t9 : k2 = 3 ∨ k2 = 4 → v2 < 64) (g13 : G 13 (ix (nI x)) = nI k) (g14 : G 14 (ix (nI x)) = nI a) (g16 : G 16 (ix (nI x)) = nI m) (g17 : G 17 (ix (nI x)) = nI v) (h10 : H 10 (ix (nI x)) = nI k) (h11 : H 11 (ix (nI x)) = nI a) (h13 : H 13 (ix (nI x)) = nI m) (h14 : H 14 (ix (nI x)) = nI v) (n0 : ¬ nI k = 0) (c13 : G 13 (ix (nI a)) = nI k2) (c14 : G 14 (ix (nI a)) = nI c) (c15 : G 15 (ix (nI a)) = nI d) (c16 : G 16 (ix (nI a)) = nI m2) (c17 : G 17 (ix (nI a)) = nI v2) (d10 : H 10 (ix (nI a)) = nI k2) (d11 : H 11 (ix (nI a)) = nI c) (d12 : H 12 (ix (nI a)) = nI d) (d13 : H 13 (ix (nI a)) = nI m2) (d14 : H 14 (ix (nI a)) = nI v2) (fr : k = 1 ∨ k = 2 → H 7 (ix (nI v)) = G 10 (ix (nI v))) (ff : k = 1 ∨ k = 2 → H 8 (ix (nI v)) = G 11 (ix (nI v))) (ff2 : k2 = 1 ∨ k2 = 2 → H 8 (ix (nI v2)) = G 11 (ix (nI v2))) (fd : k2 = 4 ∨ k2 = 5 → H 16 (ix (nI d)) = G 19 (ix (nI d))) (cc : k2 = 5 → ∀ w, w = c ∨ w = d → H 10 (ix (nI w)) = G 13 (ix (nI w)) ∧ H 13 (ix (nI w)) = G 16 (ix (nI w)) ∧ H 14 (ix (nI w)) = G 17 (ix (nI w)) ∧ (G 13 (ix (nI w)) = 7 → G 16 (ix (nI w)) = 0 ∧ G 17 (ix (nI w)) = 0)) : fX2_suits G (nI x) (nI 0) = fX6_stands H (nI x) (nI 0) := by
  unfold fX2_suits fX6_stands
  rw [if_pos (show (nI 0 : Int32) = 0 by decide), show uT (ix (nI 0)) = 1 by decide, show lT (ix (nI 0)) = 2 by decide, g13, g14, c13, h10, h11, d10, if_neg n0]
  by_cases hk : k = 1
  · subst hk
    by_cases hc : k2 = 2
    · subst hc
      rw [if_pos (show (nI 1 : Int32) = 1 from rfl), if_pos (show (nI 2 : Int32) = 2 from rfl)]
      simp [fX2_suitsFilter, show (nI 0 : Int32) = 0 from rfl, show (nI 1 : Int32) = 1 from rfl, show (nI 2 : Int32) = 2 from rfl, g16, g17, c14, c15, c16, c17, d11, d12, d13, d14, h13, h14, isOf_eq, win01, fr (by decide), ff (by decide), ff2 (by decide), isIn0]
    · have nc : ¬ nI k2 = 2 := fun w => hc ((kI t1 (by decide : 2 < 2 ^ 31)).mp w)
      simp [nc]
  · have nk : ¬ nI k = 1 := fun w => hk ((kI s1 (by decide : 1 < 2 ^ 31)).mp w)
    simp [nk]

set_option maxHeartbeats 800000 in
theorem suit_1 {G H : Nat → Nat → Int32} {x k a m v k2 c d m2 v2 : Nat} (s1 : k ≤ 8) (s6 : m < 6) (s7 : ¬ (k = 2 ∨ k = 4 ∨ k = 6) → m = 0) (s10 : k = 6 → v < 6 ∧ v ≠ m) (s12 : k = 0 ∨ k = 5 ∨ k = 7 → v = 0) (t1 : k2 ≤ 8) (t9 : k2 = 3 ∨ k2 = 4 → v2 < 64) (g13 : G 13 (ix (nI x)) = nI k) (g14 : G 14 (ix (nI x)) = nI a) (g16 : G 16 (ix (nI x)) = nI m) (g17 : G 17 (ix (nI x)) = nI v) (h10 : H 10 (ix (nI x)) = nI k) (h11 : H 11 (ix (nI x)) = nI a) (h13 : H 13 (ix (nI x)) = nI m) (h14 : H 14 (ix (nI x)) = nI v) (n0 : ¬ nI k = 0) (c13 : G 13 (ix (nI a)) = nI k2) (c14 : G 14 (ix (nI a)) = nI c) (c15 : G 15 (ix (nI a)) = nI d) (c16 : G 16 (ix (nI a)) = nI m2) (c17 : G 17 (ix (nI a)) = nI v2) (d10 : H 10 (ix (nI a)) = nI k2) (d11 : H 11 (ix (nI a)) = nI c) (d12 : H 12 (ix (nI a)) = nI d) (d13 : H 13 (ix (nI a)) = nI m2) (d14 : H 14 (ix (nI a)) = nI v2) (fr : k = 1 ∨ k = 2 → H 7 (ix (nI v)) = G 10 (ix (nI v))) (ff : k = 1 ∨ k = 2 → H 8 (ix (nI v)) = G 11 (ix (nI v))) (ff2 : k2 = 1 ∨ k2 = 2 → H 8 (ix (nI v2)) = G 11 (ix (nI v2))) (fd : k2 = 4 ∨ k2 = 5 → H 16 (ix (nI d)) = G 19 (ix (nI d))) (cc : k2 = 5 → ∀ w, w = c ∨ w = d → H 10 (ix (nI w)) = G 13 (ix (nI w)) ∧ H 13 (ix (nI w)) = G 16 (ix (nI w)) ∧ H 14 (ix (nI w)) = G 17 (ix (nI w)) ∧ (G 13 (ix (nI w)) = 7 → G 16 (ix (nI w)) = 0 ∧ G 17 (ix (nI w)) = 0)) : fX2_suits G (nI x) (nI 1) = fX6_stands H (nI x) (nI 1) := by
  unfold fX2_suits fX6_stands
  rw [if_neg (show ¬ (nI 1 : Int32) = 0 by decide), if_pos (show (nI 1 : Int32) = 1 by decide), show uT (ix (nI 1)) = 1 by decide, show lT (ix (nI 1)) = 3 by decide, g13, g14, c13, h10, h11, d10, if_neg n0]
  by_cases hk : k = 1
  · subst hk
    by_cases hc : k2 = 3
    · subst hc
      rw [if_pos (show (nI 1 : Int32) = 1 from rfl), if_pos (show (nI 3 : Int32) = 3 from rfl)]
      simp [fX2_suitsFilter, show (nI 1 : Int32) = 1 from rfl, show (nI 2 : Int32) = 2 from rfl, show (nI 3 : Int32) = 3 from rfl, g16, g17, c14, c15, c16, c17, d11, d12, d13, d14, h13, h14, isOf_eq, win01, fr (by decide), ff (by decide), isIn0]
    · have nc : ¬ nI k2 = 3 := fun w => hc ((kI t1 (by decide : 3 < 2 ^ 31)).mp w)
      simp [nc]
  · have nk : ¬ nI k = 1 := fun w => hk ((kI s1 (by decide : 1 < 2 ^ 31)).mp w)
    simp [nk]

set_option maxHeartbeats 800000 in
theorem suit_2 {G H : Nat → Nat → Int32} {x k a m v k2 c d m2 v2 : Nat} (s1 : k ≤ 8) (s6 : m < 6) (s7 : ¬ (k = 2 ∨ k = 4 ∨ k = 6) → m = 0) (s10 : k = 6 → v < 6 ∧ v ≠ m) (s12 : k = 0 ∨ k = 5 ∨ k = 7 → v = 0) (t1 : k2 ≤ 8) (t9 : k2 = 3 ∨ k2 = 4 → v2 < 64) (g13 : G 13 (ix (nI x)) = nI k) (g14 : G 14 (ix (nI x)) = nI a) (g16 : G 16 (ix (nI x)) = nI m) (g17 : G 17 (ix (nI x)) = nI v) (h10 : H 10 (ix (nI x)) = nI k) (h11 : H 11 (ix (nI x)) = nI a) (h13 : H 13 (ix (nI x)) = nI m) (h14 : H 14 (ix (nI x)) = nI v) (n0 : ¬ nI k = 0) (c13 : G 13 (ix (nI a)) = nI k2) (c14 : G 14 (ix (nI a)) = nI c) (c15 : G 15 (ix (nI a)) = nI d) (c16 : G 16 (ix (nI a)) = nI m2) (c17 : G 17 (ix (nI a)) = nI v2) (d10 : H 10 (ix (nI a)) = nI k2) (d11 : H 11 (ix (nI a)) = nI c) (d12 : H 12 (ix (nI a)) = nI d) (d13 : H 13 (ix (nI a)) = nI m2) (d14 : H 14 (ix (nI a)) = nI v2) (fr : k = 1 ∨ k = 2 → H 7 (ix (nI v)) = G 10 (ix (nI v))) (ff : k = 1 ∨ k = 2 → H 8 (ix (nI v)) = G 11 (ix (nI v))) (ff2 : k2 = 1 ∨ k2 = 2 → H 8 (ix (nI v2)) = G 11 (ix (nI v2))) (fd : k2 = 4 ∨ k2 = 5 → H 16 (ix (nI d)) = G 19 (ix (nI d))) (cc : k2 = 5 → ∀ w, w = c ∨ w = d → H 10 (ix (nI w)) = G 13 (ix (nI w)) ∧ H 13 (ix (nI w)) = G 16 (ix (nI w)) ∧ H 14 (ix (nI w)) = G 17 (ix (nI w)) ∧ (G 13 (ix (nI w)) = 7 → G 16 (ix (nI w)) = 0 ∧ G 17 (ix (nI w)) = 0)) : fX2_suits G (nI x) (nI 2) = fX6_stands H (nI x) (nI 2) := by
  unfold fX2_suits fX6_stands
  rw [if_neg (show ¬ (nI 2 : Int32) = 0 by decide), if_neg (show ¬ (nI 2 : Int32) = 1 by decide), if_pos (show (nI 2 : Int32) = 2 by decide), show uT (ix (nI 2)) = 1 by decide, show lT (ix (nI 2)) = 4 by decide, g13, g14, c13, h10, h11, d10, if_neg n0]
  by_cases hk : k = 1
  · subst hk
    by_cases hc : k2 = 4
    · subst hc
      rw [if_pos (show (nI 1 : Int32) = 1 from rfl), if_pos (show (nI 4 : Int32) = 4 from rfl)]
      simp [fX2_suitsFilter, show (nI 1 : Int32) = 1 from rfl, show (nI 2 : Int32) = 2 from rfl, show (nI 4 : Int32) = 4 from rfl, g16, g17, c14, c15, c16, c17, d11, d12, d13, d14, h13, h14, isOf_eq, win01, fr (by decide), ff (by decide), fd (by decide), isIn0]
    · have nc : ¬ nI k2 = 4 := fun w => hc ((kI t1 (by decide : 4 < 2 ^ 31)).mp w)
      simp [nc]
  · have nk : ¬ nI k = 1 := fun w => hk ((kI s1 (by decide : 1 < 2 ^ 31)).mp w)
    simp [nk]

set_option maxHeartbeats 800000 in
theorem suit_3 {G H : Nat → Nat → Int32} {x k a m v k2 c d m2 v2 : Nat} (s1 : k ≤ 8) (s6 : m < 6) (s7 : ¬ (k = 2 ∨ k = 4 ∨ k = 6) → m = 0) (s10 : k = 6 → v < 6 ∧ v ≠ m) (s12 : k = 0 ∨ k = 5 ∨ k = 7 → v = 0) (t1 : k2 ≤ 8) (t9 : k2 = 3 ∨ k2 = 4 → v2 < 64) (g13 : G 13 (ix (nI x)) = nI k) (g14 : G 14 (ix (nI x)) = nI a) (g16 : G 16 (ix (nI x)) = nI m) (g17 : G 17 (ix (nI x)) = nI v) (h10 : H 10 (ix (nI x)) = nI k) (h11 : H 11 (ix (nI x)) = nI a) (h13 : H 13 (ix (nI x)) = nI m) (h14 : H 14 (ix (nI x)) = nI v) (n0 : ¬ nI k = 0) (c13 : G 13 (ix (nI a)) = nI k2) (c14 : G 14 (ix (nI a)) = nI c) (c15 : G 15 (ix (nI a)) = nI d) (c16 : G 16 (ix (nI a)) = nI m2) (c17 : G 17 (ix (nI a)) = nI v2) (d10 : H 10 (ix (nI a)) = nI k2) (d11 : H 11 (ix (nI a)) = nI c) (d12 : H 12 (ix (nI a)) = nI d) (d13 : H 13 (ix (nI a)) = nI m2) (d14 : H 14 (ix (nI a)) = nI v2) (fr : k = 1 ∨ k = 2 → H 7 (ix (nI v)) = G 10 (ix (nI v))) (ff : k = 1 ∨ k = 2 → H 8 (ix (nI v)) = G 11 (ix (nI v))) (ff2 : k2 = 1 ∨ k2 = 2 → H 8 (ix (nI v2)) = G 11 (ix (nI v2))) (fd : k2 = 4 ∨ k2 = 5 → H 16 (ix (nI d)) = G 19 (ix (nI d))) (cc : k2 = 5 → ∀ w, w = c ∨ w = d → H 10 (ix (nI w)) = G 13 (ix (nI w)) ∧ H 13 (ix (nI w)) = G 16 (ix (nI w)) ∧ H 14 (ix (nI w)) = G 17 (ix (nI w)) ∧ (G 13 (ix (nI w)) = 7 → G 16 (ix (nI w)) = 0 ∧ G 17 (ix (nI w)) = 0)) : fX2_suits G (nI x) (nI 3) = fX6_stands H (nI x) (nI 3) := by
  unfold fX2_suits fX6_stands
  rw [if_neg (show ¬ (nI 3 : Int32) = 0 by decide), if_neg (show ¬ (nI 3 : Int32) = 1 by decide), if_neg (show ¬ (nI 3 : Int32) = 2 by decide), if_pos (show (nI 3 : Int32) = 3 by decide), show uT (ix (nI 3)) = 1 by decide, show lT (ix (nI 3)) = 4 by decide, g13, g14, c13, h10, h11, d10, if_neg n0]
  by_cases hk : k = 1
  · subst hk
    by_cases hc : k2 = 4
    · subst hc
      rw [if_pos (show (nI 1 : Int32) = 1 from rfl), if_pos (show (nI 4 : Int32) = 4 from rfl)]
      simp [fX2_suitsFilter, show (nI 1 : Int32) = 1 from rfl, show (nI 2 : Int32) = 2 from rfl, show (nI 3 : Int32) = 3 from rfl, show (nI 4 : Int32) = 4 from rfl, g16, g17, c14, c15, c16, c17, d11, d12, d13, d14, h13, h14, isOf_eq, win01, fr (by decide), ff (by decide), fd (by decide), isIn0]
    · have nc : ¬ nI k2 = 4 := fun w => hc ((kI t1 (by decide : 4 < 2 ^ 31)).mp w)
      simp [nc]
  · have nk : ¬ nI k = 1 := fun w => hk ((kI s1 (by decide : 1 < 2 ^ 31)).mp w)
    simp [nk]

set_option maxHeartbeats 800000 in
theorem suit_4 {G H : Nat → Nat → Int32} {x k a m v k2 c d m2 v2 : Nat} (s1 : k ≤ 8) (s6 : m < 6) (s7 : ¬ (k = 2 ∨ k = 4 ∨ k = 6) → m = 0) (s10 : k = 6 → v < 6 ∧ v ≠ m) (s12 : k = 0 ∨ k = 5 ∨ k = 7 → v = 0) (t1 : k2 ≤ 8) (t9 : k2 = 3 ∨ k2 = 4 → v2 < 64) (g13 : G 13 (ix (nI x)) = nI k) (g14 : G 14 (ix (nI x)) = nI a) (g16 : G 16 (ix (nI x)) = nI m) (g17 : G 17 (ix (nI x)) = nI v) (h10 : H 10 (ix (nI x)) = nI k) (h11 : H 11 (ix (nI x)) = nI a) (h13 : H 13 (ix (nI x)) = nI m) (h14 : H 14 (ix (nI x)) = nI v) (n0 : ¬ nI k = 0) (c13 : G 13 (ix (nI a)) = nI k2) (c14 : G 14 (ix (nI a)) = nI c) (c15 : G 15 (ix (nI a)) = nI d) (c16 : G 16 (ix (nI a)) = nI m2) (c17 : G 17 (ix (nI a)) = nI v2) (d10 : H 10 (ix (nI a)) = nI k2) (d11 : H 11 (ix (nI a)) = nI c) (d12 : H 12 (ix (nI a)) = nI d) (d13 : H 13 (ix (nI a)) = nI m2) (d14 : H 14 (ix (nI a)) = nI v2) (fr : k = 1 ∨ k = 2 → H 7 (ix (nI v)) = G 10 (ix (nI v))) (ff : k = 1 ∨ k = 2 → H 8 (ix (nI v)) = G 11 (ix (nI v))) (ff2 : k2 = 1 ∨ k2 = 2 → H 8 (ix (nI v2)) = G 11 (ix (nI v2))) (fd : k2 = 4 ∨ k2 = 5 → H 16 (ix (nI d)) = G 19 (ix (nI d))) (cc : k2 = 5 → ∀ w, w = c ∨ w = d → H 10 (ix (nI w)) = G 13 (ix (nI w)) ∧ H 13 (ix (nI w)) = G 16 (ix (nI w)) ∧ H 14 (ix (nI w)) = G 17 (ix (nI w)) ∧ (G 13 (ix (nI w)) = 7 → G 16 (ix (nI w)) = 0 ∧ G 17 (ix (nI w)) = 0)) : fX2_suits G (nI x) (nI 4) = fX6_stands H (nI x) (nI 4) := by
  unfold fX2_suits fX6_stands
  rw [if_neg (show ¬ (nI 4 : Int32) = 0 by decide), if_neg (show ¬ (nI 4 : Int32) = 1 by decide), if_neg (show ¬ (nI 4 : Int32) = 2 by decide), if_neg (show ¬ (nI 4 : Int32) = 3 by decide), if_pos (show (nI 4 : Int32) = 4 by decide), show uT (ix (nI 4)) = 1 by decide, show lT (ix (nI 4)) = 5 by decide, g13, g14, c13, h10, h11, d10, if_neg n0]
  by_cases hk : k = 1
  · subst hk
    by_cases hc : k2 = 5
    · subst hc
      rw [if_pos (show (nI 1 : Int32) = 1 from rfl), if_pos (show (nI 5 : Int32) = 5 from rfl)]
      simp [fX2_suitsFilter, show (nI 1 : Int32) = 1 from rfl, show (nI 2 : Int32) = 2 from rfl, show (nI 4 : Int32) = 4 from rfl, show (nI 5 : Int32) = 5 from rfl, g16, g17, c14, c15, c16, c17, d11, d12, d13, d14, h13, h14, isOf_eq, win01, fr (by decide), ff (by decide), fd (by decide), isIn0]
    · have nc : ¬ nI k2 = 5 := fun w => hc ((kI t1 (by decide : 5 < 2 ^ 31)).mp w)
      simp [nc]
  · have nk : ¬ nI k = 1 := fun w => hk ((kI s1 (by decide : 1 < 2 ^ 31)).mp w)
    simp [nk]

set_option maxHeartbeats 800000 in
theorem suit_5 {G H : Nat → Nat → Int32} {x k a m v k2 c d m2 v2 : Nat} (s1 : k ≤ 8) (s6 : m < 6) (s7 : ¬ (k = 2 ∨ k = 4 ∨ k = 6) → m = 0) (s10 : k = 6 → v < 6 ∧ v ≠ m) (s12 : k = 0 ∨ k = 5 ∨ k = 7 → v = 0) (t1 : k2 ≤ 8) (t9 : k2 = 3 ∨ k2 = 4 → v2 < 64) (g13 : G 13 (ix (nI x)) = nI k) (g14 : G 14 (ix (nI x)) = nI a) (g16 : G 16 (ix (nI x)) = nI m) (g17 : G 17 (ix (nI x)) = nI v) (h10 : H 10 (ix (nI x)) = nI k) (h11 : H 11 (ix (nI x)) = nI a) (h13 : H 13 (ix (nI x)) = nI m) (h14 : H 14 (ix (nI x)) = nI v) (n0 : ¬ nI k = 0) (c13 : G 13 (ix (nI a)) = nI k2) (c14 : G 14 (ix (nI a)) = nI c) (c15 : G 15 (ix (nI a)) = nI d) (c16 : G 16 (ix (nI a)) = nI m2) (c17 : G 17 (ix (nI a)) = nI v2) (d10 : H 10 (ix (nI a)) = nI k2) (d11 : H 11 (ix (nI a)) = nI c) (d12 : H 12 (ix (nI a)) = nI d) (d13 : H 13 (ix (nI a)) = nI m2) (d14 : H 14 (ix (nI a)) = nI v2) (fr : k = 1 ∨ k = 2 → H 7 (ix (nI v)) = G 10 (ix (nI v))) (ff : k = 1 ∨ k = 2 → H 8 (ix (nI v)) = G 11 (ix (nI v))) (ff2 : k2 = 1 ∨ k2 = 2 → H 8 (ix (nI v2)) = G 11 (ix (nI v2))) (fd : k2 = 4 ∨ k2 = 5 → H 16 (ix (nI d)) = G 19 (ix (nI d))) (cc : k2 = 5 → ∀ w, w = c ∨ w = d → H 10 (ix (nI w)) = G 13 (ix (nI w)) ∧ H 13 (ix (nI w)) = G 16 (ix (nI w)) ∧ H 14 (ix (nI w)) = G 17 (ix (nI w)) ∧ (G 13 (ix (nI w)) = 7 → G 16 (ix (nI w)) = 0 ∧ G 17 (ix (nI w)) = 0)) : fX2_suits G (nI x) (nI 5) = fX6_stands H (nI x) (nI 5) := by
  unfold fX2_suits fX6_stands
  rw [if_neg (show ¬ (nI 5 : Int32) = 0 by decide), if_neg (show ¬ (nI 5 : Int32) = 1 by decide), if_neg (show ¬ (nI 5 : Int32) = 2 by decide), if_neg (show ¬ (nI 5 : Int32) = 3 by decide), if_neg (show ¬ (nI 5 : Int32) = 4 by decide), if_pos (show (nI 5 : Int32) = 5 by decide), show uT (ix (nI 5)) = 1 by decide, show lT (ix (nI 5)) = 6 by decide, g13, g14, c13, h10, h11, d10, if_neg n0]
  by_cases hk : k = 1
  · subst hk
    by_cases hc : k2 = 6
    · subst hc
      rw [if_pos (show (nI 1 : Int32) = 1 from rfl), if_pos (show (nI 6 : Int32) = 6 from rfl)]
      simp [fX2_suitsFilter, show (nI 1 : Int32) = 1 from rfl, show (nI 2 : Int32) = 2 from rfl, show (nI 5 : Int32) = 5 from rfl, show (nI 6 : Int32) = 6 from rfl, g16, g17, c14, c15, c16, c17, d11, d12, d13, d14, h13, h14, isOf_eq, win01, fr (by decide), ff (by decide), isIn0]
    · have nc : ¬ nI k2 = 6 := fun w => hc ((kI t1 (by decide : 6 < 2 ^ 31)).mp w)
      simp [nc]
  · have nk : ¬ nI k = 1 := fun w => hk ((kI s1 (by decide : 1 < 2 ^ 31)).mp w)
    simp [nk]

set_option maxHeartbeats 800000 in
theorem suit_6 {G H : Nat → Nat → Int32} {x k a m v k2 c d m2 v2 : Nat} (s1 : k ≤ 8) (s6 : m < 6) (s7 : ¬ (k = 2 ∨ k = 4 ∨ k = 6) → m = 0) (s10 : k = 6 → v < 6 ∧ v ≠ m) (s12 : k = 0 ∨ k = 5 ∨ k = 7 → v = 0) (t1 : k2 ≤ 8) (t9 : k2 = 3 ∨ k2 = 4 → v2 < 64) (g13 : G 13 (ix (nI x)) = nI k) (g14 : G 14 (ix (nI x)) = nI a) (g16 : G 16 (ix (nI x)) = nI m) (g17 : G 17 (ix (nI x)) = nI v) (h10 : H 10 (ix (nI x)) = nI k) (h11 : H 11 (ix (nI x)) = nI a) (h13 : H 13 (ix (nI x)) = nI m) (h14 : H 14 (ix (nI x)) = nI v) (n0 : ¬ nI k = 0) (c13 : G 13 (ix (nI a)) = nI k2) (c14 : G 14 (ix (nI a)) = nI c) (c15 : G 15 (ix (nI a)) = nI d) (c16 : G 16 (ix (nI a)) = nI m2) (c17 : G 17 (ix (nI a)) = nI v2) (d10 : H 10 (ix (nI a)) = nI k2) (d11 : H 11 (ix (nI a)) = nI c) (d12 : H 12 (ix (nI a)) = nI d) (d13 : H 13 (ix (nI a)) = nI m2) (d14 : H 14 (ix (nI a)) = nI v2) (fr : k = 1 ∨ k = 2 → H 7 (ix (nI v)) = G 10 (ix (nI v))) (ff : k = 1 ∨ k = 2 → H 8 (ix (nI v)) = G 11 (ix (nI v))) (ff2 : k2 = 1 ∨ k2 = 2 → H 8 (ix (nI v2)) = G 11 (ix (nI v2))) (fd : k2 = 4 ∨ k2 = 5 → H 16 (ix (nI d)) = G 19 (ix (nI d))) (cc : k2 = 5 → ∀ w, w = c ∨ w = d → H 10 (ix (nI w)) = G 13 (ix (nI w)) ∧ H 13 (ix (nI w)) = G 16 (ix (nI w)) ∧ H 14 (ix (nI w)) = G 17 (ix (nI w)) ∧ (G 13 (ix (nI w)) = 7 → G 16 (ix (nI w)) = 0 ∧ G 17 (ix (nI w)) = 0)) : fX2_suits G (nI x) (nI 6) = fX6_stands H (nI x) (nI 6) := by
  unfold fX2_suits fX6_stands
  rw [if_neg (show ¬ (nI 6 : Int32) = 0 by decide), if_neg (show ¬ (nI 6 : Int32) = 1 by decide), if_neg (show ¬ (nI 6 : Int32) = 2 by decide), if_neg (show ¬ (nI 6 : Int32) = 3 by decide), if_neg (show ¬ (nI 6 : Int32) = 4 by decide), if_neg (show ¬ (nI 6 : Int32) = 5 by decide), if_pos (show (nI 6 : Int32) = 6 by decide), show uT (ix (nI 6)) = 1 by decide, show lT (ix (nI 6)) = 7 by decide, g13, g14, c13, h10, h11, d10, if_neg n0]
  by_cases hk : k = 1
  · subst hk
    by_cases hc : k2 = 7
    · subst hc
      rw [if_pos (show (nI 1 : Int32) = 1 from rfl), if_pos (show (nI 7 : Int32) = 7 from rfl)]
      simp [fX2_suitsFilter, show (nI 1 : Int32) = 1 from rfl, show (nI 2 : Int32) = 2 from rfl, show (nI 6 : Int32) = 6 from rfl, show (nI 7 : Int32) = 7 from rfl, g16, g17, c14, c15, c16, c17, d11, d12, d13, d14, h13, h14, isOf_eq, win01, fr (by decide), ff (by decide), isIn0]
    · have nc : ¬ nI k2 = 7 := fun w => hc ((kI t1 (by decide : 7 < 2 ^ 31)).mp w)
      simp [nc]
  · have nk : ¬ nI k = 1 := fun w => hk ((kI s1 (by decide : 1 < 2 ^ 31)).mp w)
    simp [nk]

set_option maxHeartbeats 800000 in
theorem suit_7 {G H : Nat → Nat → Int32} {x k a m v k2 c d m2 v2 : Nat} (s1 : k ≤ 8) (s6 : m < 6) (s7 : ¬ (k = 2 ∨ k = 4 ∨ k = 6) → m = 0) (s10 : k = 6 → v < 6 ∧ v ≠ m) (s12 : k = 0 ∨ k = 5 ∨ k = 7 → v = 0) (t1 : k2 ≤ 8) (t9 : k2 = 3 ∨ k2 = 4 → v2 < 64) (g13 : G 13 (ix (nI x)) = nI k) (g14 : G 14 (ix (nI x)) = nI a) (g16 : G 16 (ix (nI x)) = nI m) (g17 : G 17 (ix (nI x)) = nI v) (h10 : H 10 (ix (nI x)) = nI k) (h11 : H 11 (ix (nI x)) = nI a) (h13 : H 13 (ix (nI x)) = nI m) (h14 : H 14 (ix (nI x)) = nI v) (n0 : ¬ nI k = 0) (c13 : G 13 (ix (nI a)) = nI k2) (c14 : G 14 (ix (nI a)) = nI c) (c15 : G 15 (ix (nI a)) = nI d) (c16 : G 16 (ix (nI a)) = nI m2) (c17 : G 17 (ix (nI a)) = nI v2) (d10 : H 10 (ix (nI a)) = nI k2) (d11 : H 11 (ix (nI a)) = nI c) (d12 : H 12 (ix (nI a)) = nI d) (d13 : H 13 (ix (nI a)) = nI m2) (d14 : H 14 (ix (nI a)) = nI v2) (fr : k = 1 ∨ k = 2 → H 7 (ix (nI v)) = G 10 (ix (nI v))) (ff : k = 1 ∨ k = 2 → H 8 (ix (nI v)) = G 11 (ix (nI v))) (ff2 : k2 = 1 ∨ k2 = 2 → H 8 (ix (nI v2)) = G 11 (ix (nI v2))) (fd : k2 = 4 ∨ k2 = 5 → H 16 (ix (nI d)) = G 19 (ix (nI d))) (cc : k2 = 5 → ∀ w, w = c ∨ w = d → H 10 (ix (nI w)) = G 13 (ix (nI w)) ∧ H 13 (ix (nI w)) = G 16 (ix (nI w)) ∧ H 14 (ix (nI w)) = G 17 (ix (nI w)) ∧ (G 13 (ix (nI w)) = 7 → G 16 (ix (nI w)) = 0 ∧ G 17 (ix (nI w)) = 0)) : fX2_suits G (nI x) (nI 7) = fX6_stands H (nI x) (nI 7) := by
  unfold fX2_suits fX6_stands
  rw [if_neg (show ¬ (nI 7 : Int32) = 0 by decide), if_neg (show ¬ (nI 7 : Int32) = 1 by decide), if_neg (show ¬ (nI 7 : Int32) = 2 by decide), if_neg (show ¬ (nI 7 : Int32) = 3 by decide), if_neg (show ¬ (nI 7 : Int32) = 4 by decide), if_neg (show ¬ (nI 7 : Int32) = 5 by decide), if_neg (show ¬ (nI 7 : Int32) = 6 by decide), if_pos (show (nI 7 : Int32) = 7 by decide), show uT (ix (nI 7)) = 1 by decide, show lT (ix (nI 7)) = 1 by decide, g13, g14, c13, h10, h11, d10, if_neg n0]
  by_cases hk : k = 1
  · subst hk
    by_cases hc : k2 = 1
    · subst hc
      rw [if_pos (show (nI 1 : Int32) = 1 from rfl), if_pos (show (nI 1 : Int32) = 1 from rfl)]
      simp [fX2_suitsFilter, show (nI 1 : Int32) = 1 from rfl, show (nI 2 : Int32) = 2 from rfl, show (nI 7 : Int32) = 7 from rfl, g16, g17, c14, c15, c16, c17, d11, d12, d13, d14, h13, h14, isOf_eq, win01, fr (by decide), ff (by decide), ff2 (by decide), isIn0]
      by_cases w : G 11 (ix (nI v)) = 0 <;> simp [w]
    · have nc : ¬ nI k2 = 1 := fun w => hc ((kI t1 (by decide : 1 < 2 ^ 31)).mp w)
      simp [nc]
  · have nk : ¬ nI k = 1 := fun w => hk ((kI s1 (by decide : 1 < 2 ^ 31)).mp w)
    simp [nk]

set_option maxHeartbeats 800000 in
theorem suit_8 {G H : Nat → Nat → Int32} {x k a m v k2 c d m2 v2 : Nat} (s1 : k ≤ 8) (s6 : m < 6) (s7 : ¬ (k = 2 ∨ k = 4 ∨ k = 6) → m = 0) (s10 : k = 6 → v < 6 ∧ v ≠ m) (s12 : k = 0 ∨ k = 5 ∨ k = 7 → v = 0) (t1 : k2 ≤ 8) (t9 : k2 = 3 ∨ k2 = 4 → v2 < 64) (g13 : G 13 (ix (nI x)) = nI k) (g14 : G 14 (ix (nI x)) = nI a) (g16 : G 16 (ix (nI x)) = nI m) (g17 : G 17 (ix (nI x)) = nI v) (h10 : H 10 (ix (nI x)) = nI k) (h11 : H 11 (ix (nI x)) = nI a) (h13 : H 13 (ix (nI x)) = nI m) (h14 : H 14 (ix (nI x)) = nI v) (n0 : ¬ nI k = 0) (c13 : G 13 (ix (nI a)) = nI k2) (c14 : G 14 (ix (nI a)) = nI c) (c15 : G 15 (ix (nI a)) = nI d) (c16 : G 16 (ix (nI a)) = nI m2) (c17 : G 17 (ix (nI a)) = nI v2) (d10 : H 10 (ix (nI a)) = nI k2) (d11 : H 11 (ix (nI a)) = nI c) (d12 : H 12 (ix (nI a)) = nI d) (d13 : H 13 (ix (nI a)) = nI m2) (d14 : H 14 (ix (nI a)) = nI v2) (fr : k = 1 ∨ k = 2 → H 7 (ix (nI v)) = G 10 (ix (nI v))) (ff : k = 1 ∨ k = 2 → H 8 (ix (nI v)) = G 11 (ix (nI v))) (ff2 : k2 = 1 ∨ k2 = 2 → H 8 (ix (nI v2)) = G 11 (ix (nI v2))) (fd : k2 = 4 ∨ k2 = 5 → H 16 (ix (nI d)) = G 19 (ix (nI d))) (cc : k2 = 5 → ∀ w, w = c ∨ w = d → H 10 (ix (nI w)) = G 13 (ix (nI w)) ∧ H 13 (ix (nI w)) = G 16 (ix (nI w)) ∧ H 14 (ix (nI w)) = G 17 (ix (nI w)) ∧ (G 13 (ix (nI w)) = 7 → G 16 (ix (nI w)) = 0 ∧ G 17 (ix (nI w)) = 0)) : fX2_suits G (nI x) (nI 8) = fX6_stands H (nI x) (nI 8) := by
  unfold fX2_suits fX6_stands
  rw [if_neg (show ¬ (nI 8 : Int32) = 0 by decide), if_neg (show ¬ (nI 8 : Int32) = 1 by decide), if_neg (show ¬ (nI 8 : Int32) = 2 by decide), if_neg (show ¬ (nI 8 : Int32) = 3 by decide), if_neg (show ¬ (nI 8 : Int32) = 4 by decide), if_neg (show ¬ (nI 8 : Int32) = 5 by decide), if_neg (show ¬ (nI 8 : Int32) = 6 by decide), if_neg (show ¬ (nI 8 : Int32) = 7 by decide), if_pos (show (nI 8 : Int32) = 8 by decide), show uT (ix (nI 8)) = 2 by decide, show lT (ix (nI 8)) = 2 by decide, g13, g14, c13, h10, h11, d10, if_neg n0]
  by_cases hk : k = 2
  · subst hk
    by_cases hc : k2 = 2
    · subst hc
      rw [if_pos (show (nI 2 : Int32) = 2 from rfl), if_pos (show (nI 2 : Int32) = 2 from rfl)]
      simp [fX2_suitsOther, show (nI 1 : Int32) = 1 from rfl, show (nI 2 : Int32) = 2 from rfl, show (nI 8 : Int32) = 8 from rfl, g16, g17, c14, c15, c16, c17, d11, d12, d13, d14, h13, h14, isOf_eq, win01, fr (by decide), ff (by decide), ff2 (by decide), isIn0]
      by_cases w : nI m = nI m2
      · simp [w]
      · simp [w, show ¬ nI m2 = nI m from fun q => w q.symm]
    · have nc : ¬ nI k2 = 2 := fun w => hc ((kI t1 (by decide : 2 < 2 ^ 31)).mp w)
      simp [nc]
  · have nk : ¬ nI k = 2 := fun w => hk ((kI s1 (by decide : 2 < 2 ^ 31)).mp w)
    simp [nk]

set_option maxHeartbeats 800000 in
theorem suit_9 {G H : Nat → Nat → Int32} {x k a m v k2 c d m2 v2 : Nat} (s1 : k ≤ 8) (s6 : m < 6) (s7 : ¬ (k = 2 ∨ k = 4 ∨ k = 6) → m = 0) (s10 : k = 6 → v < 6 ∧ v ≠ m) (s12 : k = 0 ∨ k = 5 ∨ k = 7 → v = 0) (t1 : k2 ≤ 8) (t9 : k2 = 3 ∨ k2 = 4 → v2 < 64) (g13 : G 13 (ix (nI x)) = nI k) (g14 : G 14 (ix (nI x)) = nI a) (g16 : G 16 (ix (nI x)) = nI m) (g17 : G 17 (ix (nI x)) = nI v) (h10 : H 10 (ix (nI x)) = nI k) (h11 : H 11 (ix (nI x)) = nI a) (h13 : H 13 (ix (nI x)) = nI m) (h14 : H 14 (ix (nI x)) = nI v) (n0 : ¬ nI k = 0) (c13 : G 13 (ix (nI a)) = nI k2) (c14 : G 14 (ix (nI a)) = nI c) (c15 : G 15 (ix (nI a)) = nI d) (c16 : G 16 (ix (nI a)) = nI m2) (c17 : G 17 (ix (nI a)) = nI v2) (d10 : H 10 (ix (nI a)) = nI k2) (d11 : H 11 (ix (nI a)) = nI c) (d12 : H 12 (ix (nI a)) = nI d) (d13 : H 13 (ix (nI a)) = nI m2) (d14 : H 14 (ix (nI a)) = nI v2) (fr : k = 1 ∨ k = 2 → H 7 (ix (nI v)) = G 10 (ix (nI v))) (ff : k = 1 ∨ k = 2 → H 8 (ix (nI v)) = G 11 (ix (nI v))) (ff2 : k2 = 1 ∨ k2 = 2 → H 8 (ix (nI v2)) = G 11 (ix (nI v2))) (fd : k2 = 4 ∨ k2 = 5 → H 16 (ix (nI d)) = G 19 (ix (nI d))) (cc : k2 = 5 → ∀ w, w = c ∨ w = d → H 10 (ix (nI w)) = G 13 (ix (nI w)) ∧ H 13 (ix (nI w)) = G 16 (ix (nI w)) ∧ H 14 (ix (nI w)) = G 17 (ix (nI w)) ∧ (G 13 (ix (nI w)) = 7 → G 16 (ix (nI w)) = 0 ∧ G 17 (ix (nI w)) = 0)) : fX2_suits G (nI x) (nI 9) = fX6_stands H (nI x) (nI 9) := by
  unfold fX2_suits fX6_stands
  rw [if_neg (show ¬ (nI 9 : Int32) = 0 by decide), if_neg (show ¬ (nI 9 : Int32) = 1 by decide), if_neg (show ¬ (nI 9 : Int32) = 2 by decide), if_neg (show ¬ (nI 9 : Int32) = 3 by decide), if_neg (show ¬ (nI 9 : Int32) = 4 by decide), if_neg (show ¬ (nI 9 : Int32) = 5 by decide), if_neg (show ¬ (nI 9 : Int32) = 6 by decide), if_neg (show ¬ (nI 9 : Int32) = 7 by decide), if_neg (show ¬ (nI 9 : Int32) = 8 by decide), if_pos (show (nI 9 : Int32) = 9 by decide), show uT (ix (nI 9)) = 3 by decide, show lT (ix (nI 9)) = 3 by decide, g13, g14, c13, h10, h11, d10, if_neg n0]
  by_cases hk : k = 3
  · subst hk
    by_cases hc : k2 = 3
    · subst hc
      rw [if_pos (show (nI 3 : Int32) = 3 from rfl), if_pos (show (nI 3 : Int32) = 3 from rfl)]
      simp [fX2_suitsOther, show (nI 1 : Int32) = 1 from rfl, show (nI 2 : Int32) = 2 from rfl, show (nI 3 : Int32) = 3 from rfl, show (nI 9 : Int32) = 9 from rfl, g16, g17, c14, c15, c16, c17, d11, d12, d13, d14, h13, h14, isOf_eq, win01, isIn0]
    · have nc : ¬ nI k2 = 3 := fun w => hc ((kI t1 (by decide : 3 < 2 ^ 31)).mp w)
      simp [nc]
  · have nk : ¬ nI k = 3 := fun w => hk ((kI s1 (by decide : 3 < 2 ^ 31)).mp w)
    simp [nk]

set_option maxHeartbeats 800000 in
theorem suit_10 {G H : Nat → Nat → Int32} {x k a m v k2 c d m2 v2 : Nat} (s1 : k ≤ 8) (s6 : m < 6) (s7 : ¬ (k = 2 ∨ k = 4 ∨ k = 6) → m = 0) (s10 : k = 6 → v < 6 ∧ v ≠ m) (s12 : k = 0 ∨ k = 5 ∨ k = 7 → v = 0) (t1 : k2 ≤ 8) (t9 : k2 = 3 ∨ k2 = 4 → v2 < 64) (g13 : G 13 (ix (nI x)) = nI k) (g14 : G 14 (ix (nI x)) = nI a) (g16 : G 16 (ix (nI x)) = nI m) (g17 : G 17 (ix (nI x)) = nI v) (h10 : H 10 (ix (nI x)) = nI k) (h11 : H 11 (ix (nI x)) = nI a) (h13 : H 13 (ix (nI x)) = nI m) (h14 : H 14 (ix (nI x)) = nI v) (n0 : ¬ nI k = 0) (c13 : G 13 (ix (nI a)) = nI k2) (c14 : G 14 (ix (nI a)) = nI c) (c15 : G 15 (ix (nI a)) = nI d) (c16 : G 16 (ix (nI a)) = nI m2) (c17 : G 17 (ix (nI a)) = nI v2) (d10 : H 10 (ix (nI a)) = nI k2) (d11 : H 11 (ix (nI a)) = nI c) (d12 : H 12 (ix (nI a)) = nI d) (d13 : H 13 (ix (nI a)) = nI m2) (d14 : H 14 (ix (nI a)) = nI v2) (fr : k = 1 ∨ k = 2 → H 7 (ix (nI v)) = G 10 (ix (nI v))) (ff : k = 1 ∨ k = 2 → H 8 (ix (nI v)) = G 11 (ix (nI v))) (ff2 : k2 = 1 ∨ k2 = 2 → H 8 (ix (nI v2)) = G 11 (ix (nI v2))) (fd : k2 = 4 ∨ k2 = 5 → H 16 (ix (nI d)) = G 19 (ix (nI d))) (cc : k2 = 5 → ∀ w, w = c ∨ w = d → H 10 (ix (nI w)) = G 13 (ix (nI w)) ∧ H 13 (ix (nI w)) = G 16 (ix (nI w)) ∧ H 14 (ix (nI w)) = G 17 (ix (nI w)) ∧ (G 13 (ix (nI w)) = 7 → G 16 (ix (nI w)) = 0 ∧ G 17 (ix (nI w)) = 0)) : fX2_suits G (nI x) (nI 10) = fX6_stands H (nI x) (nI 10) := by
  unfold fX2_suits fX6_stands
  rw [if_neg (show ¬ (nI 10 : Int32) = 0 by decide), if_neg (show ¬ (nI 10 : Int32) = 1 by decide), if_neg (show ¬ (nI 10 : Int32) = 2 by decide), if_neg (show ¬ (nI 10 : Int32) = 3 by decide), if_neg (show ¬ (nI 10 : Int32) = 4 by decide), if_neg (show ¬ (nI 10 : Int32) = 5 by decide), if_neg (show ¬ (nI 10 : Int32) = 6 by decide), if_neg (show ¬ (nI 10 : Int32) = 7 by decide), if_neg (show ¬ (nI 10 : Int32) = 8 by decide), if_neg (show ¬ (nI 10 : Int32) = 9 by decide), if_pos (show (nI 10 : Int32) = 10 by decide), show uT (ix (nI 10)) = 3 by decide, show lT (ix (nI 10)) = 2 by decide, g13, g14, c13, h10, h11, d10, if_neg n0]
  by_cases hk : k = 3
  · subst hk
    by_cases hc : k2 = 2
    · subst hc
      rw [if_pos (show (nI 3 : Int32) = 3 from rfl), if_pos (show (nI 2 : Int32) = 2 from rfl)]
      simp [fX2_suitsOther, show (nI 1 : Int32) = 1 from rfl, show (nI 2 : Int32) = 2 from rfl, show (nI 3 : Int32) = 3 from rfl, show (nI 10 : Int32) = 10 from rfl, g16, g17, c14, c15, c16, c17, d11, d12, d13, d14, h13, h14, isOf_eq, win01, ff2 (by decide), isIn0]
    · have nc : ¬ nI k2 = 2 := fun w => hc ((kI t1 (by decide : 2 < 2 ^ 31)).mp w)
      simp [nc]
  · have nk : ¬ nI k = 3 := fun w => hk ((kI s1 (by decide : 3 < 2 ^ 31)).mp w)
    simp [nk]

set_option maxHeartbeats 800000 in
theorem suit_11 {G H : Nat → Nat → Int32} {x k a m v k2 c d m2 v2 : Nat} (s1 : k ≤ 8) (s6 : m < 6) (s7 : ¬ (k = 2 ∨ k = 4 ∨ k = 6) → m = 0) (s10 : k = 6 → v < 6 ∧ v ≠ m) (s12 : k = 0 ∨ k = 5 ∨ k = 7 → v = 0) (t1 : k2 ≤ 8) (t9 : k2 = 3 ∨ k2 = 4 → v2 < 64) (g13 : G 13 (ix (nI x)) = nI k) (g14 : G 14 (ix (nI x)) = nI a) (g16 : G 16 (ix (nI x)) = nI m) (g17 : G 17 (ix (nI x)) = nI v) (h10 : H 10 (ix (nI x)) = nI k) (h11 : H 11 (ix (nI x)) = nI a) (h13 : H 13 (ix (nI x)) = nI m) (h14 : H 14 (ix (nI x)) = nI v) (n0 : ¬ nI k = 0) (c13 : G 13 (ix (nI a)) = nI k2) (c14 : G 14 (ix (nI a)) = nI c) (c15 : G 15 (ix (nI a)) = nI d) (c16 : G 16 (ix (nI a)) = nI m2) (c17 : G 17 (ix (nI a)) = nI v2) (d10 : H 10 (ix (nI a)) = nI k2) (d11 : H 11 (ix (nI a)) = nI c) (d12 : H 12 (ix (nI a)) = nI d) (d13 : H 13 (ix (nI a)) = nI m2) (d14 : H 14 (ix (nI a)) = nI v2) (fr : k = 1 ∨ k = 2 → H 7 (ix (nI v)) = G 10 (ix (nI v))) (ff : k = 1 ∨ k = 2 → H 8 (ix (nI v)) = G 11 (ix (nI v))) (ff2 : k2 = 1 ∨ k2 = 2 → H 8 (ix (nI v2)) = G 11 (ix (nI v2))) (fd : k2 = 4 ∨ k2 = 5 → H 16 (ix (nI d)) = G 19 (ix (nI d))) (cc : k2 = 5 → ∀ w, w = c ∨ w = d → H 10 (ix (nI w)) = G 13 (ix (nI w)) ∧ H 13 (ix (nI w)) = G 16 (ix (nI w)) ∧ H 14 (ix (nI w)) = G 17 (ix (nI w)) ∧ (G 13 (ix (nI w)) = 7 → G 16 (ix (nI w)) = 0 ∧ G 17 (ix (nI w)) = 0)) : fX2_suits G (nI x) (nI 11) = fX6_stands H (nI x) (nI 11) := by
  unfold fX2_suits fX6_stands
  rw [if_neg (show ¬ (nI 11 : Int32) = 0 by decide), if_neg (show ¬ (nI 11 : Int32) = 1 by decide), if_neg (show ¬ (nI 11 : Int32) = 2 by decide), if_neg (show ¬ (nI 11 : Int32) = 3 by decide), if_neg (show ¬ (nI 11 : Int32) = 4 by decide), if_neg (show ¬ (nI 11 : Int32) = 5 by decide), if_neg (show ¬ (nI 11 : Int32) = 6 by decide), if_neg (show ¬ (nI 11 : Int32) = 7 by decide), if_neg (show ¬ (nI 11 : Int32) = 8 by decide), if_neg (show ¬ (nI 11 : Int32) = 9 by decide), if_neg (show ¬ (nI 11 : Int32) = 10 by decide), if_pos (show (nI 11 : Int32) = 11 by decide), show uT (ix (nI 11)) = 3 by decide, show lT (ix (nI 11)) = 5 by decide, g13, g14, c13, h10, h11, d10, if_neg n0]
  by_cases hk : k = 3
  · subst hk
    by_cases hc : k2 = 5
    · subst hc
      rw [if_pos (show (nI 3 : Int32) = 3 from rfl), if_pos (show (nI 5 : Int32) = 5 from rfl)]
      simp [fX2_suitsOther, show (nI 1 : Int32) = 1 from rfl, show (nI 2 : Int32) = 2 from rfl, show (nI 3 : Int32) = 3 from rfl, show (nI 5 : Int32) = 5 from rfl, show (nI 11 : Int32) = 11 from rfl, g16, g17, c14, c15, c16, c17, d11, d12, d13, d14, h13, h14, isOf_eq, win01, fd (by decide), isIn0]
    · have nc : ¬ nI k2 = 5 := fun w => hc ((kI t1 (by decide : 5 < 2 ^ 31)).mp w)
      simp [nc]
  · have nk : ¬ nI k = 3 := fun w => hk ((kI s1 (by decide : 3 < 2 ^ 31)).mp w)
    simp [nk]

set_option maxHeartbeats 800000 in
theorem suit_12 {G H : Nat → Nat → Int32} {x k a m v k2 c d m2 v2 : Nat} (s1 : k ≤ 8) (s6 : m < 6) (s7 : ¬ (k = 2 ∨ k = 4 ∨ k = 6) → m = 0) (s10 : k = 6 → v < 6 ∧ v ≠ m) (s12 : k = 0 ∨ k = 5 ∨ k = 7 → v = 0) (t1 : k2 ≤ 8) (t9 : k2 = 3 ∨ k2 = 4 → v2 < 64) (g13 : G 13 (ix (nI x)) = nI k) (g14 : G 14 (ix (nI x)) = nI a) (g16 : G 16 (ix (nI x)) = nI m) (g17 : G 17 (ix (nI x)) = nI v) (h10 : H 10 (ix (nI x)) = nI k) (h11 : H 11 (ix (nI x)) = nI a) (h13 : H 13 (ix (nI x)) = nI m) (h14 : H 14 (ix (nI x)) = nI v) (n0 : ¬ nI k = 0) (c13 : G 13 (ix (nI a)) = nI k2) (c14 : G 14 (ix (nI a)) = nI c) (c15 : G 15 (ix (nI a)) = nI d) (c16 : G 16 (ix (nI a)) = nI m2) (c17 : G 17 (ix (nI a)) = nI v2) (d10 : H 10 (ix (nI a)) = nI k2) (d11 : H 11 (ix (nI a)) = nI c) (d12 : H 12 (ix (nI a)) = nI d) (d13 : H 13 (ix (nI a)) = nI m2) (d14 : H 14 (ix (nI a)) = nI v2) (fr : k = 1 ∨ k = 2 → H 7 (ix (nI v)) = G 10 (ix (nI v))) (ff : k = 1 ∨ k = 2 → H 8 (ix (nI v)) = G 11 (ix (nI v))) (ff2 : k2 = 1 ∨ k2 = 2 → H 8 (ix (nI v2)) = G 11 (ix (nI v2))) (fd : k2 = 4 ∨ k2 = 5 → H 16 (ix (nI d)) = G 19 (ix (nI d))) (cc : k2 = 5 → ∀ w, w = c ∨ w = d → H 10 (ix (nI w)) = G 13 (ix (nI w)) ∧ H 13 (ix (nI w)) = G 16 (ix (nI w)) ∧ H 14 (ix (nI w)) = G 17 (ix (nI w)) ∧ (G 13 (ix (nI w)) = 7 → G 16 (ix (nI w)) = 0 ∧ G 17 (ix (nI w)) = 0)) : fX2_suits G (nI x) (nI 12) = fX6_stands H (nI x) (nI 12) := by
  unfold fX2_suits fX6_stands
  rw [if_neg (show ¬ (nI 12 : Int32) = 0 by decide), if_neg (show ¬ (nI 12 : Int32) = 1 by decide), if_neg (show ¬ (nI 12 : Int32) = 2 by decide), if_neg (show ¬ (nI 12 : Int32) = 3 by decide), if_neg (show ¬ (nI 12 : Int32) = 4 by decide), if_neg (show ¬ (nI 12 : Int32) = 5 by decide), if_neg (show ¬ (nI 12 : Int32) = 6 by decide), if_neg (show ¬ (nI 12 : Int32) = 7 by decide), if_neg (show ¬ (nI 12 : Int32) = 8 by decide), if_neg (show ¬ (nI 12 : Int32) = 9 by decide), if_neg (show ¬ (nI 12 : Int32) = 10 by decide), if_neg (show ¬ (nI 12 : Int32) = 11 by decide), if_pos (show (nI 12 : Int32) = 12 by decide), show uT (ix (nI 12)) = 6 by decide, show lT (ix (nI 12)) = 5 by decide, g13, g14, c13, h10, h11, d10, if_neg n0]
  by_cases hk : k = 6
  · subst hk
    by_cases hc : k2 = 5
    · subst hc
      rw [if_pos (show (nI 6 : Int32) = 6 from rfl), if_pos (show (nI 5 : Int32) = 5 from rfl)]
      obtain ⟨z1, z2, z3, -⟩ := cc rfl c (Or.inl rfl)
      obtain ⟨y1, y2, y3, -⟩ := cc rfl d (Or.inr rfl)
      rw [if_neg (show ¬ (6 : Int32) = 1 by decide), show (fX2_suitsOther G (nI 12) (nI x) (nI a)) = (if fX2_isLikeJob G (nI x) (G 14 (ix (nI a))) = 0 then 1 else (if fX2_isLikeJob G (nI x) (G 15 (ix (nI a))) = 0 then 1 else 0)) by unfold fX2_suitsOther; rw [if_neg (show ¬ (nI 12 : Int32) = 8 by decide), if_neg (show ¬ (nI 12 : Int32) = 9 by decide), if_neg (show ¬ (nI 12 : Int32) = 10 by decide), if_neg (show ¬ (nI 12 : Int32) = 11 by decide), if_pos (show (nI 12 : Int32) = 12 by decide)]]
      rw [c14, c15, d11, d12, h13, h14, likeF g13 g16 g17 z1 z2 z3, likeF g13 g16 g17 y1 y2 y3, if_pos (show (nI 6 : Int32) = 6 from rfl), if_pos (show (nI 5 : Int32) = 5 from rfl)]
    · have nc : ¬ nI k2 = 5 := fun w => hc ((kI t1 (by decide : 5 < 2 ^ 31)).mp w)
      simp [nc]
  · have nk : ¬ nI k = 6 := fun w => hk ((kI s1 (by decide : 6 < 2 ^ 31)).mp w)
    simp [nk]

set_option maxHeartbeats 800000 in
theorem suit_13 {G H : Nat → Nat → Int32} {x k a m v k2 c d m2 v2 : Nat} (s1 : k ≤ 8) (s6 : m < 6) (s7 : ¬ (k = 2 ∨ k = 4 ∨ k = 6) → m = 0) (s10 : k = 6 → v < 6 ∧ v ≠ m) (s12 : k = 0 ∨ k = 5 ∨ k = 7 → v = 0) (t1 : k2 ≤ 8) (t9 : k2 = 3 ∨ k2 = 4 → v2 < 64) (g13 : G 13 (ix (nI x)) = nI k) (g14 : G 14 (ix (nI x)) = nI a) (g16 : G 16 (ix (nI x)) = nI m) (g17 : G 17 (ix (nI x)) = nI v) (h10 : H 10 (ix (nI x)) = nI k) (h11 : H 11 (ix (nI x)) = nI a) (h13 : H 13 (ix (nI x)) = nI m) (h14 : H 14 (ix (nI x)) = nI v) (n0 : ¬ nI k = 0) (c13 : G 13 (ix (nI a)) = nI k2) (c14 : G 14 (ix (nI a)) = nI c) (c15 : G 15 (ix (nI a)) = nI d) (c16 : G 16 (ix (nI a)) = nI m2) (c17 : G 17 (ix (nI a)) = nI v2) (d10 : H 10 (ix (nI a)) = nI k2) (d11 : H 11 (ix (nI a)) = nI c) (d12 : H 12 (ix (nI a)) = nI d) (d13 : H 13 (ix (nI a)) = nI m2) (d14 : H 14 (ix (nI a)) = nI v2) (fr : k = 1 ∨ k = 2 → H 7 (ix (nI v)) = G 10 (ix (nI v))) (ff : k = 1 ∨ k = 2 → H 8 (ix (nI v)) = G 11 (ix (nI v))) (ff2 : k2 = 1 ∨ k2 = 2 → H 8 (ix (nI v2)) = G 11 (ix (nI v2))) (fd : k2 = 4 ∨ k2 = 5 → H 16 (ix (nI d)) = G 19 (ix (nI d))) (cc : k2 = 5 → ∀ w, w = c ∨ w = d → H 10 (ix (nI w)) = G 13 (ix (nI w)) ∧ H 13 (ix (nI w)) = G 16 (ix (nI w)) ∧ H 14 (ix (nI w)) = G 17 (ix (nI w)) ∧ (G 13 (ix (nI w)) = 7 → G 16 (ix (nI w)) = 0 ∧ G 17 (ix (nI w)) = 0)) : fX2_suits G (nI x) (nI 13) = fX6_stands H (nI x) (nI 13) := by
  unfold fX2_suits fX6_stands
  rw [if_neg (show ¬ (nI 13 : Int32) = 0 by decide), if_neg (show ¬ (nI 13 : Int32) = 1 by decide), if_neg (show ¬ (nI 13 : Int32) = 2 by decide), if_neg (show ¬ (nI 13 : Int32) = 3 by decide), if_neg (show ¬ (nI 13 : Int32) = 4 by decide), if_neg (show ¬ (nI 13 : Int32) = 5 by decide), if_neg (show ¬ (nI 13 : Int32) = 6 by decide), if_neg (show ¬ (nI 13 : Int32) = 7 by decide), if_neg (show ¬ (nI 13 : Int32) = 8 by decide), if_neg (show ¬ (nI 13 : Int32) = 9 by decide), if_neg (show ¬ (nI 13 : Int32) = 10 by decide), if_neg (show ¬ (nI 13 : Int32) = 11 by decide), if_neg (show ¬ (nI 13 : Int32) = 12 by decide), if_pos (show (nI 13 : Int32) = 13 by decide), show uT (ix (nI 13)) = 6 by decide, show lT (ix (nI 13)) = 3 by decide, g13, g14, c13, h10, h11, d10, if_neg n0]
  by_cases hk : k = 6
  · subst hk
    by_cases hc : k2 = 3
    · subst hc
      rw [if_pos (show (nI 6 : Int32) = 6 from rfl), if_pos (show (nI 3 : Int32) = 3 from rfl)]
      rw [show (fX2_suitsOther G (nI 13) (nI x) (nI a)) = (if fX5_isIn (G 16 (ix (nI x))) (G 17 (ix (nI a))) = 0 then 0 else if fX5_isIn (G 17 (ix (nI x))) (G 17 (ix (nI a))) = 0 then 0 else 1) from rfl, if_neg (show ¬ (6 : Int32) = 1 by decide), g16, g17, c17, h13, h14, d14, two_bits m s6 v (s10 rfl).1 v2 (t9 (Or.inl rfl))]
      by_cases w : fX5_isIn (nI m) (nI v2) = 0
      · rw [if_pos w]; rfl
      · rw [if_neg w]
        by_cases w2 : fX5_isIn (nI v) (nI v2) = 0
        · rw [if_pos w2]; rfl
        · rw [if_neg w2]; rfl
    · have nc : ¬ nI k2 = 3 := fun w => hc ((kI t1 (by decide : 3 < 2 ^ 31)).mp w)
      simp [nc]
  · have nk : ¬ nI k = 6 := fun w => hk ((kI s1 (by decide : 6 < 2 ^ 31)).mp w)
    simp [nk]

set_option maxHeartbeats 800000 in
theorem suit_14 {G H : Nat → Nat → Int32} {x k a m v k2 c d m2 v2 : Nat} (s1 : k ≤ 8) (s6 : m < 6) (s7 : ¬ (k = 2 ∨ k = 4 ∨ k = 6) → m = 0) (s10 : k = 6 → v < 6 ∧ v ≠ m) (s12 : k = 0 ∨ k = 5 ∨ k = 7 → v = 0) (t1 : k2 ≤ 8) (t9 : k2 = 3 ∨ k2 = 4 → v2 < 64) (g13 : G 13 (ix (nI x)) = nI k) (g14 : G 14 (ix (nI x)) = nI a) (g16 : G 16 (ix (nI x)) = nI m) (g17 : G 17 (ix (nI x)) = nI v) (h10 : H 10 (ix (nI x)) = nI k) (h11 : H 11 (ix (nI x)) = nI a) (h13 : H 13 (ix (nI x)) = nI m) (h14 : H 14 (ix (nI x)) = nI v) (n0 : ¬ nI k = 0) (c13 : G 13 (ix (nI a)) = nI k2) (c14 : G 14 (ix (nI a)) = nI c) (c15 : G 15 (ix (nI a)) = nI d) (c16 : G 16 (ix (nI a)) = nI m2) (c17 : G 17 (ix (nI a)) = nI v2) (d10 : H 10 (ix (nI a)) = nI k2) (d11 : H 11 (ix (nI a)) = nI c) (d12 : H 12 (ix (nI a)) = nI d) (d13 : H 13 (ix (nI a)) = nI m2) (d14 : H 14 (ix (nI a)) = nI v2) (fr : k = 1 ∨ k = 2 → H 7 (ix (nI v)) = G 10 (ix (nI v))) (ff : k = 1 ∨ k = 2 → H 8 (ix (nI v)) = G 11 (ix (nI v))) (ff2 : k2 = 1 ∨ k2 = 2 → H 8 (ix (nI v2)) = G 11 (ix (nI v2))) (fd : k2 = 4 ∨ k2 = 5 → H 16 (ix (nI d)) = G 19 (ix (nI d))) (cc : k2 = 5 → ∀ w, w = c ∨ w = d → H 10 (ix (nI w)) = G 13 (ix (nI w)) ∧ H 13 (ix (nI w)) = G 16 (ix (nI w)) ∧ H 14 (ix (nI w)) = G 17 (ix (nI w)) ∧ (G 13 (ix (nI w)) = 7 → G 16 (ix (nI w)) = 0 ∧ G 17 (ix (nI w)) = 0)) : fX2_suits G (nI x) (nI 14) = fX6_stands H (nI x) (nI 14) := by
  unfold fX2_suits fX6_stands
  rw [if_neg (show ¬ (nI 14 : Int32) = 0 by decide), if_neg (show ¬ (nI 14 : Int32) = 1 by decide), if_neg (show ¬ (nI 14 : Int32) = 2 by decide), if_neg (show ¬ (nI 14 : Int32) = 3 by decide), if_neg (show ¬ (nI 14 : Int32) = 4 by decide), if_neg (show ¬ (nI 14 : Int32) = 5 by decide), if_neg (show ¬ (nI 14 : Int32) = 6 by decide), if_neg (show ¬ (nI 14 : Int32) = 7 by decide), if_neg (show ¬ (nI 14 : Int32) = 8 by decide), if_neg (show ¬ (nI 14 : Int32) = 9 by decide), if_neg (show ¬ (nI 14 : Int32) = 10 by decide), if_neg (show ¬ (nI 14 : Int32) = 11 by decide), if_neg (show ¬ (nI 14 : Int32) = 12 by decide), if_neg (show ¬ (nI 14 : Int32) = 13 by decide), if_pos (show (nI 14 : Int32) = 14 by decide), show uT (ix (nI 14)) = 7 by decide, show lT (ix (nI 14)) = 7 by decide, g13, g14, c13, h10, h11, d10, if_neg n0]
  by_cases hk : k = 7
  · subst hk
    by_cases hc : k2 = 7
    · subst hc
      rw [if_pos (show (nI 7 : Int32) = 7 from rfl), if_pos (show (nI 7 : Int32) = 7 from rfl)]
      simp [fX2_suitsOther, show (nI 1 : Int32) = 1 from rfl, show (nI 2 : Int32) = 2 from rfl, show (nI 7 : Int32) = 7 from rfl, show (nI 14 : Int32) = 14 from rfl, g16, g17, c14, c15, c16, c17, d11, d12, d13, d14, h13, h14, isOf_eq, win01, isIn0]
    · have nc : ¬ nI k2 = 7 := fun w => hc ((kI t1 (by decide : 7 < 2 ^ 31)).mp w)
      simp [nc]
  · have nk : ¬ nI k = 7 := fun w => hk ((kI s1 (by decide : 7 < 2 ^ 31)).mp w)
    simp [nk]

set_option maxHeartbeats 800000 in
theorem suit_15 {G H : Nat → Nat → Int32} {x k a m v k2 c d m2 v2 : Nat} (s1 : k ≤ 8) (s6 : m < 6) (s7 : ¬ (k = 2 ∨ k = 4 ∨ k = 6) → m = 0) (s10 : k = 6 → v < 6 ∧ v ≠ m) (s12 : k = 0 ∨ k = 5 ∨ k = 7 → v = 0) (t1 : k2 ≤ 8) (t9 : k2 = 3 ∨ k2 = 4 → v2 < 64) (g13 : G 13 (ix (nI x)) = nI k) (g14 : G 14 (ix (nI x)) = nI a) (g16 : G 16 (ix (nI x)) = nI m) (g17 : G 17 (ix (nI x)) = nI v) (h10 : H 10 (ix (nI x)) = nI k) (h11 : H 11 (ix (nI x)) = nI a) (h13 : H 13 (ix (nI x)) = nI m) (h14 : H 14 (ix (nI x)) = nI v) (n0 : ¬ nI k = 0) (c13 : G 13 (ix (nI a)) = nI k2) (c14 : G 14 (ix (nI a)) = nI c) (c15 : G 15 (ix (nI a)) = nI d) (c16 : G 16 (ix (nI a)) = nI m2) (c17 : G 17 (ix (nI a)) = nI v2) (d10 : H 10 (ix (nI a)) = nI k2) (d11 : H 11 (ix (nI a)) = nI c) (d12 : H 12 (ix (nI a)) = nI d) (d13 : H 13 (ix (nI a)) = nI m2) (d14 : H 14 (ix (nI a)) = nI v2) (fr : k = 1 ∨ k = 2 → H 7 (ix (nI v)) = G 10 (ix (nI v))) (ff : k = 1 ∨ k = 2 → H 8 (ix (nI v)) = G 11 (ix (nI v))) (ff2 : k2 = 1 ∨ k2 = 2 → H 8 (ix (nI v2)) = G 11 (ix (nI v2))) (fd : k2 = 4 ∨ k2 = 5 → H 16 (ix (nI d)) = G 19 (ix (nI d))) (cc : k2 = 5 → ∀ w, w = c ∨ w = d → H 10 (ix (nI w)) = G 13 (ix (nI w)) ∧ H 13 (ix (nI w)) = G 16 (ix (nI w)) ∧ H 14 (ix (nI w)) = G 17 (ix (nI w)) ∧ (G 13 (ix (nI w)) = 7 → G 16 (ix (nI w)) = 0 ∧ G 17 (ix (nI w)) = 0)) : fX2_suits G (nI x) (nI 15) = fX6_stands H (nI x) (nI 15) := by
  unfold fX2_suits fX6_stands
  rw [if_neg (show ¬ (nI 15 : Int32) = 0 by decide), if_neg (show ¬ (nI 15 : Int32) = 1 by decide), if_neg (show ¬ (nI 15 : Int32) = 2 by decide), if_neg (show ¬ (nI 15 : Int32) = 3 by decide), if_neg (show ¬ (nI 15 : Int32) = 4 by decide), if_neg (show ¬ (nI 15 : Int32) = 5 by decide), if_neg (show ¬ (nI 15 : Int32) = 6 by decide), if_neg (show ¬ (nI 15 : Int32) = 7 by decide), if_neg (show ¬ (nI 15 : Int32) = 8 by decide), if_neg (show ¬ (nI 15 : Int32) = 9 by decide), if_neg (show ¬ (nI 15 : Int32) = 10 by decide), if_neg (show ¬ (nI 15 : Int32) = 11 by decide), if_neg (show ¬ (nI 15 : Int32) = 12 by decide), if_neg (show ¬ (nI 15 : Int32) = 13 by decide), if_neg (show ¬ (nI 15 : Int32) = 14 by decide), if_pos (show (nI 15 : Int32) = 15 by decide), show uT (ix (nI 15)) = 8 by decide, show lT (ix (nI 15)) = 8 by decide, g13, g14, c13, h10, h11, d10, if_neg n0]
  by_cases hk : k = 8
  · subst hk
    by_cases hc : k2 = 8
    · subst hc
      rw [if_pos (show (nI 8 : Int32) = 8 from rfl), if_pos (show (nI 8 : Int32) = 8 from rfl)]
      simp [fX2_suitsOther, show (nI 1 : Int32) = 1 from rfl, show (nI 2 : Int32) = 2 from rfl, show (nI 8 : Int32) = 8 from rfl, show (nI 15 : Int32) = 15 from rfl, g16, g17, c14, c15, c16, c17, d11, d12, d13, d14, h13, h14, isOf_eq, win01, isIn0]
    · have nc : ¬ nI k2 = 8 := fun w => hc ((kI t1 (by decide : 8 < 2 ^ 31)).mp w)
      simp [nc]
  · have nk : ¬ nI k = 8 := fun w => hk ((kI s1 (by decide : 8 < 2 ^ 31)).mp w)
    simp [nk]

set_option maxHeartbeats 800000 in
theorem suit_16 {G H : Nat → Nat → Int32} {x k a m v k2 c d m2 v2 : Nat} (s1 : k ≤ 8) (s6 : m < 6) (s7 : ¬ (k = 2 ∨ k = 4 ∨ k = 6) → m = 0) (s10 : k = 6 → v < 6 ∧ v ≠ m) (s12 : k = 0 ∨ k = 5 ∨ k = 7 → v = 0) (t1 : k2 ≤ 8) (t9 : k2 = 3 ∨ k2 = 4 → v2 < 64) (g13 : G 13 (ix (nI x)) = nI k) (g14 : G 14 (ix (nI x)) = nI a) (g16 : G 16 (ix (nI x)) = nI m) (g17 : G 17 (ix (nI x)) = nI v) (h10 : H 10 (ix (nI x)) = nI k) (h11 : H 11 (ix (nI x)) = nI a) (h13 : H 13 (ix (nI x)) = nI m) (h14 : H 14 (ix (nI x)) = nI v) (n0 : ¬ nI k = 0) (c13 : G 13 (ix (nI a)) = nI k2) (c14 : G 14 (ix (nI a)) = nI c) (c15 : G 15 (ix (nI a)) = nI d) (c16 : G 16 (ix (nI a)) = nI m2) (c17 : G 17 (ix (nI a)) = nI v2) (d10 : H 10 (ix (nI a)) = nI k2) (d11 : H 11 (ix (nI a)) = nI c) (d12 : H 12 (ix (nI a)) = nI d) (d13 : H 13 (ix (nI a)) = nI m2) (d14 : H 14 (ix (nI a)) = nI v2) (fr : k = 1 ∨ k = 2 → H 7 (ix (nI v)) = G 10 (ix (nI v))) (ff : k = 1 ∨ k = 2 → H 8 (ix (nI v)) = G 11 (ix (nI v))) (ff2 : k2 = 1 ∨ k2 = 2 → H 8 (ix (nI v2)) = G 11 (ix (nI v2))) (fd : k2 = 4 ∨ k2 = 5 → H 16 (ix (nI d)) = G 19 (ix (nI d))) (cc : k2 = 5 → ∀ w, w = c ∨ w = d → H 10 (ix (nI w)) = G 13 (ix (nI w)) ∧ H 13 (ix (nI w)) = G 16 (ix (nI w)) ∧ H 14 (ix (nI w)) = G 17 (ix (nI w)) ∧ (G 13 (ix (nI w)) = 7 → G 16 (ix (nI w)) = 0 ∧ G 17 (ix (nI w)) = 0)) : fX2_suits G (nI x) (nI 16) = fX6_stands H (nI x) (nI 16) := by
  unfold fX2_suits fX6_stands
  rw [if_neg (show ¬ (nI 16 : Int32) = 0 by decide), if_neg (show ¬ (nI 16 : Int32) = 1 by decide), if_neg (show ¬ (nI 16 : Int32) = 2 by decide), if_neg (show ¬ (nI 16 : Int32) = 3 by decide), if_neg (show ¬ (nI 16 : Int32) = 4 by decide), if_neg (show ¬ (nI 16 : Int32) = 5 by decide), if_neg (show ¬ (nI 16 : Int32) = 6 by decide), if_neg (show ¬ (nI 16 : Int32) = 7 by decide), if_neg (show ¬ (nI 16 : Int32) = 8 by decide), if_neg (show ¬ (nI 16 : Int32) = 9 by decide), if_neg (show ¬ (nI 16 : Int32) = 10 by decide), if_neg (show ¬ (nI 16 : Int32) = 11 by decide), if_neg (show ¬ (nI 16 : Int32) = 12 by decide), if_neg (show ¬ (nI 16 : Int32) = 13 by decide), if_neg (show ¬ (nI 16 : Int32) = 14 by decide), if_neg (show ¬ (nI 16 : Int32) = 15 by decide), if_pos (show (nI 16 : Int32) = 16 by decide), show uT (ix (nI 16)) = 7 by decide, show lT (ix (nI 16)) = 5 by decide, g13, g14, c13, h10, h11, d10, if_neg n0]
  by_cases hk : k = 7
  · subst hk
    by_cases hc : k2 = 5
    · subst hc
      rw [if_pos (show (nI 7 : Int32) = 7 from rfl), if_pos (show (nI 5 : Int32) = 5 from rfl)]
      obtain ⟨z1, z2, z3, z4⟩ := cc rfl c (Or.inl rfl)
      obtain ⟨y1, y2, y3, y4⟩ := cc rfl d (Or.inr rfl)
      rw [if_neg (show ¬ (7 : Int32) = 1 by decide), show (fX2_suitsOther G (nI 16) (nI x) (nI a)) = (if fX2_isLikeJob G (nI x) (G 14 (ix (nI a))) = 0 then 1 else (if fX2_isLikeJob G (nI x) (G 15 (ix (nI a))) = 0 then 1 else 0)) by unfold fX2_suitsOther; rw [if_neg (show ¬ (nI 16 : Int32) = 8 by decide), if_neg (show ¬ (nI 16 : Int32) = 9 by decide), if_neg (show ¬ (nI 16 : Int32) = 10 by decide), if_neg (show ¬ (nI 16 : Int32) = 11 by decide), if_neg (show ¬ (nI 16 : Int32) = 12 by decide), if_neg (show ¬ (nI 16 : Int32) = 13 by decide), if_neg (show ¬ (nI 16 : Int32) = 14 by decide), if_neg (show ¬ (nI 16 : Int32) = 15 by decide), if_pos (show (nI 16 : Int32) = 16 by decide)]]
      have m0 := s7 (by decide)
      have v0 := s12 (by decide)
      subst m0
      subst v0
      rw [c14, c15, d11, d12, z1, y1, like7 g13 g16 g17 z4, like7 g13 g16 g17 y4, if_pos (show (nI 7 : Int32) = 7 from rfl), if_pos (show (nI 5 : Int32) = 5 from rfl)]
      by_cases w : G 13 (ix (nI c)) = 7
      · rw [if_pos w, if_pos w, if_neg (by decide)]
        by_cases w2 : G 13 (ix (nI d)) = 7
        · rw [if_pos w2, if_pos w2, if_neg (by decide)]
        · rw [if_neg w2, if_neg w2, if_pos rfl]
      · rw [if_neg w, if_neg w, if_pos rfl]
    · have nc : ¬ nI k2 = 5 := fun w => hc ((kI t1 (by decide : 5 < 2 ^ 31)).mp w)
      simp [nc]
  · have nk : ¬ nI k = 7 := fun w => hk ((kI s1 (by decide : 7 < 2 ^ 31)).mp w)
    simp [nk]

set_option maxHeartbeats 800000 in
theorem suit_17 {G H : Nat → Nat → Int32} {x k a m v k2 c d m2 v2 : Nat} (s1 : k ≤ 8) (s6 : m < 6) (s7 : ¬ (k = 2 ∨ k = 4 ∨ k = 6) → m = 0) (s10 : k = 6 → v < 6 ∧ v ≠ m) (s12 : k = 0 ∨ k = 5 ∨ k = 7 → v = 0) (t1 : k2 ≤ 8) (t9 : k2 = 3 ∨ k2 = 4 → v2 < 64) (g13 : G 13 (ix (nI x)) = nI k) (g14 : G 14 (ix (nI x)) = nI a) (g16 : G 16 (ix (nI x)) = nI m) (g17 : G 17 (ix (nI x)) = nI v) (h10 : H 10 (ix (nI x)) = nI k) (h11 : H 11 (ix (nI x)) = nI a) (h13 : H 13 (ix (nI x)) = nI m) (h14 : H 14 (ix (nI x)) = nI v) (n0 : ¬ nI k = 0) (c13 : G 13 (ix (nI a)) = nI k2) (c14 : G 14 (ix (nI a)) = nI c) (c15 : G 15 (ix (nI a)) = nI d) (c16 : G 16 (ix (nI a)) = nI m2) (c17 : G 17 (ix (nI a)) = nI v2) (d10 : H 10 (ix (nI a)) = nI k2) (d11 : H 11 (ix (nI a)) = nI c) (d12 : H 12 (ix (nI a)) = nI d) (d13 : H 13 (ix (nI a)) = nI m2) (d14 : H 14 (ix (nI a)) = nI v2) (fr : k = 1 ∨ k = 2 → H 7 (ix (nI v)) = G 10 (ix (nI v))) (ff : k = 1 ∨ k = 2 → H 8 (ix (nI v)) = G 11 (ix (nI v))) (ff2 : k2 = 1 ∨ k2 = 2 → H 8 (ix (nI v2)) = G 11 (ix (nI v2))) (fd : k2 = 4 ∨ k2 = 5 → H 16 (ix (nI d)) = G 19 (ix (nI d))) (cc : k2 = 5 → ∀ w, w = c ∨ w = d → H 10 (ix (nI w)) = G 13 (ix (nI w)) ∧ H 13 (ix (nI w)) = G 16 (ix (nI w)) ∧ H 14 (ix (nI w)) = G 17 (ix (nI w)) ∧ (G 13 (ix (nI w)) = 7 → G 16 (ix (nI w)) = 0 ∧ G 17 (ix (nI w)) = 0)) : fX2_suits G (nI x) (nI 17) = fX6_stands H (nI x) (nI 17) := by
  unfold fX2_suits fX6_stands
  rw [if_neg (show ¬ (nI 17 : Int32) = 0 by decide), if_neg (show ¬ (nI 17 : Int32) = 1 by decide), if_neg (show ¬ (nI 17 : Int32) = 2 by decide), if_neg (show ¬ (nI 17 : Int32) = 3 by decide), if_neg (show ¬ (nI 17 : Int32) = 4 by decide), if_neg (show ¬ (nI 17 : Int32) = 5 by decide), if_neg (show ¬ (nI 17 : Int32) = 6 by decide), if_neg (show ¬ (nI 17 : Int32) = 7 by decide), if_neg (show ¬ (nI 17 : Int32) = 8 by decide), if_neg (show ¬ (nI 17 : Int32) = 9 by decide), if_neg (show ¬ (nI 17 : Int32) = 10 by decide), if_neg (show ¬ (nI 17 : Int32) = 11 by decide), if_neg (show ¬ (nI 17 : Int32) = 12 by decide), if_neg (show ¬ (nI 17 : Int32) = 13 by decide), if_neg (show ¬ (nI 17 : Int32) = 14 by decide), if_neg (show ¬ (nI 17 : Int32) = 15 by decide), if_neg (show ¬ (nI 17 : Int32) = 16 by decide), show uT (ix (nI 17)) = 8 by decide, show lT (ix (nI 17)) = 2 by decide, g13, g14, c13, h10, h11, d10, if_neg n0]
  by_cases hk : k = 8
  · subst hk
    by_cases hc : k2 = 2
    · subst hc
      rw [if_pos (show (nI 8 : Int32) = 8 from rfl), if_pos (show (nI 2 : Int32) = 2 from rfl)]
      simp [fX2_suitsOther, show (nI 1 : Int32) = 1 from rfl, show (nI 2 : Int32) = 2 from rfl, show (nI 8 : Int32) = 8 from rfl, show (nI 17 : Int32) = 17 from rfl, g16, g17, c14, c15, c16, c17, d11, d12, d13, d14, h13, h14, isOf_eq, win01, ff2 (by decide), isIn0]
    · have nc : ¬ nI k2 = 2 := fun w => hc ((kI t1 (by decide : 2 < 2 ^ 31)).mp w)
      simp [nc]
  · have nk : ¬ nI k = 8 := fun w => hk ((kI s1 (by decide : 8 < 2 ^ 31)).mp w)
    simp [nk]
set_option maxRecDepth 100000 in
set_option maxHeartbeats 1600000 in
theorem suits_eq {G H : Nat → Nat → Int32} {V : Nat → Int32} {nn nf : Nat} {bd rk : Nat → Nat} (h : PLC G V nn nf bd rk) (ag : AGR G H nn nf) (h16 : ∀ i, i < nn → H 16 i = G 19 i) {x r : Nat} (hx : x < nn) (hr : r < 18) : fX2_suits G (nI x) (nI r) = fX6_stands H (nI x) (nI r) := by
  obtain ⟨h1, h2, h3, h4, h5, h6, h7⟩ := h
  obtain ⟨k, a, b, m, v, ⟨q1, q2, q3, q4, q5⟩, ⟨s1, s2, s3, s4, s5, s6, s7, s8, s9, s10, s11, s12⟩, -⟩ := h7 x hx
  obtain ⟨a1, a2, a3, a4, a5⟩ := ag.2.2.2.2 x hx
  have ex : ix (nI x) = x := ix_nI (by omega)
  have g13 : G 13 (ix (nI x)) = nI k := by rw [ex]; exact q1
  have g14 : G 14 (ix (nI x)) = nI a := by rw [ex]; exact q2
  have g16 : G 16 (ix (nI x)) = nI m := by rw [ex]; exact q4
  have g17 : G 17 (ix (nI x)) = nI v := by rw [ex]; exact q5
  have h10 : H 10 (ix (nI x)) = nI k := by rw [ex, ← a1]; exact q1
  have h11 : H 11 (ix (nI x)) = nI a := by rw [ex, ← a2]; exact q2
  have h13 : H 13 (ix (nI x)) = nI m := by rw [ex, ← a4]; exact q4
  have h14 : H 14 (ix (nI x)) = nI v := by rw [ex, ← a5]; exact q5
  by_cases k0 : k = 0
  · subst k0
    have e1 : fX6_stands H (nI x) (nI r) = 0 := by unfold fX6_stands; rw [h10]; rfl
    have e2 : fX2_suits G (nI x) (nI r) = 0 := by
      unfold fX2_suits; rw [g13, ix_nI (by omega)]
      rw [if_neg (h0T r hr)]
    rw [e1, e2]
  · have n0 : ¬ nI k = 0 := fun w => k0 ((kI s1 (by decide : 0 < 2 ^ 31)).mp w)
    have ha := (s3 k0).1
    obtain ⟨k2, c, d, m2, v2, ⟨p1, p2, p3, p4, p5⟩, ⟨t1, t2, t3, t4, t5, t6, t7, t8, t9, t10, t11, t12⟩, -⟩ := h7 a ha
    obtain ⟨b1, b2, b3, b4, b5⟩ := ag.2.2.2.2 a ha
    have ea : ix (nI a) = a := ix_nI (by omega)
    have c13 : G 13 (ix (nI a)) = nI k2 := by rw [ea]; exact p1
    have c14 : G 14 (ix (nI a)) = nI c := by rw [ea]; exact p2
    have c15 : G 15 (ix (nI a)) = nI d := by rw [ea]; exact p3
    have c16 : G 16 (ix (nI a)) = nI m2 := by rw [ea]; exact p4
    have c17 : G 17 (ix (nI a)) = nI v2 := by rw [ea]; exact p5
    have d10 : H 10 (ix (nI a)) = nI k2 := by rw [ea, ← b1]; exact p1
    have d11 : H 11 (ix (nI a)) = nI c := by rw [ea, ← b2]; exact p2
    have d12 : H 12 (ix (nI a)) = nI d := by rw [ea, ← b3]; exact p3
    have d13 : H 13 (ix (nI a)) = nI m2 := by rw [ea, ← b4]; exact p4
    have d14 : H 14 (ix (nI a)) = nI v2 := by rw [ea, ← b5]; exact p5
    have ev : k = 1 ∨ k = 2 → ix (nI v) = v ∧ v < nf := fun e => ⟨ix_nI (by have := s8 e; omega), s8 e⟩
    have ev2 : k2 = 1 ∨ k2 = 2 → ix (nI v2) = v2 ∧ v2 < nf := fun e => ⟨ix_nI (by have := t8 e; omega), t8 e⟩
    have fr : k = 1 ∨ k = 2 → H 7 (ix (nI v)) = G 10 (ix (nI v)) := fun e => by rw [(ev e).1]; exact ((ag.2.2.2.1 v (ev e).2).2.2.2.2.1).symm
    have ff : k = 1 ∨ k = 2 → H 8 (ix (nI v)) = G 11 (ix (nI v)) := fun e => by rw [(ev e).1]; exact ((ag.2.2.2.1 v (ev e).2).2.2.2.2.2).symm
    have ff2 : k2 = 1 ∨ k2 = 2 → H 8 (ix (nI v2)) = G 11 (ix (nI v2)) := fun e => by rw [(ev2 e).1]; exact ((ag.2.2.2.1 v2 (ev2 e).2).2.2.2.2.2).symm
    have fd : k2 = 4 ∨ k2 = 5 → H 16 (ix (nI d)) = G 19 (ix (nI d)) := fun e => by have := (t4 e).1; rw [ix_nI (by omega)]; exact h16 d this
    -- the nodes below a union
    have cc : k2 = 5 → ∀ w, w = c ∨ w = d → H 10 (ix (nI w)) = G 13 (ix (nI w)) ∧ H 13 (ix (nI w)) = G 16 (ix (nI w)) ∧ H 14 (ix (nI w)) = G 17 (ix (nI w)) ∧ (G 13 (ix (nI w)) = 7 → G 16 (ix (nI w)) = 0 ∧ G 17 (ix (nI w)) = 0) := fun e w hw => by
      have hw' : w < nn := by
        rcases hw with rfl | rfl
        · exact (t3 (by omega)).1
        · exact (t4 (Or.inr e)).1
      obtain ⟨e1, e2, e3, e4, e5⟩ := ag.2.2.2.2 w hw'
      obtain ⟨kk, aa, bb, mm, vv, ⟨z1, z2, z3, z4, z5⟩, zs, -⟩ := h7 w hw'
      rw [ix_nI (by omega)]
      refine ⟨e1.symm, e4.symm, e5.symm, fun q => ?_⟩
      have q7 : kk = 7 := (kI zs.1 (by decide : 7 < 2 ^ 31)).mp (z1.symm.trans q)
      rw [z4, z5, zs.2.2.2.2.2.2.1 (by omega), zs.2.2.2.2.2.2.2.2.2.2.2 (by omega)]
      exact ⟨rfl, rfl⟩
    rcases (show r = 0 ∨ r = 1 ∨ r = 2 ∨ r = 3 ∨ r = 4 ∨ r = 5 ∨ r = 6 ∨ r = 7 ∨ r = 8 ∨ r = 9 ∨ r = 10 ∨ r = 11 ∨ r = 12 ∨ r = 13 ∨ r = 14 ∨ r = 15 ∨ r = 16 ∨ r = 17 by omega) with rfl | rfl | rfl | rfl | rfl | rfl | rfl | rfl | rfl | rfl | rfl | rfl | rfl | rfl | rfl | rfl | rfl | rfl
    · exact suit_0 s1 s6 s7 s10 s12 t1 t9 g13 g14 g16 g17 h10 h11 h13 h14 n0 c13 c14 c15 c16 c17 d10 d11 d12 d13 d14 fr ff ff2 fd cc
    · exact suit_1 s1 s6 s7 s10 s12 t1 t9 g13 g14 g16 g17 h10 h11 h13 h14 n0 c13 c14 c15 c16 c17 d10 d11 d12 d13 d14 fr ff ff2 fd cc
    · exact suit_2 s1 s6 s7 s10 s12 t1 t9 g13 g14 g16 g17 h10 h11 h13 h14 n0 c13 c14 c15 c16 c17 d10 d11 d12 d13 d14 fr ff ff2 fd cc
    · exact suit_3 s1 s6 s7 s10 s12 t1 t9 g13 g14 g16 g17 h10 h11 h13 h14 n0 c13 c14 c15 c16 c17 d10 d11 d12 d13 d14 fr ff ff2 fd cc
    · exact suit_4 s1 s6 s7 s10 s12 t1 t9 g13 g14 g16 g17 h10 h11 h13 h14 n0 c13 c14 c15 c16 c17 d10 d11 d12 d13 d14 fr ff ff2 fd cc
    · exact suit_5 s1 s6 s7 s10 s12 t1 t9 g13 g14 g16 g17 h10 h11 h13 h14 n0 c13 c14 c15 c16 c17 d10 d11 d12 d13 d14 fr ff ff2 fd cc
    · exact suit_6 s1 s6 s7 s10 s12 t1 t9 g13 g14 g16 g17 h10 h11 h13 h14 n0 c13 c14 c15 c16 c17 d10 d11 d12 d13 d14 fr ff ff2 fd cc
    · exact suit_7 s1 s6 s7 s10 s12 t1 t9 g13 g14 g16 g17 h10 h11 h13 h14 n0 c13 c14 c15 c16 c17 d10 d11 d12 d13 d14 fr ff ff2 fd cc
    · exact suit_8 s1 s6 s7 s10 s12 t1 t9 g13 g14 g16 g17 h10 h11 h13 h14 n0 c13 c14 c15 c16 c17 d10 d11 d12 d13 d14 fr ff ff2 fd cc
    · exact suit_9 s1 s6 s7 s10 s12 t1 t9 g13 g14 g16 g17 h10 h11 h13 h14 n0 c13 c14 c15 c16 c17 d10 d11 d12 d13 d14 fr ff ff2 fd cc
    · exact suit_10 s1 s6 s7 s10 s12 t1 t9 g13 g14 g16 g17 h10 h11 h13 h14 n0 c13 c14 c15 c16 c17 d10 d11 d12 d13 d14 fr ff ff2 fd cc
    · exact suit_11 s1 s6 s7 s10 s12 t1 t9 g13 g14 g16 g17 h10 h11 h13 h14 n0 c13 c14 c15 c16 c17 d10 d11 d12 d13 d14 fr ff ff2 fd cc
    · exact suit_12 s1 s6 s7 s10 s12 t1 t9 g13 g14 g16 g17 h10 h11 h13 h14 n0 c13 c14 c15 c16 c17 d10 d11 d12 d13 d14 fr ff ff2 fd cc
    · exact suit_13 s1 s6 s7 s10 s12 t1 t9 g13 g14 g16 g17 h10 h11 h13 h14 n0 c13 c14 c15 c16 c17 d10 d11 d12 d13 d14 fr ff ff2 fd cc
    · exact suit_14 s1 s6 s7 s10 s12 t1 t9 g13 g14 g16 g17 h10 h11 h13 h14 n0 c13 c14 c15 c16 c17 d10 d11 d12 d13 d14 fr ff ff2 fd cc
    · exact suit_15 s1 s6 s7 s10 s12 t1 t9 g13 g14 g16 g17 h10 h11 h13 h14 n0 c13 c14 c15 c16 c17 d10 d11 d12 d13 d14 fr ff ff2 fd cc
    · exact suit_16 s1 s6 s7 s10 s12 t1 t9 g13 g14 g16 g17 h10 h11 h13 h14 n0 c13 c14 c15 c16 c17 d10 d11 d12 d13 d14 fr ff ff2 fd cc
    · exact suit_17 s1 s6 s7 s10 s12 t1 t9 g13 g14 g16 g17 h10 h11 h13 h14 n0 c13 c14 c15 c16 c17 d10 d11 d12 d13 d14 fr ff ff2 fd cc
