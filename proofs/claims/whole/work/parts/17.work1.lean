theorem go0 {G : Nat → Nat → Int32} {V : Nat → Int32} {at9 : Int32} (h : G 4 (ix (G 17 (ix (V 3 - 1)))) = 0) : fX6_goesOn_G G V at9 = G ∧ fX6_goesOn_V G V at9 = fX6_gives_V V (G 20 (ix (at9 + G 5 (ix (G 17 (ix (V 3 - 1))))))) := by
  unfold fX6_goesOn_G fX6_goesOn_V; simp only [eq_true h, true_and, and_true, false_and, and_false, not_true_eq_false, not_false_eq_true, if_true, if_false, ↓reduceIte, and_self]
theorem go1 {G : Nat → Nat → Int32} {V : Nat → Int32} {at9 : Int32} (h0 : ¬ G 4 (ix (G 17 (ix (V 3 - 1)))) = 0) (h : G 4 (ix (G 17 (ix (V 3 - 1)))) = 1) : fX6_goesOn_G G V at9 = G ∧ fX6_goesOn_V G V at9 = fX6_gives_V V (G 5 (ix (G 17 (ix (V 3 - 1))))) := by
  unfold fX6_goesOn_G fX6_goesOn_V; simp only [eq_false h0, eq_true h, true_and, and_true, false_and, and_false, not_true_eq_false, not_false_eq_true, if_true, if_false, ↓reduceIte, and_self]
theorem goA {G : Nat → Nat → Int32} {V : Nat → Int32} {at9 : Int32} (h0 : ¬ G 4 (ix (G 17 (ix (V 3 - 1)))) = 0) (h1 : ¬ G 4 (ix (G 17 (ix (V 3 - 1)))) = 1) (hp : G 18 (ix (V 3 - 1)) = 0) : fX6_goesOn_G G V at9 = fX6_asks_G G V (G 5 (ix (G 17 (ix (V 3 - 1))))) ∧ fX6_goesOn_V G V at9 = fX6_asks_V G V (G 5 (ix (G 17 (ix (V 3 - 1))))) := by
  unfold fX6_goesOn_G fX6_goesOn_V; simp only [eq_false h0, eq_false h1, eq_true hp, true_and, and_true, false_and, and_false, not_true_eq_false, not_false_eq_true, if_true, if_false, ↓reduceIte, and_self]
theorem goS {G : Nat → Nat → Int32} {V : Nat → Int32} {at9 : Int32} (h0 : ¬ G 4 (ix (G 17 (ix (V 3 - 1)))) = 0) (h1 : ¬ G 4 (ix (G 17 (ix (V 3 - 1)))) = 1) (hp : ¬ G 18 (ix (V 3 - 1)) = 0) (h2 : fX6_hasTwo (G 4 (ix (G 17 (ix (V 3 - 1))))) = 0) : fX6_goesOn_G G V at9 = G ∧ fX6_goesOn_V G V at9 = fX6_single_V G V (G 4 (ix (G 17 (ix (V 3 - 1))))) := by
  unfold fX6_goesOn_G fX6_goesOn_V; simp only [eq_false h0, eq_false h1, eq_false hp, eq_true h2, true_and, and_true, false_and, and_false, not_true_eq_false, not_false_eq_true, if_true, if_false, ↓reduceIte, and_self]
theorem goL {G : Nat → Nat → Int32} {V : Nat → Int32} {at9 : Int32} (h0 : ¬ G 4 (ix (G 17 (ix (V 3 - 1)))) = 0) (h1 : ¬ G 4 (ix (G 17 (ix (V 3 - 1)))) = 1) (hp : ¬ G 18 (ix (V 3 - 1)) = 0) (h2 : ¬ fX6_hasTwo (G 4 (ix (G 17 (ix (V 3 - 1))))) = 0) (hp1 : G 18 (ix (V 3 - 1)) = 1) (hs : G 4 (ix (G 17 (ix (V 3 - 1)))) = 9 ∧ V 4 = 0 ∨ G 4 (ix (G 17 (ix (V 3 - 1)))) = 10 ∧ ¬ V 4 = 0) : fX6_goesOn_G G V at9 = ug G 19 (ix (V 3 - 1)) (V 4) ∧ fX6_goesOn_V G V at9 = fX6_gives_V V (if G 4 (ix (G 17 (ix (V 3 - 1)))) = 9 then 0 else 1) := by
  unfold fX6_goesOn_G fX6_goesOn_V
  rcases hs with ⟨h9, hv⟩ | ⟨h10, hv⟩
  · simp only [eq_false h0, eq_false h1, eq_false hp, eq_false h2, eq_true hp1, eq_true h9, eq_true hv, true_and, and_true, false_and, and_false, not_true_eq_false, not_false_eq_true, if_true, if_false, ↓reduceIte, and_self]
  · have h9 : ¬ G 4 (ix (G 17 (ix (V 3 - 1)))) = 9 := by rw [h10]; decide
    simp only [eq_false h0, eq_false h1, eq_false hp, eq_false h2, eq_true hp1, eq_false h9, eq_true h10, eq_false hv, true_and, and_true, false_and, and_false, not_true_eq_false, not_false_eq_true, if_true, if_false, ↓reduceIte, and_self]
theorem goB {G : Nat → Nat → Int32} {V : Nat → Int32} {at9 : Int32} (h0 : ¬ G 4 (ix (G 17 (ix (V 3 - 1)))) = 0) (h1 : ¬ G 4 (ix (G 17 (ix (V 3 - 1)))) = 1) (hp : ¬ G 18 (ix (V 3 - 1)) = 0) (h2 : ¬ fX6_hasTwo (G 4 (ix (G 17 (ix (V 3 - 1))))) = 0) (hp1 : G 18 (ix (V 3 - 1)) = 1) (hs : ¬ (G 4 (ix (G 17 (ix (V 3 - 1)))) = 9 ∧ V 4 = 0 ∨ G 4 (ix (G 17 (ix (V 3 - 1)))) = 10 ∧ ¬ V 4 = 0)) : fX6_goesOn_G G V at9 = fX6_asks_G (ug G 19 (ix (V 3 - 1)) (V 4)) V ((ug G 19 (ix (V 3 - 1)) (V 4)) 6 (ix (G 17 (ix (V 3 - 1))))) ∧ fX6_goesOn_V G V at9 = fX6_asks_V (ug G 19 (ix (V 3 - 1)) (V 4)) V ((ug G 19 (ix (V 3 - 1)) (V 4)) 6 (ix (G 17 (ix (V 3 - 1))))) := by
  unfold fX6_goesOn_G fX6_goesOn_V
  by_cases hv : V 4 = 0
  · have h9 : ¬ G 4 (ix (G 17 (ix (V 3 - 1)))) = 9 := fun h => hs (Or.inl ⟨h, hv⟩)
    by_cases h10 : G 4 (ix (G 17 (ix (V 3 - 1)))) = 10
    · simp only [eq_false h0, eq_false h1, eq_false hp, eq_false h2, eq_true hp1, eq_false h9, eq_true h10, eq_true hv, true_and, and_true, false_and, and_false, not_true_eq_false, not_false_eq_true, if_true, if_false, ↓reduceIte, and_self]
    · simp only [eq_false h0, eq_false h1, eq_false hp, eq_false h2, eq_true hp1, eq_false h9, eq_false h10, eq_true hv, true_and, and_true, false_and, and_false, not_true_eq_false, not_false_eq_true, if_true, if_false, ↓reduceIte, and_self]
  · have h10 : ¬ G 4 (ix (G 17 (ix (V 3 - 1)))) = 10 := fun h => hs (Or.inr ⟨h, hv⟩)
    by_cases h9 : G 4 (ix (G 17 (ix (V 3 - 1)))) = 9
    · simp only [eq_false h0, eq_false h1, eq_false hp, eq_false h2, eq_true hp1, eq_true h9, eq_false h10, eq_false hv, true_and, and_true, false_and, and_false, not_true_eq_false, not_false_eq_true, if_true, if_false, ↓reduceIte, and_self]
    · simp only [eq_false h0, eq_false h1, eq_false hp, eq_false h2, eq_true hp1, eq_false h9, eq_false h10, eq_false hv, true_and, and_true, false_and, and_false, not_true_eq_false, not_false_eq_true, if_true, if_false, ↓reduceIte, and_self]
theorem go2 {G : Nat → Nat → Int32} {V : Nat → Int32} {at9 : Int32} (h0 : ¬ G 4 (ix (G 17 (ix (V 3 - 1)))) = 0) (h1 : ¬ G 4 (ix (G 17 (ix (V 3 - 1)))) = 1) (hp : ¬ G 18 (ix (V 3 - 1)) = 0) (h2 : ¬ fX6_hasTwo (G 4 (ix (G 17 (ix (V 3 - 1))))) = 0) (hp1 : ¬ G 18 (ix (V 3 - 1)) = 1) : fX6_goesOn_G G V at9 = G ∧ fX6_goesOn_V G V at9 = fX6_both_V V (G 4 (ix (G 17 (ix (V 3 - 1))))) (G 19 (ix (V 3 - 1))) (V 4) := by
  unfold fX6_goesOn_G fX6_goesOn_V; simp only [eq_false h0, eq_false h1, eq_false hp, eq_false h2, eq_false hp1, true_and, and_true, false_and, and_false, not_true_eq_false, not_false_eq_true, if_true, if_false, ↓reduceIte, and_self]
/-- the pair's worth: the reference's and the class's -/
theorem div_eq (x y : Int32) (hy : ¬ y = 0) : (x.toInt64 / y.toInt64).toInt32 = x / y := by
  apply Int32.toInt_inj.mp
  rw [Int64.toInt_toInt32, Int64.toInt_div, Int32.toInt_div, Int32.toInt_toInt64, Int32.toInt_toInt64]
  rw [Int.bmod_bmod_of_dvd (by decide)]
theorem both_V {V : Nat → Int32} {K x y : Int32} : fX6_both_V V K x y = if K = 5 ∧ y = 0 then upd V 5 1 else fX6_gives_V V (evV K x y) := by
  unfold fX6_both_V evV fX3_valueOfPair
  by_cases h2 : K = 2
  · have h5 : ¬ K = 5 := by rw [h2]; decide
    simp only [eq_true h2, eq_false h5, true_and, and_true, false_and, and_false, not_true_eq_false, not_false_eq_true, if_true, if_false, ↓reduceIte]
  · by_cases h3 : K = 3
    · have h5 : ¬ K = 5 := by rw [h3]; decide
      simp only [eq_false h2, eq_true h3, eq_false h5, true_and, and_true, false_and, and_false, not_true_eq_false, not_false_eq_true, if_true, if_false, ↓reduceIte]
    · by_cases h4 : K = 4
      · have h5 : ¬ K = 5 := by rw [h4]; decide
        simp only [eq_false h2, eq_false h3, eq_true h4, eq_false h5, true_and, and_true, false_and, and_false, not_true_eq_false, not_false_eq_true, if_true, if_false, ↓reduceIte]
      · by_cases h5 : K = 5
        · by_cases hy : y = 0
          · simp only [eq_false h2, eq_false h3, eq_false h4, eq_true h5, eq_true hy, true_and, and_true, false_and, and_false, not_true_eq_false, not_false_eq_true, if_true, if_false, ↓reduceIte]
          · simp only [eq_false h2, eq_false h3, eq_false h4, eq_true h5, eq_false hy, true_and, and_true, false_and, and_false, not_true_eq_false, not_false_eq_true, if_true, if_false, ↓reduceIte]
            rw [div_eq x y hy]
        · simp only [eq_false h2, eq_false h3, eq_false h4, eq_false h5, true_and, and_true, false_and, and_false, not_true_eq_false, not_false_eq_true, if_true, if_false, ↓reduceIte]
          by_cases h6 : K = 6
          · simp only [eq_true h6, true_and, and_true, false_and, and_false, not_true_eq_false, not_false_eq_true, if_true, if_false, ↓reduceIte]
          · by_cases h7 : K = 7
            · simp only [eq_false h6, eq_true h7, true_and, and_true, false_and, and_false, not_true_eq_false, not_false_eq_true, if_true, if_false, ↓reduceIte]
            · by_cases h8 : K = 8
              · simp only [eq_false h6, eq_false h7, eq_true h8, true_and, and_true, false_and, and_false, not_true_eq_false, not_false_eq_true, if_true, if_false, ↓reduceIte]
              · simp only [eq_false h6, eq_false h7, eq_false h8, true_and, and_true, false_and, and_false, not_true_eq_false, not_false_eq_true, if_true, if_false, ↓reduceIte]
theorem single_V {G : Nat → Nat → Int32} {V : Nat → Int32} {K : Int32} : fX6_single_V G V K = if K = 11 then fX6_gives_V V (if V 4 = 0 then 1 else 0) else if fX4_hasItem (V 4) = 0 then upd V 5 2 else fX6_gives_V V (G 3 (ix (V 4))) := by
  unfold fX6_single_V
  have e : fX6_in (V 4).toInt64 0 7 = fX4_hasItem (V 4) := by
    rw [show (7 : Int64) = Int64.ofNat 7 from rfl, in_iff (by omega)]
    unfold fX4_hasItem
    by_cases c1 : V 4 < 0
    · rw [if_pos c1, if_pos c1]
    · rw [if_neg c1, if_neg c1]
      by_cases c2 : 8 ≤ V 4
      · rw [if_pos c2, if_pos]
        rw [Int32.lt_iff_toInt_lt, nI_toInt (by omega)]
        rw [Int32.le_iff_toInt_le] at c2
        have : (8 : Int32).toInt = 8 := rfl
        omega
      · rw [if_neg c2, if_neg]
        rw [Int32.lt_iff_toInt_lt, nI_toInt (by omega)]
        rw [Int32.le_iff_toInt_le] at c2
        have : (8 : Int32).toInt = 8 := rfl
        omega
  rw [e]
