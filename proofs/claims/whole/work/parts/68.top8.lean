/-! sweep -/
theorem lr_cases (G : Nat → Nat → Int32) (x : Int32) : fX2_leastRule G x = -1 ∨ ∃ r : Nat, r < 18 ∧ fX2_leastRule G x = nI r ∧ ¬ fX2_suits G x (nI r) = 0 := by
  unfold fX2_leastRule
  by_cases c0 : fX2_suits G x 0 = 0
  · rw [if_pos c0]
    by_cases c1 : fX2_suits G x 1 = 0
    · rw [if_pos c1]
      by_cases c2 : fX2_suits G x 2 = 0
      · rw [if_pos c2]
        by_cases c3 : fX2_suits G x 3 = 0
        · rw [if_pos c3]
          by_cases c4 : fX2_suits G x 4 = 0
          · rw [if_pos c4]
            by_cases c5 : fX2_suits G x 5 = 0
            · rw [if_pos c5]
              by_cases c6 : fX2_suits G x 6 = 0
              · rw [if_pos c6]
                by_cases c7 : fX2_suits G x 7 = 0
                · rw [if_pos c7]
                  by_cases c8 : fX2_suits G x 8 = 0
                  · rw [if_pos c8]
                    by_cases c9 : fX2_suits G x 9 = 0
                    · rw [if_pos c9]
                      by_cases c10 : fX2_suits G x 10 = 0
                      · rw [if_pos c10]
                        by_cases c11 : fX2_suits G x 11 = 0
                        · rw [if_pos c11]
                          by_cases c12 : fX2_suits G x 12 = 0
                          · rw [if_pos c12]
                            by_cases c13 : fX2_suits G x 13 = 0
                            · rw [if_pos c13]
                              by_cases c14 : fX2_suits G x 14 = 0
                              · rw [if_pos c14]
                                by_cases c15 : fX2_suits G x 15 = 0
                                · rw [if_pos c15]
                                  by_cases c16 : fX2_suits G x 16 = 0
                                  · rw [if_pos c16]
                                    by_cases c17 : fX2_suits G x 17 = 0
                                    · rw [if_pos c17]
                                      exact Or.inl rfl
                                    · rw [if_neg c17]; exact Or.inr ⟨17, by decide, rfl, c17⟩
                                  · rw [if_neg c16]; exact Or.inr ⟨16, by decide, rfl, c16⟩
                                · rw [if_neg c15]; exact Or.inr ⟨15, by decide, rfl, c15⟩
                              · rw [if_neg c14]; exact Or.inr ⟨14, by decide, rfl, c14⟩
                            · rw [if_neg c13]; exact Or.inr ⟨13, by decide, rfl, c13⟩
                          · rw [if_neg c12]; exact Or.inr ⟨12, by decide, rfl, c12⟩
                        · rw [if_neg c11]; exact Or.inr ⟨11, by decide, rfl, c11⟩
                      · rw [if_neg c10]; exact Or.inr ⟨10, by decide, rfl, c10⟩
                    · rw [if_neg c9]; exact Or.inr ⟨9, by decide, rfl, c9⟩
                  · rw [if_neg c8]; exact Or.inr ⟨8, by decide, rfl, c8⟩
                · rw [if_neg c7]; exact Or.inr ⟨7, by decide, rfl, c7⟩
              · rw [if_neg c6]; exact Or.inr ⟨6, by decide, rfl, c6⟩
            · rw [if_neg c5]; exact Or.inr ⟨5, by decide, rfl, c5⟩
          · rw [if_neg c4]; exact Or.inr ⟨4, by decide, rfl, c4⟩
        · rw [if_neg c3]; exact Or.inr ⟨3, by decide, rfl, c3⟩
      · rw [if_neg c2]; exact Or.inr ⟨2, by decide, rfl, c2⟩
    · rw [if_neg c1]; exact Or.inr ⟨1, by decide, rfl, c1⟩
  · rw [if_neg c0]; exact Or.inr ⟨0, by decide, rfl, c0⟩
theorem lr_eq {G H : Nat → Nat → Int32} {V : Nat → Int32} {nn nf : Nat} {bd rk : Nat → Nat} (h : PLC G V nn nf bd rk) (ag : AGR G H nn nf) (h16 : ∀ i, i < nn → H 16 i = G 19 i) {x : Nat} (hx : x < nn) : fX2_leastRule G (nI x) = fX6_ruleFor H (nI x) := by
  have e : ∀ r : Nat, r < 18 → fX2_suits G (nI x) (nI r) = fX6_stands H (nI x) (nI r) := fun r hr => suits_eq h ag h16 hx hr
  unfold fX2_leastRule fX6_ruleFor
  rw [show fX2_suits G (nI x) 0 = fX6_stands H (nI x) 0 from e 0 (by decide), show fX2_suits G (nI x) 1 = fX6_stands H (nI x) 1 from e 1 (by decide), show fX2_suits G (nI x) 2 = fX6_stands H (nI x) 2 from e 2 (by decide), show fX2_suits G (nI x) 3 = fX6_stands H (nI x) 3 from e 3 (by decide), show fX2_suits G (nI x) 4 = fX6_stands H (nI x) 4 from e 4 (by decide), show fX2_suits G (nI x) 5 = fX6_stands H (nI x) 5 from e 5 (by decide), show fX2_suits G (nI x) 6 = fX6_stands H (nI x) 6 from e 6 (by decide), show fX2_suits G (nI x) 7 = fX6_stands H (nI x) 7 from e 7 (by decide), show fX2_suits G (nI x) 8 = fX6_stands H (nI x) 8 from e 8 (by decide), show fX2_suits G (nI x) 9 = fX6_stands H (nI x) 9 from e 9 (by decide), show fX2_suits G (nI x) 10 = fX6_stands H (nI x) 10 from e 10 (by decide), show fX2_suits G (nI x) 11 = fX6_stands H (nI x) 11 from e 11 (by decide), show fX2_suits G (nI x) 12 = fX6_stands H (nI x) 12 from e 12 (by decide), show fX2_suits G (nI x) 13 = fX6_stands H (nI x) 13 from e 13 (by decide), show fX2_suits G (nI x) 14 = fX6_stands H (nI x) 14 from e 14 (by decide), show fX2_suits G (nI x) 15 = fX6_stands H (nI x) 15 from e 15 (by decide), show fX2_suits G (nI x) 16 = fX6_stands H (nI x) 16 from e 16 (by decide), show fX2_suits G (nI x) 17 = fX6_stands H (nI x) 17 from e 17 (by decide)]
def E20 (A B : Nat → Nat → Int32) : Prop := ∀ p, p ≠ 20 → p ≠ 21 → p ≠ 22 → A p = B p
theorem suitsE {A B : Nat → Nat → Int32} (h : E20 A B) (x r : Int32) : fX2_suits A x r = fX2_suits B x r := by
  unfold fX2_suits fX2_suitsFilter fX2_suitsOther fX2_isLikeJob
  simp only [h 6 (by decide) (by decide) (by decide), h 7 (by decide) (by decide) (by decide), h 8 (by decide) (by decide) (by decide), h 9 (by decide) (by decide) (by decide), h 10 (by decide) (by decide) (by decide), h 11 (by decide) (by decide) (by decide), h 13 (by decide) (by decide) (by decide), h 14 (by decide) (by decide) (by decide), h 15 (by decide) (by decide) (by decide), h 16 (by decide) (by decide) (by decide), h 17 (by decide) (by decide) (by decide), h 18 (by decide) (by decide) (by decide), h 19 (by decide) (by decide) (by decide)]
theorem leastE {A B : Nat → Nat → Int32} (h : E20 A B) (x : Int32) : fX2_leastRule A x = fX2_leastRule B x := by
  unfold fX2_leastRule
  simp only [suitsE h]
theorem roomE {A B : Nat → Nat → Int32} {V : Nat → Int32} (h : E20 A B) (x r : Int32) : fX2_hasRoom A V x r = fX2_hasRoom B V x r := by
  unfold fX2_hasRoom fX0_hasRoom fX0_sizeOf
  simp only [h 6 (by decide) (by decide) (by decide), h 7 (by decide) (by decide) (by decide), h 8 (by decide) (by decide) (by decide), h 9 (by decide) (by decide) (by decide), h 10 (by decide) (by decide) (by decide), h 11 (by decide) (by decide) (by decide), h 13 (by decide) (by decide) (by decide), h 14 (by decide) (by decide) (by decide), h 15 (by decide) (by decide) (by decide), h 16 (by decide) (by decide) (by decide), h 17 (by decide) (by decide) (by decide), h 18 (by decide) (by decide) (by decide), h 19 (by decide) (by decide) (by decide)]
theorem ugE {A B : Nat → Nat → Int32} (h : E20 A B) (q i : Nat) (y : Int32) : E20 (ug A q i y) (ug B q i y) := by
  intro p h1 h2 h3
  by_cases e : p = q
  · subst e
    funext j
    rw [ug_if2, ug_if2, h p h1 h2 h3]
  · rw [ug_other e, ug_other e]; exact h p h1 h2 h3
theorem writeE {A B : Nat → Nat → Int32} (h : E20 A B) (y k a b m v : Int32) : E20 (fX1_write_G A y k a b m v) (fX1_write_G B y k a b m v) := by
  have e1 : fX1_boundOf A k a b v = fX1_boundOf B k a b v := by unfold fX1_boundOf; simp only [h 6 (by decide) (by decide) (by decide), h 7 (by decide) (by decide) (by decide), h 8 (by decide) (by decide) (by decide), h 9 (by decide) (by decide) (by decide), h 10 (by decide) (by decide) (by decide), h 11 (by decide) (by decide) (by decide), h 13 (by decide) (by decide) (by decide), h 14 (by decide) (by decide) (by decide), h 15 (by decide) (by decide) (by decide), h 16 (by decide) (by decide) (by decide), h 17 (by decide) (by decide) (by decide), h 18 (by decide) (by decide) (by decide), h 19 (by decide) (by decide) (by decide)]
  have e2 : ∀ q, fX1_failsOf (ug A 18 (ix y) q) k a b v = fX1_failsOf (ug B 18 (ix y) q) k a b v := fun q => by
    have h' := ugE h 18 (ix y) q
    unfold fX1_failsOf
    rw [h' 19 (by decide) (by decide) (by decide), h' 11 (by decide) (by decide) (by decide)]
  unfold fX1_write_G
  rw [e1, e2]
  exact ugE (ugE (ugE (ugE (ugE (ugE (ugE h _ _ _) _ _ _) _ _ _) _ _ _) _ _ _) _ _ _) _ _ _
theorem readsE {A B : Nat → Nat → Int32} (h : E20 A B) (k a b : Int32) : fX0_readsOf A k a b = fX0_readsOf B k a b := by unfold fX0_readsOf; rw [h 10 (by decide) (by decide) (by decide)]
theorem flsE {A B : Nat → Nat → Int32} (h : E20 A B) (k a b : Int32) : fX0_failsOf A k a b = fX0_failsOf B k a b := by unfold fX0_failsOf; rw [h 11 (by decide) (by decide) (by decide)]
theorem addE {A B : Nat → Nat → Int32} (h : E20 A B) (V : Nat → Int32) (k a b : Int32) : E20 (fX0_add_G A V k a b) (fX0_add_G B V k a b) ∧ fX0_add A V k a b = fX0_add B V k a b ∧ fX0_add_V A V k a b = fX0_add_V B V k a b := by
  have er : fX0_hasRoom A V k a b = fX0_hasRoom B V k a b := by unfold fX0_hasRoom fX0_sizeOf; simp only [h 6 (by decide) (by decide) (by decide), h 7 (by decide) (by decide) (by decide), h 8 (by decide) (by decide) (by decide), h 9 (by decide) (by decide) (by decide), h 10 (by decide) (by decide) (by decide), h 11 (by decide) (by decide) (by decide), h 13 (by decide) (by decide) (by decide), h 14 (by decide) (by decide) (by decide), h 15 (by decide) (by decide) (by decide), h 16 (by decide) (by decide) (by decide), h 17 (by decide) (by decide) (by decide), h 18 (by decide) (by decide) (by decide), h 19 (by decide) (by decide) (by decide)]
  refine ⟨?_, by unfold fX0_add; rw [er], by unfold fX0_add_V; rw [er]⟩
  by_cases c : fX0_hasRoom B V k a b = 0
  · have c' := er.trans c
    unfold fX0_add_G
    rw [if_pos c, if_pos c']; exact h
  · have c' : ¬ fX0_hasRoom A V k a b = 0 := by rw [er]; exact c
    unfold fX0_add_G
    rw [if_neg c, if_neg c']
    have h3 := ugE (ugE (ugE h 6 (ix (V 0)) k) 7 (ix (V 0)) a) 8 (ix (V 0)) (if fX0_takesSecond k = 0 then 0 else b)
    have es : fX0_sizeOf (ug (ug (ug A 6 (ix (V 0)) k) 7 (ix (V 0)) a) 8 (ix (V 0)) (if fX0_takesSecond k = 0 then 0 else b)) k a b = fX0_sizeOf (ug (ug (ug B 6 (ix (V 0)) k) 7 (ix (V 0)) a) 8 (ix (V 0)) (if fX0_takesSecond k = 0 then 0 else b)) k a b := by
      unfold fX0_sizeOf; rw [h3 9 (by decide) (by decide) (by decide)]
    rw [es]
    have h4 := ugE h3 9 (ix (V 0)) (fX0_sizeOf (ug (ug (ug B 6 (ix (V 0)) k) 7 (ix (V 0)) a) 8 (ix (V 0)) (if fX0_takesSecond k = 0 then 0 else b)) k a b)
    rw [readsE h4]
    have h5 := ugE h4 10 (ix (V 0)) (fX0_readsOf (ug (ug (ug (ug B 6 (ix (V 0)) k) 7 (ix (V 0)) a) 8 (ix (V 0)) (if fX0_takesSecond k = 0 then 0 else b)) 9 (ix (V 0)) (fX0_sizeOf (ug (ug (ug B 6 (ix (V 0)) k) 7 (ix (V 0)) a) 8 (ix (V 0)) (if fX0_takesSecond k = 0 then 0 else b)) k a b)) k a b)
    rw [flsE h5]
    exact ugE h5 11 _ _
theorem likeE {A B : Nat → Nat → Int32} (h : E20 A B) (V : Nat → Int32) (x y : Int32) : E20 (fX2_addLike_G A V x y) (fX2_addLike_G B V x y) := by
  unfold fX2_addLike_G fX1_add_G
  rw [h 13 (by decide) (by decide) (by decide), h 16 (by decide) (by decide) (by decide), h 17 (by decide) (by decide) (by decide)]
  exact writeE h _ _ _ _ _ _
theorem exE {A B : Nat → Nat → Int32} (h : E20 A B) (x c a b : Int32) : E20 (fX2_exchange_G A x c a b) (fX2_exchange_G B x c a b) := by
  unfold fX2_exchange_G
  rw [h 13 (by decide) (by decide) (by decide), h 16 (by decide) (by decide) (by decide), h 17 (by decide) (by decide) (by decide)]
  exact writeE h _ _ _ _ _ _
theorem skE {A B : Nat → Nat → Int32} (h : E20 A B) (x c w : Int32) : E20 (fX2_skip_G A x c w) (fX2_skip_G B x c w) := by
  unfold fX2_skip_G
  rw [h 13 (by decide) (by decide) (by decide), h 14 (by decide) (by decide) (by decide), h 16 (by decide) (by decide) (by decide)]
  exact writeE h _ _ _ _ _ _
theorem waE {A B : Nat → Nat → Int32} (h : E20 A B) (V : Nat → Int32) (x a b : Int32) : E20 (fX2_workAbove_G A V x a b) (fX2_workAbove_G B V x a b) := by
  have h1 : E20 (fX1_add_G A V 5 a b 0 0) (fX1_add_G B V 5 a b 0 0) := writeE h _ _ _ _ _ _
  unfold fX2_workAbove_G
  rw [h1 13 (by decide) (by decide) (by decide), h1 16 (by decide) (by decide) (by decide), h1 17 (by decide) (by decide) (by decide)]
  exact writeE h1 _ _ _ _ _ _
theorem apE {A B : Nat → Nat → Int32} (h : E20 A B) (V : Nat → Int32) (x : Int32) (r : Nat) : E20 (apG A V x r) (apG B V x r) ∧ apV A V x r = apV B V x r := by
  have e14 := h 14 (by decide) (by decide) (by decide)
  have e15 := h 15 (by decide) (by decide) (by decide)
  have e17 := h 17 (by decide) (by decide) (by decide)
  have L1 := fun V y => likeE h V x y
  have al : ∀ (G : Nat → Nat → Int32) (V : Nat → Int32) (y : Int32), fX2_addLike G V x y = V 1 := fun _ _ _ => rfl
  have av : ∀ (G : Nat → Nat → Int32) (V : Nat → Int32) (y : Int32), fX2_addLike_V G V x y = upd V 1 (V 1 + 1) := fun _ _ _ => rfl
  have g1 : E20 (ap1G A V x) (ap1G B V x) := by
    unfold ap1G
    rw [e14]
    have h1 := L1 (upd V 9 (V 9 + 1)) (B 14 (ix (B 14 (ix x))))
    rw [h1 15 (by decide) (by decide) (by decide), al, al]
    exact exE h1 _ _ _ _
  have g3 : E20 (ap3G A V x) (ap3G B V x) := by
    unfold ap3G
    rw [e14, e15, al, al]
    exact exE (L1 (upd V 9 (V 9 + 1)) (B 15 (ix (B 14 (ix x))))) _ _ _ _
  have h1 := L1 (upd V 9 (V 9 + 1)) (B 14 (ix (B 14 (ix x))))
  have g2 := likeE h1 (upd (upd V 9 (V 9 + 1)) 1 ((upd V 9 (V 9 + 1)) 1 + 1)) x ((fX2_addLike_G B (upd V 9 (V 9 + 1)) x (B 14 (ix (B 14 (ix x))))) 15 (ix (B 14 (ix x))))
  have g4 : E20 (ap4G A V x) (ap4G B V x) := by
    unfold ap4G
    simp only [e14, al, av, h1 15 (by decide) (by decide) (by decide)]
    exact exE g2 _ _ _ _
  have g12 : E20 (ap12G A V x) (ap12G B V x) := by
    unfold ap12G
    simp only [e14, al, av, h1 15 (by decide) (by decide) (by decide)]
    exact waE g2 _ _ _ _
  have g7 : E20 (ap7G A V x) (ap7G B V x) := by
    unfold ap7G
    rw [e14, e17]
    obtain ⟨a1, a2, a3⟩ := addE h (upd V 9 (V 9 + 1)) 9 (B 17 (ix (B 14 (ix x)))) (B 17 (ix x))
    rw [a2]
    exact skE a1 _ _ _
  have gS : ∀ w, E20 (apSG A V x w) (apSG B V x w) := fun w => by
    unfold apSG
    rw [e14]
    exact skE h _ _ _
  refine ⟨?_, ?_⟩
  · unfold apG
    rw [e14, e17]
    by_cases c0 : r = 3
    · rw [if_pos c0, if_pos c0]; exact g3
    · rw [if_neg c0, if_neg c0]
      by_cases c1 : r = 4 ∨ r = 11
      · rw [if_pos c1, if_pos c1]; exact g4
      · rw [if_neg c1, if_neg c1]
        by_cases c2 : r = 7
        · rw [if_pos c2, if_pos c2]; exact g7
        · rw [if_neg c2, if_neg c2]
          by_cases c3 : r = 9
          · rw [if_pos c3, if_pos c3]; exact gS _
          · rw [if_neg c3, if_neg c3]
            by_cases c4 : r = 15
            · rw [if_pos c4, if_pos c4]; exact gS _
            · rw [if_neg c4, if_neg c4]
              by_cases c5 : r = 8 ∨ r = 10 ∨ r = 13 ∨ r = 14
              · rw [if_pos c5, if_pos c5]; exact gS _
              · rw [if_neg c5, if_neg c5]
                by_cases c6 : r = 12 ∨ r = 16
                · rw [if_pos c6, if_pos c6]; exact g12
                · rw [if_neg c6, if_neg c6]
                  exact g1
  · have v7 : ap7V A V x = ap7V B V x := by
      unfold ap7V
      rw [e14, e17]
      exact (addE h (upd V 9 (V 9 + 1)) 9 (B 17 (ix (B 14 (ix x)))) (B 17 (ix x))).2.2
    unfold apV ap1V ap3V ap4V ap12V
    simp only [fX2_addLike_V, fX1_add_V, fX2_workAbove_V, v7]
