/-! BOTH SIDES, a call at a time -/
def LST (G : Nat → Nat → Int32) (V : Nat → Int32) (n : Nat) (H : Nat → Nat → Int32) (U : Nat → Int32) : Prop :=
  V 5 = U 8 ∧ V 6 = U 9 ∧ V 7 = U 10 ∧ V 8 = U 11 ∧ ∃ r : Nat, r ≤ 100 ∧ V 4 = nI r ∧ U 7 = nI r ∧ (0 < r → ∃ st : Nat, V 3 = nI st ∧ st + 6 * r ≤ n ∧ tb (G 24) st r = tb (H 24) 0 r)
def SIM (G : Nat → Nat → Int32) (V : Nat → Int32) (n : Nat) (H : Nat → Nat → Int32) (U : Nat → Int32) : Prop := SIMP G V H U ∧ LST G V n H U ∧ gch n
theorem LST.to {G G' H H' : Nat → Nat → Int32} {V V' U U' : Nat → Int32} {n : Nat} (h : LST G V n H U) (g : G' 24 = G 24) (e : H' 24 = H 24) (v : ∀ j, j ≠ 0 → j ≠ 1 → j ≠ 2 → j ≠ 9 → V' j = V j) (u : ∀ j, 7 ≤ j → U' j = U j) : LST G' V' n H' U' := by
  unfold LST
  rw [g, e, v 5 (by decide) (by decide) (by decide) (by decide), v 6 (by decide) (by decide) (by decide) (by decide), v 7 (by decide) (by decide) (by decide) (by decide), v 8 (by decide) (by decide) (by decide) (by decide), v 4 (by decide) (by decide) (by decide) (by decide), v 3 (by decide) (by decide) (by decide) (by decide), u 7 (by decide), u 8 (by decide), u 9 (by decide), u 10 (by decide), u 11 (by decide)]
  exact h
def BTH (l : Launch) (k : Kt) (ad am : Nat → Nat) (G : Nat → Nat → Int32) (V : Nat → Int32) (n : Nat) (H : Nat → Nat → Int32) (U : Nat → Int32) (yC : MethodName) (cC : ByteArray) (mC : Nat) (yM : MethodName) (cM : ByteArray) (mM : Nat) (As : List Value) : Prop :=
  ∃ (A : Int32) (u dC dM : Nat) (PC PM : Option Value → va_W → Prop), dC ≤ 90 ∧ dM ≤ 90 ∧ CT l k yC cC mC (some .int) dC (.ref (ad 0) :: As) (WC k ad G V n) PC (kc n u) (ks n u) ∧ CT l k yM cM mM (some .int) dM (.ref (am 0) :: As) (WM k am H U) PM 0 0 ∧
    ∀ (v : Option Value) (w' : va_W) (v2 : Option Value) (w2 : va_W), PC v w' → PM v2 w2 → v = some (.int A) ∧ v2 = some (.int A) ∧ ∃ (ad' : Nat → Nat) (G' : Nat → Nat → Int32) (V' : Nat → Int32) (n' : Nat) (H' : Nat → Nat → Int32) (U' : Nat → Int32), w' = WC k ad' G' V' n' ∧ w2 = WM k am H' U' ∧ ad' 0 = ad 0 ∧ SIM G' V' n' H' U' ∧ n' = gw n u
section TOP
variable {l : Launch} {k : Kt} {ad am : Nat → Nat} {G : Nat → Nat → Int32} {V : Nat → Int32} {n : Nat} {H : Nat → Nat → Int32} {U : Nat → Int32}
theorem bth_of {yC : MethodName} {cC : ByteArray} {mC : Nat} {yM : MethodName} {cM : ByteArray} {mM : Nat} {As : List Value} {A : Int32} {G' : Nat → Nat → Int32} {V' : Nat → Int32} {H' : Nat → Nat → Int32} {U' : Nat → Int32} {dC dM : Nat} (hd : dC ≤ 90) (he : dM ≤ 90) (hC : CT l k yC cC mC (some .int) dC (.ref (ad 0) :: As) (WC k ad G V n) (eqI A (WC k ad G' V' n)) 0 0) (hM : CT l k yM cM mM (some .int) dM (.ref (am 0) :: As) (WM k am H U) (eqI A (WM k am H' U')) 0 0) (S : SIM G' V' n H' U') : BTH l k ad am G V n H U yC cC mC yM cM mM As := by
  have hg := S.2.2
  refine ⟨A, 0, dC, dM, eqI A (WC k ad G' V' n), eqI A (WM k am H' U'), hd, he, by rw [kc_0 hg (Nat.zero_le _), ks_0 hg (Nat.zero_le _)]; exact hC, hM, fun v w' v2 w2 h1 h2 => ⟨h1.1, h2.1, ad, G', V', n, H', U', h1.2, h2.2, rfl, S, (gw_id hg (Nat.zero_le _)).symm⟩⟩
theorem SIMP.src {G' H' : Nat → Nat → Int32} (S : SIMP G V H U) (hg : ∀ p, p ≠ 2 → p ≠ 3 → p ≠ 4 → G' p = G p) (hh : ∀ p, p ≠ 1 → p ≠ 2 → p ≠ 3 → H' p = H p) (s1 : ∀ i, i < 4 → G' 3 i = H' 1 i) (s2 : ∀ i, i < 72 → G' 2 i = H' 2 i) (s3 : ∀ i, i < 8 → G' 4 i = H' 3 i) (s4 : ∀ i, i < 4 → ∃ j : Nat, j ≤ 6 ∧ G' 3 i = nI j) : SIMP G' V H' U := by
  obtain ⟨nn, nf, bd, rk, ⟨p1, p2, p3, p4, p5, p6, p7⟩, ⟨a1, a2, a3, a4, a5⟩, u⟩ := S
  have g : ∀ p, 4 < p → G' p = G p := fun p hp => hg p (by omega) (by omega) (by omega)
  have h : ∀ p, 3 < p → H' p = H p := fun p hp => hh p (by omega) (by omega) (by omega)
  refine ⟨nn, nf, bd, rk, ⟨p1, p2, p3, p4, ?_, s4, fun i hi => ?_⟩, ⟨s1, s2, s3, ?_, ?_⟩, u⟩
  · unfold fmO
    rw [g 6 (by decide), g 7 (by decide), g 8 (by decide), g 9 (by decide), g 11 (by decide)]; exact p5
  · obtain ⟨k, a, b, m, v, q⟩ := p7 i hi
    refine ⟨k, a, b, m, v, ?_⟩
    unfold ndO ndE at *
    have e : fX1_failsOf G' (nI k) (nI a) (nI b) (nI v) = fX1_failsOf G (nI k) (nI a) (nI b) (nI v) := by unfold fX1_failsOf; rw [g 19 (by decide), g 11 (by decide)]
    rw [g 13 (by decide), g 14 (by decide), g 15 (by decide), g 16 (by decide), g 17 (by decide), g 18 (by decide), g 19 (by decide), e]; exact q
  · rw [g 6 (by decide), g 7 (by decide), g 8 (by decide), g 9 (by decide), g 10 (by decide), g 11 (by decide), h 4 (by decide), h 5 (by decide), h 6 (by decide), h 7 (by decide), h 8 (by decide), h 9 (by decide)]; exact a4
  · rw [g 13 (by decide), g 14 (by decide), g 15 (by decide), g 16 (by decide), g 17 (by decide), h 10 (by decide), h 11 (by decide), h 12 (by decide), h 13 (by decide), h 14 (by decide)]; exact a5
theorem SIM.facts (S : SIM G V n H U) : (∀ i, i < 4 → G 3 i = H 1 i ∧ ∃ j : Nat, j ≤ 6 ∧ G 3 i = nI j) ∧ (∀ i, i < 72 → G 2 i = H 2 i) ∧ (∀ i, i < 8 → G 4 i = H 3 i) := by
  obtain ⟨⟨nn, nf, bd, rk, p, a, -⟩, -⟩ := S
  exact ⟨fun i hi => ⟨a.1 i hi, p.2.2.2.2.2.1 i hi⟩, a.2.1, a.2.2.1⟩
theorem in3 (x : Int32) : (∃ j : Nat, j < 4 ∧ x = nI j ∧ fX4_has x = 1 ∧ fX6_in x.toInt64 0 3 = 1) ∨ (fX4_has x = 0 ∧ fX6_in x.toInt64 0 3 = 0) := by
  have e : fX6_in x.toInt64 0 3 = (if x < 0 then 0 else if nI 3 < x then 0 else 1) := in_iff (m := 3) (by decide)
  rw [e]; unfold fX4_has
  rcases pk_ix x (n := 4) (by decide) with w | w | ⟨j, hj, rfl⟩
  · right; rw [if_pos w, if_pos w]; exact ⟨rfl, rfl⟩
  · right
    have n0 : ¬ x < 0 := fun q => by
      have := Int32.lt_iff_toInt_lt.mp q; have := Int32.le_iff_toInt_le.mp w
      have e4 : (nI 4).toInt = 4 := rfl
      have e0 : (0 : Int32).toInt = 0 := rfl
      omega
    have n3 : nI 3 < x := by
      rw [Int32.lt_iff_toInt_lt]; have := Int32.le_iff_toInt_le.mp w
      have e4 : (nI 4).toInt = 4 := rfl
      have e3 : (nI 3).toInt = 3 := rfl
      omega
    rw [if_neg n0, if_neg n0, if_pos (show 4 ≤ x from w), if_pos n3]; exact ⟨rfl, rfl⟩
  · left
    have n0 : ¬ nI j < 0 := nI_pos (by omega)
    refine ⟨j, hj, rfl, ?_, ?_⟩
    · rw [if_neg n0, if_neg (show ¬ (4 : Int32) ≤ nI j from nI_ge (b := 4) hj (by decide))]
    · rw [if_neg n0, if_neg (nI_nlt (by omega) (by decide))]
theorem in7 (x : Int32) : (∃ j : Nat, j < 8 ∧ x = nI j ∧ fX4_hasItem x = 1 ∧ fX6_in x.toInt64 0 7 = 1) ∨ (fX4_hasItem x = 0 ∧ fX6_in x.toInt64 0 7 = 0) := by
  have e : fX6_in x.toInt64 0 7 = (if x < 0 then 0 else if nI 7 < x then 0 else 1) := in_iff (m := 7) (by decide)
  rw [e]; unfold fX4_hasItem
  rcases pk_ix x (n := 8) (by decide) with w | w | ⟨j, hj, rfl⟩
  · right; rw [if_pos w, if_pos w]; exact ⟨rfl, rfl⟩
  · right
    have n0 : ¬ x < 0 := fun q => by
      have := Int32.lt_iff_toInt_lt.mp q; have := Int32.le_iff_toInt_le.mp w
      have e4 : (nI 8).toInt = 8 := rfl
      have e0 : (0 : Int32).toInt = 0 := rfl
      omega
    have n3 : nI 7 < x := by
      rw [Int32.lt_iff_toInt_lt]; have := Int32.le_iff_toInt_le.mp w
      have e4 : (nI 8).toInt = 8 := rfl
      have e3 : (nI 7).toInt = 7 := rfl
      omega
    rw [if_neg n0, if_neg n0, if_pos (show 8 ≤ x from w), if_pos n3]; exact ⟨rfl, rfl⟩
  · left
    have n0 : ¬ nI j < 0 := nI_pos (by omega)
    refine ⟨j, hj, rfl, ?_, ?_⟩
    · rw [if_neg n0, if_neg (show ¬ (8 : Int32) ≤ nI j from nI_ge (b := 8) hj (by decide))]
    · rw [if_neg n0, if_neg (nI_nlt (by omega) (by decide))]
theorem b_clear (S : SIM G V n H U) (x : Int32) : BTH l k ad am G V n H U yX5_clear cX5_clear 2 yX6_clear cX6_clear 3 [.int x] := by
  obtain ⟨f1, f2, f3⟩ := S.facts
  have hM := c_X6_clear (l := l) (k := k) (ad := am) (G := H) (V := U) x
  have hC := c_X5_clear (l := l) (k := k) (ad := ad) (G := G) (V := V) (n := n) x
  rcases in3 x with ⟨j, hj, rfl, e1, e2⟩ | ⟨e1, e2⟩
  · have a1 : fX5_clear G (nI j) = fX6_clear H (nI j) := by
      unfold fX5_clear fX6_clear fX4_empty; rw [e1, e2, if_neg (by decide), if_neg (by decide), ix_nI (by omega)]; exact (f1 j hj).1
    rw [← a1] at hM
    refine bth_of (by decide) (by decide) hC hM ?_
    have g : fX5_clear_G G (nI j) = ug G 3 j 0 := by unfold fX5_clear_G fX4_empty_G; rw [e1, if_neg (by decide), ix_nI (by omega)]
    have h : fX6_clear_G H (nI j) = ug H 1 j 0 := by unfold fX6_clear_G; rw [e2, if_neg (by decide), ix_nI (by omega)]
    rw [g, h]
    refine ⟨S.1.src (fun p _ h3 _ => ug_other h3) (fun p h1 _ _ => ug_other h1) (fun i hi => ?_) (fun i hi => ?_) (fun i hi => ?_) (fun i hi => ?_), S.2.1.to (ug_other (by decide)) (ug_other (by decide)) (fun _ _ _ _ _ => rfl) (fun _ _ => rfl), S.2.2⟩
    · rw [ug_if2, ug_if2, (f1 i hi).1]
    · rw [ug_p (by decide), ug_p (by decide)]; exact f2 i hi
    · rw [ug_p (by decide), ug_p (by decide)]; exact f3 i hi
    · rw [ug_if2]
      by_cases e : i = j
      · rw [if_pos e]; exact ⟨0, by omega, rfl⟩
      · rw [if_neg e]; exact (f1 i hi).2
  · have a1 : fX5_clear G x = fX6_clear H x := by unfold fX5_clear fX6_clear; rw [e1, e2, if_pos rfl, if_pos rfl]
    rw [← a1] at hM
    refine bth_of (by decide) (by decide) hC hM ?_
    have g : fX5_clear_G G x = G := by unfold fX5_clear_G; rw [e1, if_pos rfl]
    have h : fX6_clear_G H x = H := by unfold fX6_clear_G; rw [e2, if_pos rfl]
    rw [g, h]; exact S
theorem b_table (S : SIM G V n H U) (x v : Int32) : BTH l k ad am G V n H U yX5_table cX5_table 3 yX6_table cX6_table 3 [.int x, .int v] := by
  obtain ⟨f1, f2, f3⟩ := S.facts
  have hM := c_X6_table (l := l) (k := k) (ad := am) (G := H) (V := U) x v
  have hC := c_X5_table (l := l) (k := k) (ad := ad) (G := G) (V := V) (n := n) x v
  rcases in7 x with ⟨j, hj, rfl, e1, e2⟩ | ⟨e1, e2⟩
  · have a1 : fX5_table G (nI j) v = fX6_table H (nI j) v := by
      unfold fX5_table fX6_table; rw [e1, e2]
    rw [← a1] at hM
    refine bth_of (by decide) (by decide) hC hM ?_
    have g : fX5_table_G G (nI j) v = ug G 4 j v := by unfold fX5_table_G; rw [e1, if_neg (by decide), ix_nI (by omega)]
    have h : fX6_table_G H (nI j) v = ug H 3 j v := by unfold fX6_table_G; rw [e2, if_neg (by decide), ix_nI (by omega)]
    rw [g, h]
    refine ⟨S.1.src (fun p _ _ h4 => ug_other h4) (fun p _ _ h3 => ug_other h3) (fun i hi => ?_) (fun i hi => ?_) (fun i hi => ?_) (fun i hi => ?_), S.2.1.to (ug_other (by decide)) (ug_other (by decide)) (fun _ _ _ _ _ => rfl) (fun _ _ => rfl), S.2.2⟩
    · rw [ug_p (by decide), ug_p (by decide)]; exact (f1 i hi).1
    · rw [ug_p (by decide), ug_p (by decide)]; exact f2 i hi
    · rw [ug_if2, ug_if2, f3 i hi]
    · rw [ug_p (by decide)]; exact (f1 i hi).2
  · have a1 : fX5_table G x v = fX6_table H x v := by unfold fX5_table fX6_table; rw [e1, e2]
    rw [← a1] at hM
    refine bth_of (by decide) (by decide) hC hM ?_
    have g : fX5_table_G G x v = G := by unfold fX5_table_G; rw [e1, if_pos rfl]
    have h : fX6_table_G H x v = H := by unfold fX6_table_G; rw [e2, if_pos rfl]
    rw [g, h]; exact S
set_option maxHeartbeats 800000 in
theorem b_row (S : SIM G V n H U) (x a b c : Int32) : BTH l k ad am G V n H U yX5_row cX5_row 5 yX6_row cX6_row 6 [.int x, .int a, .int b, .int c] := by
  obtain ⟨f1, f2, f3⟩ := S.facts
  have hM := c_X6_row (l := l) (k := k) (ad := am) (G := H) (V := U) x a b c (fun i hi => by rw [← (f1 i hi).1]; exact (f1 i hi).2)
  have hC := c_X5_row (l := l) (k := k) (ad := ad) (G := G) (V := V) (n := n) x a b c (fun i hi => (f1 i hi).2)
  rcases in3 x with ⟨j, hj, rfl, e1, e2⟩ | ⟨e1, e2⟩
  · obtain ⟨e0, s, hs, es⟩ := f1 j hj
    have ej : ix (nI j) = j := ix_nI (by omega)
    have h1 : H 1 (ix (nI j)) = nI s := by rw [ej, ← e0, es]
    have g3 : G 3 (ix (nI j)) = nI s := by rw [ej, es]
    by_cases c6 : s = 6
    · subst c6
      have a1 : fX5_row G (nI j) a b c = fX6_row H (nI j) a b c := by
        unfold fX5_row fX6_row fX4_add; rw [e1, e2, if_neg (show ¬ (1 : Int32) = 0 by decide), if_neg (show ¬ (1 : Int32) = 0 by decide), g3, h1, if_neg (show ¬ nI 6 < 6 by decide), if_pos (show (nI 6 : Int32) = 6 by decide)]
      have g : fX5_row_G G (nI j) a b c = G := by unfold fX5_row_G fX4_add_G; rw [e1, if_neg (show ¬ (1 : Int32) = 0 by decide), g3, if_neg (show ¬ nI 6 < 6 by decide)]
      have h : fX6_row_G H (nI j) a b c = H := by unfold fX6_row_G; rw [e2, if_neg (show ¬ (1 : Int32) = 0 by decide), h1, if_pos (show (nI 6 : Int32) = 6 by decide)]
      rw [← a1, h] at hM
      rw [g] at hC
      exact bth_of (by decide) (by decide) hC hM S
    · have l6 : nI s < 6 := nI_lt (b := 6) (by omega) (by decide)
      have n6 : ¬ nI s = 6 := fun w => c6 ((nI_eq (b := 6) (by omega) (by decide)).mp w)
      have cell : ∀ t : Nat, t < 3 → fX4_cellOf (nI j) (nI s) + nI t = nI (18 * j + 3 * s + t) := fun t ht => by
        unfold fX4_cellOf
        rw [show (6 : Int32) = nI 6 from rfl, show (3 : Int32) = nI 3 from rfl, pk_mul, nI_add, pk_mul, nI_add]; congr 1; omega
      have cel : ∀ t : Nat, t < 3 → 18 * nI j + 3 * nI s + nI t = nI (18 * j + 3 * s + t) := fun t ht => by
        rw [show (18 : Int32) = nI 18 from rfl, show (3 : Int32) = nI 3 from rfl, pk_mul, pk_mul, nI_add, nI_add]
      have c0 : ix (fX4_cellOf (nI j) (nI s)) = 18 * j + 3 * s := by
        have := cell 0 (by omega)
        rw [show nI 0 = 0 from rfl, Int32.add_zero] at this; rw [this, Nat.add_zero]; exact ix_nI (by omega)
      have c1 : ix (fX4_cellOf (nI j) (nI s) + 1) = 18 * j + 3 * s + 1 := by rw [show fX4_cellOf (nI j) (nI s) + 1 = _ from cell 1 (by omega)]; exact ix_nI (by omega)
      have c2 : ix (fX4_cellOf (nI j) (nI s) + 2) = 18 * j + 3 * s + 2 := by rw [show fX4_cellOf (nI j) (nI s) + 2 = _ from cell 2 (by omega)]; exact ix_nI (by omega)
      have d0 : ix (18 * nI j + 3 * nI s) = 18 * j + 3 * s := by
        have := cel 0 (by omega)
        rw [show nI 0 = 0 from rfl, Int32.add_zero] at this; rw [this, Nat.add_zero]; exact ix_nI (by omega)
      have d1 : ix (18 * nI j + 3 * nI s + 1) = 18 * j + 3 * s + 1 := by rw [show 18 * nI j + 3 * nI s + 1 = _ from cel 1 (by omega)]; exact ix_nI (by omega)
      have d2 : ix (18 * nI j + 3 * nI s + 2) = 18 * j + 3 * s + 2 := by rw [show 18 * nI j + 3 * nI s + 2 = _ from cel 2 (by omega)]; exact ix_nI (by omega)
      have g : fX5_row_G G (nI j) a b c = ug (ug (ug (ug G 2 (18 * j + 3 * s) a) 2 (18 * j + 3 * s + 1) b) 2 (18 * j + 3 * s + 2) c) 3 j (nI (s + 1)) := by
        unfold fX5_row_G fX4_add_G
        rw [e1, if_neg (show ¬ (1 : Int32) = 0 by decide), g3, if_pos l6, c0, c1, c2, ug_p (by decide), ug_p (by decide), ug_p (by decide), g3, nI_1, ej]
      have h : fX6_row_G H (nI j) a b c = ug (ug (ug (ug H 2 (18 * j + 3 * s) a) 2 (18 * j + 3 * s + 1) b) 2 (18 * j + 3 * s + 2) c) 1 j (nI (s + 1)) := by
        unfold fX6_row_G
        rw [e2, if_neg (show ¬ (1 : Int32) = 0 by decide), h1, if_neg n6, d0, d1, d2, ug_p (by decide), ug_p (by decide), ug_p (by decide), h1, nI_1, ej]
      have a1 : fX5_row G (nI j) a b c = nI (s + 1) := by
        unfold fX5_row fX4_add
        rw [e1, if_neg (show ¬ (1 : Int32) = 0 by decide), g3, if_pos l6, ug_same, ug_p (by decide), ug_p (by decide), ug_p (by decide), g3, nI_1]
      have a2 : fX6_row H (nI j) a b c = nI (s + 1) := by
        unfold fX6_row
        rw [e2, if_neg (show ¬ (1 : Int32) = 0 by decide), h1, if_neg n6, ug_same, ug_p (by decide), ug_p (by decide), ug_p (by decide), h1, nI_1]
      rw [a2, h] at hM
      rw [a1, g] at hC
      refine bth_of (by decide) (by decide) hC hM ⟨S.1.src (fun p h2 h3 _ => by rw [ug_other h3, ug_other h2, ug_other h2, ug_other h2]) (fun p h1 h2 _ => by rw [ug_other h1, ug_other h2, ug_other h2, ug_other h2]) (fun i hi => ?_) (fun i hi => ?_) (fun i hi => ?_) (fun i hi => ?_), S.2.1.to (by rw [ug_other (by decide), ug_other (by decide), ug_other (by decide), ug_other (by decide)]) (by rw [ug_other (by decide), ug_other (by decide), ug_other (by decide), ug_other (by decide)]) (fun _ _ _ _ _ => rfl) (fun _ _ => rfl), S.2.2⟩
      · rw [ug_if2, ug_if2, ug_p (by decide), ug_p (by decide), ug_p (by decide), ug_p (by decide), ug_p (by decide), ug_p (by decide), (f1 i hi).1]
      · rw [ug_p (show (2 : Nat) ≠ 3 by decide), ug_p (show (2 : Nat) ≠ 1 by decide), ug_if2, ug_if2, ug_if2, ug_if2, ug_if2, ug_if2, f2 i hi]
      · rw [ug_p (by decide), ug_p (by decide), ug_p (by decide), ug_p (by decide), ug_p (by decide), ug_p (by decide), ug_p (by decide), ug_p (by decide)]; exact f3 i hi
      · rw [ug_if2, ug_p (by decide), ug_p (by decide), ug_p (by decide)]
        by_cases e : i = j
        · rw [if_pos e]; exact ⟨s + 1, by omega, rfl⟩
        · rw [if_neg e]; exact (f1 i hi).2
  · have a1 : fX5_row G x a b c = fX6_row H x a b c := by unfold fX5_row fX6_row; rw [e1, e2, if_pos rfl, if_pos rfl]
    have g : fX5_row_G G x a b c = G := by unfold fX5_row_G; rw [e1, if_pos rfl]
    have h : fX6_row_G H x a b c = H := by unfold fX6_row_G; rw [e2, if_pos rfl]
    rw [← a1, h] at hM
    rw [g] at hC
    exact bth_of (by decide) (by decide) hC hM S
theorem b_worked (S : SIM G V n H U) (x : Int32) : BTH l k ad am G V n H U yX5_worked cX5_worked 2 yX6_worked cX6_worked 2 [.int x] := by
  have hM := c_X6_worked (l := l) (k := k) (ad := am) (G := H) (V := U) x
  have hC := c_X5_worked (l := l) (k := k) (ad := ad) (G := G) (V := V) (n := n) x
  obtain ⟨e5, e6, e7, e8, -⟩ := S.2.1
  have a1 : fX5_worked V x = fX6_worked U x := by unfold fX5_worked fX6_worked; rw [e5, e6, e7, e8]
  rw [← a1] at hM
  exact bth_of (by decide) (by decide) hC hM S
theorem b_count (S : SIM G V n H U) (x : Int32) : BTH l k ad am G V n H U yX5_count cX5_count 2 yX6_count cX6_count 2 [.int x] := by
  have hM := c_X6_count (l := l) (k := k) (ad := am) (G := H) (V := U) x
  have hC := c_X5_count (l := l) (k := k) (ad := ad) (G := G) (V := V) (n := n) x
  obtain ⟨f1, -, -⟩ := S.facts
  obtain ⟨nn, nf, bd, rk, p, a, u0, u1, u2⟩ := S.1
  have a1 : fX5_count G V x = fX6_count H U x := by
    unfold fX5_count fX6_count fX4_total
    rw [u0, u1, u2, p.2.2.1, p.2.2.2.1, show ix 0 = 0 from rfl, show ix 1 = 1 from rfl, show ix 2 = 2 from rfl, show ix 3 = 3 from rfl, (f1 0 (by decide)).1, (f1 1 (by decide)).1, (f1 2 (by decide)).1, (f1 3 (by decide)).1, Int32.zero_add]
  rw [← a1] at hM
  exact bth_of (by decide) (by decide) hC hM S
end TOP
