/-! what a formula is worth: value, failure, how many were worked -/
def evV (kind x y : Int32) : Int32 := fX3_valueOfPair (fun _ => 0) kind x y
def evR (IT : Nat → Int32) (kind : Int32) (p q : Int32 × Int32 × Int32) : Int32 × Int32 × Int32 :=
  if p.2.1 = 0 then
    (if kind = 6 then (if fX4_hasItem p.1 = 0 then (0, 2, p.2.2) else (IT (ix p.1), 0, p.2.2))
    else if kind = 11 then ((if p.1 = 0 then 1 else 0), 0, p.2.2)
    else if kind = 9 ∧ p.1 = 0 then (0, 0, p.2.2)
    else if kind = 10 ∧ ¬ p.1 = 0 then (1, 0, p.2.2)
    else if q.2.1 = 0 then (evV kind p.1 q.1, (if kind = 5 ∧ q.1 = 0 then 1 else 0), p.2.2 + q.2.2)
    else (0, q.2.1, p.2.2 + q.2.2))
  else (0, p.2.1, p.2.2)
def evS (FK F1 F2 IT ro : Nat → Int32) : Nat → Int32 → Int32 × Int32 × Int32
  | 0, _ => (0, 0, 0)
  | d + 1, f => if FK (ix f) = 0 then (ro (ix (F1 (ix f))), 0, 1) else if FK (ix f) = 1 then (F1 (ix f), 0, 1) else
      ((evR IT (FK (ix f)) (evS FK F1 F2 IT ro d (F1 (ix f))) (evS FK F1 F2 IT ro d (F2 (ix f)))).1,
       (evR IT (FK (ix f)) (evS FK F1 F2 IT ro d (F1 (ix f))) (evS FK F1 F2 IT ro d (F2 (ix f)))).2.1,
       1 + (evR IT (FK (ix f)) (evS FK F1 F2 IT ro d (F1 (ix f))) (evS FK F1 F2 IT ro d (F2 (ix f)))).2.2)
theorem VE_VE (V : Nat → Int32) (p q : Int32 × Int32) : VE (VE V p) q = VE V (q.1, p.2 + q.2) := by
  funext j
  unfold VE upd
  by_cases h6 : j = 6
  · subst h6; simp [Int32.add_assoc]
  · by_cases h5 : j = 5
    · subst h5; simp
    · simp [h5, h6]
theorem VE_put (V : Nat → Int32) (p : Int32 × Int32) (x : Int32) : upd (VE V p) 5 x = VE V (x, p.2) := by
  funext j
  unfold VE upd
  by_cases h6 : j = 6
  · subst h6; simp
  · by_cases h5 : j = 5
    · subst h5; simp
    · simp [h5, h6]
theorem VE_one {V : Nat → Int32} (h : V 5 = 0) : upd V 6 (V 6 + 1) = VE V (0, 1) := by
  funext j
  unfold VE upd
  by_cases h6 : j = 6
  · subst h6; simp
  · by_cases h5 : j = 5
    · subst h5; simp [h]
    · simp [h5, h6]
theorem VE_at (V : Nat → Int32) (p q : Int32 × Int32) (h : p = q) : VE V p = VE V q := by rw [h]
theorem evPair_V (V : Nat → Int32) (p : Int32 × Int32) (kind x y : Int32) (hp : p.1 = 0) : fX3_valueOfPair_V (VE V p) kind x y = VE V ((if kind = 5 ∧ y = 0 then 1 else 0), p.2) := by
  have hp2 : p = (0, p.2) := Prod.ext hp rfl
  unfold fX3_valueOfPair_V
  by_cases h5 : kind = 5
  · have h2 : ¬ kind = 2 := by rw [h5]; decide
    have h3 : ¬ kind = 3 := by rw [h5]; decide
    have h4 : ¬ kind = 4 := by rw [h5]; decide
    by_cases hy : y = 0
    · simp only [eq_true h5, eq_false h2, eq_false h3, eq_false h4, eq_true hy, true_and, and_true, false_and, and_false, not_true_eq_false, not_false_eq_true, if_true, if_false, ↓reduceIte]
      exact VE_put V p 1
    · simp only [eq_true h5, eq_false h2, eq_false h3, eq_false h4, eq_false hy, true_and, and_true, false_and, and_false, not_true_eq_false, not_false_eq_true, if_true, if_false, ↓reduceIte]
      exact VE_at _ _ _ hp2
  · simp only [eq_false h5, true_and, and_true, false_and, and_false, not_true_eq_false, not_false_eq_true, if_true, if_false, ↓reduceIte, ite_self]
    exact VE_at _ _ _ hp2
theorem evParts {G : Nat → Nat → Int32} {V : Nat → Int32} (p q : Int32 × Int32 × Int32) (kind a b row : Int32) : fX3_valueOfParts G V p q kind a b row = (evR (G 4) kind p q).1 ∧ fX3_valueOfParts_V G V p q kind a b row = VE V (evR (G 4) kind p q).2 := by
  unfold fX3_valueOfParts fX3_valueOfParts_V evR evV
  by_cases h0 : p.2.1 = 0
  · have hp2 : p.2 = (0, p.2.2) := Prod.ext h0 rfl
    have hq1 : ∀ h : q.2.1 = 0, fX3_valueOfPair_V (VE (VE V p.2) q.2) kind p.1 q.1 = VE V ((if kind = 5 ∧ q.1 = 0 then 1 else 0), p.2.2 + q.2.2) := fun h => by
      rw [VE_VE]; exact evPair_V V (q.2.1, p.2.2 + q.2.2) kind p.1 q.1 h
    have hq0 : VE (VE V p.2) q.2 = VE V (q.2.1, p.2.2 + q.2.2) := VE_VE V p.2 q.2
    by_cases h6 : kind = 6
    · by_cases hi : fX4_hasItem p.1 = 0
      · simp only [fX3_itemAt, fX3_itemAt_V, eq_true h0, eq_true h6, eq_true hi, true_and, and_true, false_and, and_false, not_true_eq_false, not_false_eq_true, if_true, if_false, ↓reduceIte]
        exact VE_put V p.2 2
      · simp only [fX3_itemAt, fX3_itemAt_V, eq_true h0, eq_true h6, eq_false hi, true_and, and_true, false_and, and_false, not_true_eq_false, not_false_eq_true, if_true, if_false, ↓reduceIte]
        exact VE_at _ _ _ hp2
    · by_cases h11 : kind = 11
      · simp only [eq_true h0, eq_false h6, eq_true h11, true_and, and_true, false_and, and_false, not_true_eq_false, not_false_eq_true, if_true, if_false, ↓reduceIte]
        exact VE_at _ _ _ hp2
      · by_cases h9 : kind = 9
        · have h10 : ¬ kind = 10 := by rw [h9]; decide
          by_cases hp : p.1 = 0
          · simp only [eq_true h0, eq_false h6, eq_false h11, eq_true h9, eq_true hp, true_and, and_true, false_and, and_false, not_true_eq_false, not_false_eq_true, if_true, if_false, ↓reduceIte]
            exact VE_at _ _ _ hp2
          · by_cases hq : q.2.1 = 0
            · simp only [eq_true h0, eq_false h6, eq_false h11, eq_true h9, eq_false h10, eq_false hp, eq_true hq, true_and, and_true, false_and, and_false, not_true_eq_false, not_false_eq_true, if_true, if_false, ↓reduceIte]
              exact ⟨rfl, hq1 hq⟩
            · simp only [eq_true h0, eq_false h6, eq_false h11, eq_true h9, eq_false h10, eq_false hp, eq_false hq, true_and, and_true, false_and, and_false, not_true_eq_false, not_false_eq_true, if_true, if_false, ↓reduceIte]
              exact hq0
        · by_cases h10 : kind = 10
          · by_cases hp : p.1 = 0
            · by_cases hq : q.2.1 = 0
              · simp only [eq_true h0, eq_false h6, eq_false h11, eq_false h9, eq_true h10, eq_true hp, eq_true hq, true_and, and_true, false_and, and_false, not_true_eq_false, not_false_eq_true, if_true, if_false, ↓reduceIte]
                exact ⟨rfl, hq1 hq⟩
              · simp only [eq_true h0, eq_false h6, eq_false h11, eq_false h9, eq_true h10, eq_true hp, eq_false hq, true_and, and_true, false_and, and_false, not_true_eq_false, not_false_eq_true, if_true, if_false, ↓reduceIte]
                exact hq0
            · simp only [eq_true h0, eq_false h6, eq_false h11, eq_false h9, eq_true h10, eq_false hp, true_and, and_true, false_and, and_false, not_true_eq_false, not_false_eq_true, if_true, if_false, ↓reduceIte]
              exact VE_at _ _ _ hp2
          · by_cases hq : q.2.1 = 0
            · simp only [eq_true h0, eq_false h6, eq_false h11, eq_false h9, eq_false h10, eq_true hq, true_and, and_true, false_and, and_false, not_true_eq_false, not_false_eq_true, if_true, if_false, ↓reduceIte]
              exact ⟨rfl, hq1 hq⟩
            · simp only [eq_true h0, eq_false h6, eq_false h11, eq_false h9, eq_false h10, eq_false hq, true_and, and_true, false_and, and_false, not_true_eq_false, not_false_eq_true, if_true, if_false, ↓reduceIte]
              exact hq0
  · simp only [eq_false h0, true_and, and_true, false_and, and_false, not_true_eq_false, not_false_eq_true, if_true, if_false, ↓reduceIte]
/-- formulas as told: what stands below one was told before it -/
def FW (FK F1 F2 : Nat → Int32) (nf : Nat) : Prop := ∀ i : Nat, i < nf → ∃ kd : Nat, kd < 12 ∧ FK i = nI kd ∧ (kd = 0 → ∃ m : Nat, m < 6 ∧ F1 i = nI m) ∧ (2 ≤ kd → ∃ a : Nat, a < i ∧ F1 i = nI a) ∧ (2 ≤ kd → kd ≠ 6 → kd ≠ 11 → ∃ b : Nat, b < i ∧ F2 i = nI b)
theorem ix_nI {j : Nat} (h : j < 2 ^ 31) : ix (nI j) = j := nI_clamp h
set_option maxHeartbeats 800000 in
theorem c_valueOf {l : Launch} {k : Kt} {ad : Nat → Nat} {G : Nat → Nat → Int32} {n nf : Nat} (hnf : nf ≤ 40) (hW : FW (G 6) (G 7) (G 8) nf) {row : Int32} {r : Nat} (hr : row = nI r) (hrn : r + 6 ≤ n) (hn : n < 2 ^ 31) :
    ∀ (d : Nat) (V : Nat → Int32) (f : Int32) (j : Nat), f = nI j → j < nf → j < d → V 5 = 0 → CT l k yX3_valueOf cX3_valueOf 4 (some .int) (2 * d + 2) [.ref (ad 23), .int f, .int row] (WC k ad G V n) (eqI (evS (G 6) (G 7) (G 8) (G 4) (fun m => G 24 (r + m)) d f).1 (WC k ad G (VE V (evS (G 6) (G 7) (G 8) (G 4) (fun m => G 24 (r + m)) d f).2) n)) 0 0 := by
  intro d
  induction d with
  | zero => intro V f j _ _ h; exact absurd h (Nat.not_lt_zero _)
  | succ d ih =>
    intro V f j hf hj hjd h5
    have hij : ix f = j := by rw [hf]; exact ix_nI (by omega)
    obtain ⟨kd, hk1, hk2, hk3, hk4, hk5⟩ := hW j hj
    have hG6 : G 6 (ix f) = nI kd := by rw [hij]; exact hk2
    let rr := evR (G 4) (G 6 (ix f)) (evS (G 6) (G 7) (G 8) (G 4) (fun m => G 24 (r + m)) d (G 7 (ix f))) (evS (G 6) (G 7) (G 8) (G 4) (fun m => G 24 (r + m)) d (G 8 (ix f)))
    have hk0 : ¬ G 6 (ix f) = 0 → ¬ G 6 (ix f) = 1 → 2 ≤ kd := by
      intro a b
      rcases Nat.lt_or_ge kd 2 with q | q
      · rcases (show kd = 0 ∨ kd = 1 by omega) with rfl | rfl
        · exact absurd hG6 a
        · exact absurd hG6 b
      · exact q
    have h51 : upd V 6 (V 6 + 1) 5 = 0 := h5
    have hP : ¬ G 6 (ix f) = 0 → ¬ G 6 (ix f) = 1 → CT l k yX3_valueOfParts cX3_valueOfParts 7 (some .int) (2 * d + 3) [.ref (ad 23), .int (G 6 (ix f)), .int (G 7 (ix f)), .int (G 8 (ix f)), .int row] (WC k ad G (upd V 6 (V 6 + 1)) n) (eqI rr.1 (WC k ad G (VE (upd V 6 (V 6 + 1)) rr.2) n)) 0 0 := by
      intro a b
      have h2 := hk0 a b
      obtain ⟨x, hx1, hx2⟩ := hk4 h2
      have hA := ih (upd V 6 (V 6 + 1)) (G 7 (ix f)) x (by rw [hij]; exact hx2) (by omega) (by omega) h51
      have h := c_X3_valueOfParts (l := l) (k := k) (ad := ad) (G := G) (V := upd V 6 (V 6 + 1)) (n := n) (evS (G 6) (G 7) (G 8) (G 4) (fun m => G 24 (r + m)) d (G 7 (ix f))) (evS (G 6) (G 7) (G 8) (G 4) (fun m => G 24 (r + m)) d (G 8 (ix f))) (d := d) (G 6 (ix f)) (G 7 (ix f)) (G 8 (ix f)) row hA (fun hp n6 n11 => by
        obtain ⟨y, hy1, hy2⟩ := hk5 h2 (fun e => n6 (by rw [hG6, e]; rfl)) (fun e => n11 (by rw [hG6, e]; rfl))
        exact ih _ (G 8 (ix f)) y (by rw [hij]; exact hy2) (by omega) (by omega) hp)
      rw [(evParts _ _ _ _ _ _).1, (evParts _ _ _ _ _ _).2] at h
      exact h
    have h := c_X3_valueOf (l := l) (k := k) (ad := ad) (G := G) (V := V) (n := n) rr (d := d) f row (by rw [hf]; exact vp_in_nI (by omega) (by omega)) (fun e => by
      have h0 : kd = 0 := by
        rcases Nat.eq_zero_or_pos kd with q | q
        · exact q
        · exact absurd (hG6.symm.trans e) (nI_ne0 q (by omega))
      obtain ⟨m, hm1, hm2⟩ := hk3 h0
      rw [hij, hm2, hr, nI_add]
      exact vp_in_nI (by omega) hn) hP
    have eR : fX3_valueOf G V rr f row = (evS (G 6) (G 7) (G 8) (G 4) (fun m => G 24 (r + m)) (d + 1) f).1 := by
      unfold fX3_valueOf
      show _ = (if G 6 (ix f) = 0 then _ else if G 6 (ix f) = 1 then _ else _ : Int32 × Int32 × Int32).1
      by_cases c0 : G 6 (ix f) = 0
      · rw [if_pos c0, if_pos c0]
        have h0 : kd = 0 := by
          rcases Nat.eq_zero_or_pos kd with q | q
          · exact q
          · exact absurd (hG6.symm.trans c0) (nI_ne0 q (by omega))
        obtain ⟨m, hm1, hm2⟩ := hk3 h0
        show G 24 (ix (row + G 7 (ix f))) = G 24 (r + ix (G 7 (ix f)))
        rw [hij, hm2, hr, nI_add, ix_nI (by omega), ix_nI (by omega)]
      · rw [if_neg c0, if_neg c0]
        by_cases c1 : G 6 (ix f) = 1
        · rw [if_pos c1, if_pos c1]
        · rw [if_neg c1, if_neg c1]
    have eV : fX3_valueOf_V G V rr f row = VE V (evS (G 6) (G 7) (G 8) (G 4) (fun m => G 24 (r + m)) (d + 1) f).2 := by
      unfold fX3_valueOf_V
      show _ = VE V (if G 6 (ix f) = 0 then _ else if G 6 (ix f) = 1 then _ else _ : Int32 × Int32 × Int32).2
      by_cases c0 : G 6 (ix f) = 0
      · rw [if_pos c0, if_pos c0]; exact VE_one h5
      · rw [if_neg c0, if_neg c0]
        by_cases c1 : G 6 (ix f) = 1
        · rw [if_pos c1, if_pos c1]; exact VE_one h5
        · rw [if_neg c1, if_neg c1, VE_one h5, VE_VE]
    rw [eR, eV] at h
    exact h
