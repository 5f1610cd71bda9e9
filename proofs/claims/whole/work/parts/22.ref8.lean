/-- the reference while it does node n: what is kept of the start, the rows so far -/
def stM (G0 : Nat → Nat → Int32) (V0 : Nat → Int32) (n : Nat) (G : Nat → Nat → Int32) (V : Nat → Int32) (o : Ot) : Prop :=
  (∀ p, p ≠ 17 → p ≠ 18 → p ≠ 19 → p ≠ 20 → p ≠ 21 → G p = G0 p) ∧ (∀ i, i ≠ n → G 21 i = G0 21 i) ∧ G 21 n = nI o.1.length ∧ (∀ j, j < 600 * n ∨ 600 * n + 600 ≤ j → G 20 j = G0 20 j) ∧ o.1 = tb (G 20) (600 * n) o.1.length ∧ V 5 = o.2.1 ∧ V 6 = o.2.2 ∧ ∀ j, j ≠ 3 → j ≠ 4 → j ≠ 5 → j ≠ 6 → V j = V0 j
theorem place_n {n i : Nat} (hn : n < 60) (hi : i < 100) : fX6_place (nI n) (nI i) = nI (600 * n + 6 * i) := by
  unfold fX6_place; rw [show (600 : Int32) = nI 600 from rfl, show (6 : Int32) = nI 6 from rfl, pk_mul, pk_mul, nI_add]
theorem stM.to {G0 : Nat → Nat → Int32} {V0 : Nat → Int32} {n : Nat} {G : Nat → Nat → Int32} {V : Nat → Int32} {o : Ot} (h : stM G0 V0 n G V o) {x : Int32} (hx : x = nI n) (hn : n < 60) (hl : o.1.length < 100) : ∃ a : Nat, fX6_place x (G 21 (ix x)) = nI a ∧ a + 6 ≤ 36000 ∧ 36000 < 2 ^ 31 := by
  refine ⟨600 * n + 6 * o.1.length, ?_, by omega, by decide⟩
  rw [hx, ix_nI (by omega), h.2.2.1]; exact place_n hn hl
theorem stM.add {G0 : Nat → Nat → Int32} {V0 : Nat → Int32} {n : Nat} {G : Nat → Nat → Int32} {V : Nat → Int32} {o : Ot} (h : stM G0 V0 n G V o) {x y : Int32} {a : Nat} (hx : x = nI n) (hn : n < 60) (hy : y = nI a) (ha : a + 6 ≤ 36000) (hap : a + 6 ≤ 600 * n ∨ 600 * n + 600 ≤ a) (hl : o.1.length < 100) : stM G0 V0 n (fX6_add_G G x y) V (o.1 ++ [rd (G0 20) a], o.2) := by
  obtain ⟨h1, h2, h3, h4, h5, h6, h7, h8⟩ := h
  have ex : ix x = n := by rw [hx]; exact ix_nI (by omega)
  have ep : fX6_place x (G 21 (ix x)) = nI (600 * n + 6 * o.1.length) := by rw [ex, h3, hx]; exact place_n hn hl
  obtain ⟨c1, c2⟩ := copy_spec (G := G) hy ep ha (by omega) (by omega)
  have e21 : fX6_copy_G G y (fX6_place x (G 21 (ix x))) 21 = G 21 := c1 21 (by decide)
  unfold fX6_add_G
  rw [ex] at *
  refine ⟨fun p p1 p2 p3 p4 p5 => ?_, fun i hi => ?_, ?_, fun j hj => ?_, ?_, h6, h7, h8⟩
  · rw [ug_other p5, c1 p p4]; exact h1 p p1 p2 p3 p4 p5
  · rw [ug_i hi, e21]; exact h2 i hi
  · rw [ug_same, e21, h3, nI_1, List.length_append]; rfl
  · rw [ug_p (by decide), c2]; unfold cpF; rw [if_neg (by omega)]; exact h4 j hj
  · rw [ug_other (by decide), c2, List.length_append]
    show o.1 ++ [rd (G0 20) a] = tb _ _ (o.1.length + 1)
    rw [tb_succ]
    congr 1
    · refine h5.trans (tb_congr fun j hj => ?_)
      unfold cpF
      rw [if_neg (by omega)]
    · congr 1
      refine rd_congr fun m hm => ?_
      unfold cpF
      rw [if_pos (by omega), show a + (600 * n + 6 * o.1.length + m - (600 * n + 6 * o.1.length)) = a + m by omega]
      exact (h4 (a + m) (by omega)).symm
theorem rd_set {C : Nat → Int32} {p m : Nat} {y : Int32} (hm : m < 6) : rd (fun j => if j = p + m then y else C j) p = (rd C p).set m y := by
  rcases (show m = 0 ∨ m = 1 ∨ m = 2 ∨ m = 3 ∨ m = 4 ∨ m = 5 by omega) with rfl | rfl | rfl | rfl | rfl | rfl <;> simp [rd]
/-- one member of the last row -/
theorem stM.put {G0 : Nat → Nat → Int32} {V0 : Nat → Int32} {n : Nat} {G : Nat → Nat → Int32} {V : Nat → Int32} {os : List (List Int32)} {r : List Int32} {e : Int32 × Int32} (h : stM G0 V0 n G V (os ++ [r], e)) {m q : Nat} {y : Int32} (hm : m < 6) (hq : q = 600 * n + 6 * os.length + m) (hl : os.length < 100) : stM G0 V0 n (ug G 20 q y) V (os ++ [r.set m y], e) := by
  obtain ⟨h1, h2, h3, h4, h5, h6, h7, h8⟩ := h
  have eL : (os ++ [r]).length = os.length + 1 := by rw [List.length_append]; rfl
  have eL2 : (os ++ [r.set m y]).length = os.length + 1 := by rw [List.length_append]; rfl
  dsimp only at h3 h5
  rw [eL, tb_succ] at h5
  have h5a : os = tb (G 20) (600 * n) os.length := (List.append_inj h5 (by rw [tb_len])).1
  have h5b : r = rd (G 20) (600 * n + 6 * os.length) := by
    have := (List.append_inj h5 (by rw [tb_len])).2
    simpa using this
  refine ⟨fun p p1 p2 p3 p4 p5 => ?_, fun i hi => ?_, ?_, fun j hj => ?_, ?_, h6, h7, h8⟩
  · rw [ug_other p4]; exact h1 p p1 p2 p3 p4 p5
  · rw [ug_p (by decide)]; exact h2 i hi
  · dsimp only; rw [ug_p (by decide), h3, eL, eL2]
  · rw [ug_i (by omega)]; exact h4 j hj
  · dsimp only
    rw [eL2, tb_succ]
    congr 1
    · refine h5a.trans (tb_congr fun j hj => ?_)
      rw [ug_i (by omega)]
    · congr 1
      have : ug G 20 q y 20 = fun j => if j = 600 * n + 6 * os.length + m then y else G 20 j := by
        funext j; rw [ug_if2, hq]
      rw [this, rd_set hm, ← h5b]
