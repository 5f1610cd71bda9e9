/-! ROWS as lists of six members; a node's rows as a list of them -/
def rd (C : Nat → Int32) (p : Nat) : List Int32 := [C p, C (p + 1), C (p + 2), C (p + 3), C (p + 4), C (p + 5)]
def tb (C : Nat → Int32) (b n : Nat) : List (List Int32) := (List.range n).map (fun i => rd C (b + 6 * i))
theorem tb_0 (C : Nat → Int32) (b : Nat) : tb C b 0 = [] := rfl
theorem tb_succ (C : Nat → Int32) (b n : Nat) : tb C b (n + 1) = tb C b n ++ [rd C (b + 6 * n)] := by
  unfold tb; rw [List.range_succ, List.map_append]; rfl
theorem tb_len (C : Nat → Int32) (b n : Nat) : (tb C b n).length = n := by unfold tb; simp
theorem rd_congr {C D : Nat → Int32} {p q : Nat} (h : ∀ m, m < 6 → C (p + m) = D (q + m)) : rd C p = rd D q := by
  unfold rd
  rw [show C p = D q from h 0 (by omega), h 1 (by omega), h 2 (by omega), h 3 (by omega), h 4 (by omega), h 5 (by omega)]
theorem tb_congr {C D : Nat → Int32} {b c n : Nat} (h : ∀ j, j < 6 * n → C (b + j) = D (c + j)) : tb C b n = tb D c n := by
  unfold tb
  apply List.map_congr_left
  intro i hi
  have hi := List.mem_range.mp hi
  exact rd_congr fun m hm => by
    have := h (6 * i + m) (by omega)
    rw [show b + 6 * i + m = b + (6 * i + m) by omega, show c + 6 * i + m = c + (6 * i + m) by omega]; exact this
theorem rd_get {C : Nat → Int32} {p m : Nat} (hm : m < 6) : (rd C p).getD m 0 = C (p + m) := by
  rcases (show m = 0 ∨ m = 1 ∨ m = 2 ∨ m = 3 ∨ m = 4 ∨ m = 5 by omega) with rfl | rfl | rfl | rfl | rfl | rfl <;> rfl
theorem tb_get {C : Nat → Int32} {b n i : Nat} (h : i < n) : (tb C b n)[i]? = some (rd C (b + 6 * i)) := by
  unfold tb; simp [h]
/-- what a formula is worth reads six members alone -/
theorem evS_congr {FK F1 F2 IT ro ro' : Nat → Int32} {nf : Nat} (hnf : nf ≤ 40) (hW : FW FK F1 F2 nf) (h : ∀ m, m < 6 → ro m = ro' m) : ∀ (d : Nat) (f : Int32) (j : Nat), f = nI j → j < nf → evS FK F1 F2 IT ro d f = evS FK F1 F2 IT ro' d f := by
  intro d
  induction d with
  | zero => intros; rfl
  | succ d ih =>
    intro f j hf hj
    have hij : ix f = j := by rw [hf]; exact ix_nI (by omega)
    obtain ⟨kd, hk1, hk2, hk3, hk4, hk5⟩ := hW j hj
    have eK : FK (ix f) = nI kd := by rw [hij]; exact hk2
    have hz0 : FK (ix f) = 0 → kd = 0 := by
      intro e
      rcases Nat.eq_zero_or_pos kd with q | q
      · exact q
      · exact absurd (eK.symm.trans e) (nI_ne0 q (by omega))
    show (if FK (ix f) = 0 then _ else if FK (ix f) = 1 then _ else _ : Int32 × Int32 × Int32) = (if FK (ix f) = 0 then _ else if FK (ix f) = 1 then _ else _ : Int32 × Int32 × Int32)
    by_cases c0 : FK (ix f) = 0
    · rw [if_pos c0, if_pos c0]
      obtain ⟨m, hm1, hm2⟩ := hk3 (hz0 c0)
      rw [hij, hm2, ix_nI (by omega), h m hm1]
    · rw [if_neg c0, if_neg c0]
      by_cases c1 : FK (ix f) = 1
      · rw [if_pos c1, if_pos c1]
      · rw [if_neg c1, if_neg c1]
        have h2 : 2 ≤ kd := by
          rcases Nat.lt_or_ge kd 2 with q | q
          · rcases (show kd = 0 ∨ kd = 1 by omega) with rfl | rfl
            · exact absurd eK c0
            · exact absurd eK c1
          · exact q
        obtain ⟨x, hx1, hx2⟩ := hk4 h2
        have e1 := ih (F1 (ix f)) x (by rw [hij]; exact hx2) (by omega)
        rw [e1]
        by_cases t : kd ≠ 6 ∧ kd ≠ 11
        · obtain ⟨y, hy1, hy2⟩ := hk5 h2 t.1 t.2
          have e2 := ih (F2 (ix f)) y (by rw [hij]; exact hy2) (by omega)
          rw [e2]
        · have e3 : ∀ p q q', evR IT (FK (ix f)) p q = evR IT (FK (ix f)) p q' := by
            intro p q q'
            unfold evR
            by_cases hp : p.2.1 = 0
            · rw [if_pos hp, if_pos hp]
              by_cases h6 : FK (ix f) = 6
              · rw [if_pos h6, if_pos h6]
              · have h11 : FK (ix f) = 11 := by
                  rcases Nat.decEq kd 11 with q | q
                  · have : kd = 6 := by
                      rcases Nat.decEq kd 6 with q2 | q2
                      · exact absurd ⟨q2, q⟩ t
                      · exact q2
                    exact absurd (by rw [eK, this]; rfl) h6
                  · rw [eK, q]; rfl
                rw [if_neg h6, if_neg h6, if_pos h11, if_pos h11]
            · rw [if_neg hp, if_neg hp]
          rw [e3 _ (evS FK F1 F2 IT ro d (F2 (ix f))) (evS FK F1 F2 IT ro' d (F2 (ix f)))]
/-! THE JOBS, a row of a at a time: rows so far, failure, how many formulas were worked -/
abbrev Ot : Type := List (List Int32) × Int32 × Int32
def ev (F : Nat → Nat → Int32) (v : Int32) (row : List Int32) : Int32 × Int32 × Int32 := evS (F 0) (F 1) (F 2) (F 3) (fun m => row.getD m 0) 40 v
def inS (s : Int32) (m : Nat) : Prop := (s >>> (nI m &&& 31)) &&& 1 = 1
def keepR (s : Int32) (row : List Int32) : List Int32 := (List.range 6).map (fun m => if (s >>> (nI m &&& 31)) &&& 1 = 1 then row.getD m 0 else 0)
def joinR (s : Int32) (row o : List Int32) : List Int32 := (List.range 6).map (fun m => if (s >>> (nI m &&& 31)) &&& 1 = 1 then o.getD m 0 else row.getD m 0)
def joinL (m : Nat) (s : Int32) (row : List Int32) (bs : List (List Int32)) : List (List Int32) := (bs.filter (fun o => o.getD m 0 == row.getD m 0)).map (fun o => joinR s row o)
def foldL (m k : Nat) (row : List Int32) : List (List Int32) → List (List Int32)
  | [] => [((List.replicate 6 (0 : Int32)).set m (row.getD m 0)).set k (0 + row.getD k 0)]
  | o :: os => if o.getD m 0 = row.getD m 0 then o.set k (o.getD k 0 + row.getD k 0) :: os else o :: foldL m k row os
/-- one row more of a: F the formulas and the table, bs the rows of b -/
def tkS (F : Nat → Nat → Int32) (kind m v : Int32) (bs : List (List Int32)) (o : Ot) (i : Nat) (row : List Int32) : Ot :=
  if kind = 1 then ((if (ev F v row).2.1 = 0 ∧ ¬ (ev F v row).1 = 0 then o.1 ++ [row] else o.1), (ev F v row).2.1, o.2.2 + (ev F v row).2.2)
  else if kind = 2 then ((if (ev F v row).2.1 = 0 then o.1 ++ [row.set (ix m) (ev F v row).1] else o.1), (ev F v row).2.1, o.2.2 + (ev F v row).2.2)
  else if kind = 3 then (o.1 ++ [keepR v row], o.2)
  else if kind = 4 then (o.1 ++ joinL (ix m) v row bs, o.2)
  else if kind = 6 then (foldL (ix m) (ix v) row o.1, o.2)
  else if kind = 7 then ((if row ∈ o.1 then o.1 else o.1 ++ [row]), o.2)
  else if kind = 8 then ((if v ≤ nI i then o.1 else o.1 ++ [row]), o.2)
  else (o.1 ++ [row], o.2)
