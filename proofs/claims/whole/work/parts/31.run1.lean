/-! A RUN as a mathematical value: the order of the nodes, and what working them in that order gives -/
abbrev RSt : Type := (Nat → List (List Int32)) × Int32 × Int32 × Int32 × Int32
def jobS (Q : Nat → Nat → Int32) (res : Nat → List (List Int32)) (n : Nat) (c : Int32) : Ot :=
  if Q 4 n = 0 then (srcS (Q 10) (ix (Q 5 n)) (ix (Q 9 (ix (Q 5 n)))), 0, c) else doS Q (Q 4 n) (Q 7 n) (Q 8 n) (res (ix (Q 5 n))) (res (ix (Q 6 n))) c
def wkN (Q : Nat → Nat → Int32) (st : RSt) (n : Nat) : RSt :=
  if st.2.1 = 0 then (va_up st.1 n (jobS Q st.1 n st.2.2.1).1, (jobS Q st.1 n st.2.2.1).2.1, (jobS Q st.1 n st.2.2.1).2.2, st.2.2.2.1 + 1, (if (jobS Q st.1 n st.2.2.1).2.1 = 0 then st.2.2.2.2 else nI n)) else st
def rsL (Q : Nat → Nat → Int32) (D : List Nat) : RSt := D.foldl (wkN Q) (fun _ => [], 0, 0, 0, -1)
def pst (Q : Nat → Nat → Int32) : Nat → Nat → List Nat → List Nat
  | 0, _, D => D
  | d + 1, n, D => if n ∈ D then D else
      (if Q 4 n = 4 ∨ Q 4 n = 5 then pst Q d (ix (Q 6 n)) (if Q 4 n = 0 then D else pst Q d (ix (Q 5 n)) D) else (if Q 4 n = 0 then D else pst Q d (ix (Q 5 n)) D)) ++ [n]
theorem rsL_snoc (Q : Nat → Nat → Int32) (D : List Nat) (n : Nat) : rsL Q (D ++ [n]) = wkN Q (rsL Q D) n := by
  unfold rsL; rw [List.foldl_append]; rfl
theorem rsL_stop {Q : Nat → Nat → Int32} {D : List Nat} (h : ¬ (rsL Q D).2.1 = 0) (E : List Nat) : rsL Q (D ++ E) = rsL Q D := by
  unfold rsL at *
  rw [List.foldl_append]
  generalize List.foldl (wkN Q) (fun _ => [], 0, 0, 0, -1) D = s at *
  induction E with
  | nil => rfl
  | cons n E ih =>
    show List.foldl (wkN Q) (wkN Q s n) E = s
    have : wkN Q s n = s := by unfold wkN; rw [if_neg h]
    rw [this]; exact ih
theorem pst_ext (Q : Nat → Nat → Int32) : ∀ (d n : Nat) (D : List Nat), ∃ E, pst Q d n D = D ++ E := by
  intro d
  induction d with
  | zero => intro n D; exact ⟨[], (List.append_nil D).symm⟩
  | succ d ih =>
    intro n D
    unfold pst
    by_cases h : n ∈ D
    · rw [if_pos h]; exact ⟨[], (List.append_nil D).symm⟩
    · rw [if_neg h]
      have h1 : ∃ E, (if Q 4 n = 0 then D else pst Q d (ix (Q 5 n)) D) = D ++ E := by
        by_cases c : Q 4 n = 0
        · rw [if_pos c]; exact ⟨[], (List.append_nil D).symm⟩
        · rw [if_neg c]; exact ih _ _
      obtain ⟨E1, e1⟩ := h1
      rw [e1]
      by_cases c : Q 4 n = 4 ∨ Q 4 n = 5
      · rw [if_pos c]
        obtain ⟨E2, e2⟩ := ih (ix (Q 6 n)) (D ++ E1)
        rw [e2]; exact ⟨E1 ++ (E2 ++ [n]), by simp⟩
      · rw [if_neg c]; exact ⟨E1 ++ [n], by simp⟩
theorem pst_mem (Q : Nat → Nat → Int32) (d n : Nat) (D : List Nat) : n ∈ pst Q (d + 1) n D := by
  unfold pst
  by_cases h : n ∈ D
  · rw [if_pos h]; exact h
  · rw [if_neg h]; exact List.mem_append_right _ List.mem_cons_self
/-- a plan as told: each node's kind and what it stands on, its bound, its rank -/
def okI (Q : Nat → Nat → Int32) (nn nf : Nat) (bd rk : Nat → Nat) (i kd m aN bN : Nat) : Prop :=
  kd ≤ 8 ∧ Q 4 i = nI kd ∧ m < 6 ∧ Q 7 i = nI m ∧ bd i ≤ 100 ∧ Q 5 i = nI aN ∧ (kd = 0 → aN < 4 ∧ 6 ≤ bd i) ∧ (kd ≠ 0 → aN < nn ∧ rk aN < rk i) ∧ (kd = 4 ∨ kd = 5 → bN < nn ∧ Q 6 i = nI bN ∧ rk bN < rk i) ∧
  (kd = 1 ∨ kd = 2 → ∃ j : Nat, j < nf ∧ Q 8 i = nI j) ∧ (kd = 6 → ∃ q : Nat, q < 6 ∧ q ≠ m ∧ Q 8 i = nI q) ∧ (kd = 8 → ∃ q : Nat, q ≤ 100 ∧ Q 8 i = nI q ∧ (q ≤ bd i ∨ bd aN ≤ bd i)) ∧
  (kd = 4 → bd aN * bd bN ≤ bd i) ∧ (kd = 5 → bd aN + bd bN ≤ bd i) ∧ (kd ≠ 0 → kd ≠ 4 → kd ≠ 5 → kd ≠ 8 → bd aN ≤ bd i)
def okP (Q : Nat → Nat → Int32) (nn nf : Nat) (bd rk : Nat → Nat) : Prop :=
  nn ≤ 60 ∧ nf ≤ 40 ∧ FW (Q 0) (Q 1) (Q 2) nf ∧ (∀ i, i < 4 → ∃ j : Nat, j ≤ 6 ∧ Q 9 i = nI j) ∧ (∀ i, i < nn → rk i < 60) ∧ ∀ i, i < nn → ∃ kd m aN bN, okI Q nn nf bd rk i kd m aN bN
theorem tkL_len {F : Nat → Nat → Int32} {kd lb : Nat} {m v : Int32} {bs : List (List Int32)} (hk1 : 1 ≤ kd) (hk8 : kd ≤ 8) (hb : bs.length = lb) : ∀ (as : List (List Int32)) (i : Nat) (o : Ot), lenOK kd lb i o → (kd = 4 → (tkL F (nI kd) m v bs o i as).1.length ≤ (i + as.length) * lb) ∧ (kd ≠ 4 → (tkL F (nI kd) m v bs o i as).1.length ≤ i + as.length)
  | [], i, o, h => ⟨fun e => h.1 e, fun e => h.2.1 e⟩
  | r :: as, i, o, h => by
    show (kd = 4 → (if o.2.1 = 0 then tkL F (nI kd) m v bs (tkS F (nI kd) m v bs o i r) (i + 1) as else o).1.length ≤ _) ∧ (kd ≠ 4 → (if o.2.1 = 0 then tkL F (nI kd) m v bs (tkS F (nI kd) m v bs o i r) (i + 1) as else o).1.length ≤ _)
    by_cases c : o.2.1 = 0
    · rw [if_pos c]
      have := tkL_len (F := F) (m := m) (v := v) hk1 hk8 hb as (i + 1) (tkS F (nI kd) m v bs o i r) (tkS_len hk1 hk8 hb h c)
      simp only [List.length_cons]
      rw [show i + (as.length + 1) = i + 1 + as.length by omega]
      exact this
    · rw [if_neg c]
      simp only [List.length_cons]
      refine ⟨fun e => Nat.le_trans (h.1 e) (Nat.mul_le_mul_right lb (by omega)), fun e => Nat.le_trans (h.2.1 e) (by omega)⟩
/-- FIRST gives no more than its number -/
theorem tkL_first {F : Nat → Nat → Int32} {m : Int32} {bs : List (List Int32)} {q : Nat} (hq : q ≤ 100) : ∀ (as : List (List Int32)) (i : Nat) (o : Ot), i + as.length ≤ 100 → o.1.length ≤ q → o.1.length ≤ i → (tkL F (nI 8) m (nI q) bs o i as).1.length ≤ q
  | [], i, o, _, h, _ => h
  | r :: as, i, o, hl, h, h2 => by
    show (if o.2.1 = 0 then tkL F (nI 8) m (nI q) bs (tkS F (nI 8) m (nI q) bs o i r) (i + 1) as else o).1.length ≤ q
    simp only [List.length_cons] at hl
    by_cases c : o.2.1 = 0
    · rw [if_pos c]
      have e : tkS F (nI 8) m (nI q) bs o i r = ((if nI q ≤ nI i then o.1 else o.1 ++ [r]), o.2) := by
        unfold tkS; rw [if_neg (by decide), if_neg (by decide), if_neg (by decide), if_neg (by decide), if_neg (by decide), if_neg (by decide), if_pos (by decide)]
      rw [e]
      refine tkL_first hq as (i + 1) _ (by omega) ?_ ?_
      · dsimp only
        by_cases w : nI q ≤ nI i
        · rw [if_pos w]; exact h
        · rw [if_neg w, List.length_append]
          rw [nI_leI (by omega) (by omega)] at w
          show o.1.length + 1 ≤ q
          omega
      · dsimp only
        by_cases w : nI q ≤ nI i
        · rw [if_pos w]; omega
        · rw [if_neg w, List.length_append]
          show o.1.length + 1 ≤ i + 1
          omega
    · rw [if_neg c]; exact h
theorem job_len {Q : Nat → Nat → Int32} {nn nf : Nat} {bd rk : Nat → Nat} {i kd m aN bN : Nat} (h : okI Q nn nf bd rk i kd m aN bN) (hS : ∀ i, i < 4 → ∃ j : Nat, j ≤ 6 ∧ Q 9 i = nI j) (hnn : nn ≤ 60) {res : Nat → List (List Int32)} (hA : kd ≠ 0 → (res aN).length ≤ bd aN ∧ (res aN).length ≤ 100) (hB : kd = 4 ∨ kd = 5 → (res bN).length ≤ bd bN) (c : Int32) : (jobS Q res i c).1.length ≤ bd i := by
  obtain ⟨k8, hk, hm6, hm, hbd, ha, ha0, ha1, hb, hf, hv6, hv8, hj, hu, ho⟩ := h
  unfold jobS
  by_cases c0 : Q 4 i = 0
  · have k0 : kd = 0 := by
      rw [hk, show (0 : Int32) = nI 0 from rfl, nI_eq (by omega) (by omega)] at c0; exact c0
    obtain ⟨a4, b6⟩ := ha0 k0
    obtain ⟨j, hj6, hj⟩ := hS aN a4
    rw [if_pos c0, ha, ix_nI (by omega), hj, ix_nI (by omega)]
    unfold srcS; simp; omega
  · have k0 : kd ≠ 0 := fun e => c0 (by rw [hk, e]; rfl)
    have aL := (ha1 k0).1
    obtain ⟨lA, lA2⟩ := hA k0
    rw [if_neg c0, hk, ha, ix_nI (by omega)]
    unfold doS
    have base : lenOK kd (res (ix (Q 6 i))).length 0 (([], 0, c) : Ot) := ⟨fun _ => Nat.zero_le _, fun _ => Nat.le_refl 0, fun _ _ => rfl⟩
    have L := tkL_len (F := Q) (m := Q 7 i) (v := Q 8 i) (Nat.one_le_iff_ne_zero.mpr k0) k8 rfl (res aN) 0 ([], 0, c) base
    rw [Nat.zero_add] at L
    by_cases k5 : kd = 5
    · obtain ⟨b1, b2, b3⟩ := hb (Or.inr k5)
      have lB := hB (Or.inr k5)
      have := hu k5
      have l1 := L.2 (by omega)
      rw [if_pos (by rw [k5]; rfl)]
      dsimp only
      rw [List.length_append, b2, ix_nI (by omega)]
      rw [b2, ix_nI (by omega)] at l1
      omega
    · rw [if_neg (fun e => k5 (by rw [show (5 : Int32) = nI 5 from rfl, nI_eq (by omega) (by omega)] at e; exact e))]
      by_cases k4 : kd = 4
      · obtain ⟨b1, b2, b3⟩ := hb (Or.inl k4)
        have lB := hB (Or.inl k4)
        have l1 := L.1 k4
        rw [b2, ix_nI (by omega)] at l1 ⊢
        exact Nat.le_trans (Nat.le_trans l1 (Nat.mul_le_mul lA lB)) (hj k4)
      · have l1 := L.2 k4
        by_cases k8' : kd = 8
        · obtain ⟨q, q1, q2, q3⟩ := hv8 k8'
          rcases q3 with q3 | q3
          · subst k8'
            rw [q2]
            refine Nat.le_trans (tkL_first q1 (res aN) 0 _ (by omega) (Nat.zero_le _) (Nat.le_refl 0)) q3
          · omega
        · have := ho k0 k4 k5 k8'
          omega
