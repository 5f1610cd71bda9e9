theorem ite01 {p : Prop} [Decidable p] : (if p then 1 else 0 : Nat) ≤ 1 := by split <;> decide
def ownF (G : Nat → Nat → Int32) (i : Nat) : Int32 := if G 10 i = 1 then (if G 8 (ix (G 14 i)) = 0 then 0 else 1) else (if G 10 i = 2 then (if G 8 (ix (G 14 i)) = 0 then 0 else 1) else 0)
/-- a node's bound and whether it may fail, as what stands below it gives them -/
def lkN (G0 : Nat → Nat → Int32) (nn : Nat) (bd fl : Nat → Int32) (rk : Nat → Nat) (i kd aN bN : Nat) : Prop :=
  kd ≤ 8 ∧ G0 10 i = nI kd ∧ (kd ≠ 0 → aN < nn ∧ G0 11 i = nI aN ∧ rk aN < rk i) ∧ (kd = 4 ∨ kd = 5 → bN < nn ∧ G0 12 i = nI bN ∧ rk bN < rk i) ∧ (kd = 1 ∨ kd = 2 → vp_in (G0 14 i) 40) ∧
  (¬ bd i = -1) ∧ bd i = fX6_bound (va_up G0 15 bd) (nI i) ∧ (fl i = 0 ∨ fl i = 1) ∧ (ownF G0 i = 1 → fl i = 1) ∧ (kd ≠ 0 → fl aN = 1 → fl i = 1) ∧ (kd = 4 ∨ kd = 5 → fl bN = 1 → fl i = 1) ∧ (fl i = 1 → ownF G0 i = 1 ∨ (kd ≠ 0 ∧ fl aN = 1) ∨ ((kd = 4 ∨ kd = 5) ∧ fl bN = 1))
def lkP (G0 : Nat → Nat → Int32) (nn : Nat) (bd fl : Nat → Int32) (rk : Nat → Nat) : Prop := nn ≤ 60 ∧ ∀ i, i < nn → ∃ kd aN bN, lkN G0 nn bd fl rk i kd aN bN
def lkI (G0 : Nat → Nat → Int32) (nn : Nat) (bd fl : Nat → Int32) (G : Nat → Nat → Int32) : Prop :=
  (∀ p, p ≠ 15 → p ≠ 16 → G p = G0 p) ∧ ∀ i, i < nn → (G 15 i = -1 ∨ G 15 i = bd i) ∧ (G 16 i = 0 ∨ G 16 i = 1) ∧ (ownF G0 i = 1 → G 16 i = 1) ∧ (G 16 i = 1 → fl i = 1)
/-- what isn't settled yet -/
def phR (G : Nat → Nat → Int32) : Nat → Nat
  | 0 => 0
  | n + 1 => phR G n + ((if G 15 n = -1 then 1 else 0) + (if G 16 n = 0 then 1 else 0))
theorem phR_le {G G' : Nat → Nat → Int32} : ∀ n, (∀ i, i < n → ((if G' 15 i = -1 then 1 else 0) + (if G' 16 i = 0 then 1 else 0) : Nat) ≤ (if G 15 i = -1 then 1 else 0) + (if G 16 i = 0 then 1 else 0)) → phR G' n ≤ phR G n
  | 0, _ => Nat.le_refl 0
  | n + 1, h => by
    have h1 := phR_le n (fun i hi => h i (by omega))
    have h2 := h n (by omega)
    show phR G' n + _ ≤ phR G n + _
    omega
theorem phR_lt {G G' : Nat → Nat → Int32} : ∀ n, (∀ i, i < n → ((if G' 15 i = -1 then 1 else 0) + (if G' 16 i = 0 then 1 else 0) : Nat) ≤ (if G 15 i = -1 then 1 else 0) + (if G 16 i = 0 then 1 else 0)) → (∃ j, j < n ∧ ((if G' 15 j = -1 then 1 else 0) + (if G' 16 j = 0 then 1 else 0) : Nat) < (if G 15 j = -1 then 1 else 0) + (if G 16 j = 0 then 1 else 0)) → phR G' n < phR G n
  | 0, _, h => by obtain ⟨j, hj, -⟩ := h; exact absurd hj (Nat.not_lt_zero _)
  | n + 1, h, hx => by
    have h2 := h n (by omega)
    show phR G' n + _ < phR G n + _
    obtain ⟨j, hj, hlt⟩ := hx
    rcases Nat.lt_or_ge j n with q | q
    · have h1 := phR_lt n (fun i hi => h i (by omega)) ⟨j, q, hlt⟩
      omega
    · have e : j = n := by omega
      subst e
      have h1 := phR_le (G := G) (G' := G') j (fun i hi => h i (by omega))
      omega
/-- a bound reads the bounds of a and b alone -/
theorem bound_eq {G H : Nat → Nat → Int32} {i kd aN bN : Nat} (hi : i < 60) (k8 : kd ≤ 8) (h10 : G 10 i = nI kd) (h11 : kd ≠ 0 → G 11 i = nI aN ∧ aN < 60) (h12 : kd = 4 ∨ kd = 5 → G 12 i = nI bN ∧ bN < 60) (e10 : H 10 i = G 10 i) (e11 : H 11 i = G 11 i) (e12 : H 12 i = G 12 i) (e14 : H 14 i = G 14 i) (eA : kd ≠ 0 → H 15 aN = G 15 aN) (eB : kd = 4 ∨ kd = 5 → H 15 bN = G 15 bN) : fX6_bound H (nI i) = fX6_bound G (nI i) := by
  have ii : ix (nI i) = i := ix_nI (by omega)
  have kz : nI kd = 0 ↔ kd = 0 := by rw [show (0 : Int32) = nI 0 from rfl, nI_eq (by omega) (by omega)]
  have a1 : (if H 10 (ix (nI i)) = 0 then 6 else (H 15 (ix (H 11 (ix (nI i)))) : Int32)) = (if G 10 (ix (nI i)) = 0 then 6 else (G 15 (ix (G 11 (ix (nI i)))))) := by
    rw [ii, e10, e11, h10]
    by_cases c : kd = 0
    · rw [if_pos (kz.mpr c), if_pos (kz.mpr c)]
    · rw [if_neg (fun e => c (kz.mp e)), if_neg (fun e => c (kz.mp e)), (h11 c).1, ix_nI (by have := (h11 c).2; omega)]; exact eA c
  have a2 : (if fX6_isTwo (H 10 (ix (nI i))) = 0 then 0 else (H 15 (ix (H 12 (ix (nI i)))) : Int32)) = (if fX6_isTwo (G 10 (ix (nI i))) = 0 then 0 else (G 15 (ix (G 12 (ix (nI i)))))) := by
    rw [ii, e10, e12, h10]
    by_cases c : fX6_isTwo (nI kd) = 0
    · rw [if_pos c, if_pos c]
    · have c' := (isTwo_n k8).mp c
      rw [if_neg c, if_neg c, (h12 c').1, ix_nI (by have := (h12 c').2; omega)]; exact eB c'
  unfold fX6_bound
  rw [a1, a2, ii, e10, e14]
/-- a bound that is known rests on bounds that are known -/
theorem bound_ne {G : Nat → Nat → Int32} {i kd aN bN : Nat} (hi : i < 60) (k8 : kd ≤ 8) (h10 : G 10 i = nI kd) (h11 : kd ≠ 0 → G 11 i = nI aN ∧ aN < 60) (h12 : kd = 4 ∨ kd = 5 → G 12 i = nI bN ∧ bN < 60) (h : ¬ fX6_bound G (nI i) = -1) : (kd ≠ 0 → ¬ G 15 aN = -1) ∧ (kd = 4 ∨ kd = 5 → ¬ G 15 bN = -1) := by
  have ii : ix (nI i) = i := ix_nI (by omega)
  have kz : nI kd = 0 ↔ kd = 0 := by rw [show (0 : Int32) = nI 0 from rfl, nI_eq (by omega) (by omega)]
  unfold fX6_bound at h
  rw [ii, h10] at h
  refine ⟨fun c e => ?_, fun c e => ?_⟩
  · rw [if_neg (show ¬ nI kd = 0 from fun w => c (kz.mp w)), (h11 c).1, ix_nI (by have := (h11 c).2; omega), e, if_pos rfl] at h
    exact h rfl
  · have c' := (isTwo_n k8).mpr c
    by_cases w : (if nI kd = 0 then 6 else (G 15 (ix (G 11 i))) : Int32) = (-1)
    · rw [if_pos w] at h; exact h rfl
    · rw [if_neg w, if_neg c', (h12 c).1, ix_nI (by have := (h12 c).2; omega), e, if_pos rfl] at h
      exact h rfl
theorem ug_id {G : Nat → Nat → Int32} {p i : Nat} : ug G p i (G p i) = G := by
  funext a b; rw [ug_if]
  by_cases h : a = p ∧ b = i
  · rw [if_pos h, h.1, h.2]
  · rw [if_neg h]
set_option maxHeartbeats 1600000 in
/-- one node looked at -/
theorem lk_step {G0 : Nat → Nat → Int32} {nn : Nat} {bd fl : Nat → Int32} {rk : Nat → Nat} (hP : lkP G0 nn bd fl rk) {G G1 G2 : Nat → Nat → Int32} {j : Nat} (hj : j < nn) (hI : lkI G0 nn bd fl G) (e1 : G1 = ug G 15 j (if lkB G (nI j) = (-1) then (G 15 j) else (lkB G (nI j)))) (e2 : G2 = ug G1 16 j (if G1 16 j = 0 then (if lkW G (nI j) = 0 then 0 else 1) else 1)) :
    lkI G0 nn bd fl G2 ∧ phR G2 nn ≤ phR G nn ∧ (lkB G (nI j) = (-1) → lkW G (nI j) = 0 → G2 = G) ∧ (¬ lkB G (nI j) = (-1) ∨ ¬ lkW G (nI j) = 0 → phR G2 nn < phR G nn) := by
  obtain ⟨h60, hall⟩ := hP
  obtain ⟨kd, aN, bN, k8, h10, h11, h12, hv, b1, b2, f01, f1, f2, f3, f4⟩ := hall j hj
  obtain ⟨g1, g2⟩ := hI
  have jj : ix (nI j) = j := ix_nI (by omega)
  have q10 : G 10 j = nI kd := by rw [g1 10 (by decide) (by decide)]; exact h10
  have q11 : kd ≠ 0 → G 11 j = nI aN ∧ aN < 60 := fun c => ⟨by rw [g1 11 (by decide) (by decide)]; exact (h11 c).2.1, by have := (h11 c).1; omega⟩
  have q12 : kd = 4 ∨ kd = 5 → G 12 j = nI bN ∧ bN < 60 := fun c => ⟨by rw [g1 12 (by decide) (by decide)]; exact (h12 c).2.1, by have := (h12 c).1; omega⟩
  have kz : nI kd = 0 ↔ kd = 0 := by rw [show (0 : Int32) = nI 0 from rfl, nI_eq (by omega) (by omega)]
  have e16 : G1 16 j = G 16 j := by rw [e1, ug_p (by decide)]
  -- a bound that comes is the bound
  have hB : ¬ lkB G (nI j) = (-1) → G 15 j = -1 ∧ lkB G (nI j) = bd j := by
    intro c
    unfold lkB at c ⊢
    rw [jj] at c ⊢
    by_cases w : G 15 j = -1
    · rw [if_pos w] at c ⊢
      refine ⟨w, ?_⟩
      obtain ⟨n1, n2⟩ := bound_ne (by omega) k8 q10 q11 q12 c
      rw [b2]
      refine (bound_eq (G := G) (H := va_up G0 15 bd) (by omega) k8 q10 q11 q12 ?_ ?_ ?_ ?_ ?_ ?_).symm
      · rw [va_up_ne _ _ (by decide), g1 10 (by decide) (by decide)]
      · rw [va_up_ne _ _ (by decide), g1 11 (by decide) (by decide)]
      · rw [va_up_ne _ _ (by decide), g1 12 (by decide) (by decide)]
      · rw [va_up_ne _ _ (by decide), g1 14 (by decide) (by decide)]
      · intro c0; rw [va_up_self]; exact ((g2 aN (h11 c0).1).1.resolve_left (n1 c0)).symm
      · intro c0; rw [va_up_self]; exact ((g2 bN (h12 c0).1).1.resolve_left (n2 c0)).symm
    · rw [if_neg w] at c; exact absurd rfl c
  have hWf : ¬ lkW G (nI j) = 0 → G 16 j = 0 ∧ fl j = 1 := by
    intro c
    unfold lkW at c
    rw [jj, q10] at c
    by_cases w : G 16 j = 0
    · refine ⟨w, ?_⟩
      rw [if_pos w] at c
      have two : ¬ (if fX6_isTwo (nI kd) = 0 then 0 else (if G 16 (ix (G 12 j)) = 0 then 0 else 1) : Int32) = 0 → fl j = 1 := by
        intro t
        by_cases u : fX6_isTwo (nI kd) = 0
        · rw [if_pos u] at t; exact absurd rfl t
        · have u' := (isTwo_n k8).mp u
          rw [if_neg u, (q12 u').1, ix_nI (by have := (q12 u').2; omega)] at t
          by_cases s : G 16 bN = 0
          · rw [if_pos s] at t; exact absurd rfl t
          · exact f3 u' ((g2 bN (h12 u').1).2.2.2 ((g2 bN (h12 u').1).2.1.resolve_left s))
      by_cases k0 : kd = 0
      · rw [if_pos (kz.mpr k0)] at c; exact two c
      · rw [if_neg (fun e => k0 (kz.mp e)), (q11 k0).1, ix_nI (by have := (q11 k0).2; omega)] at c
        by_cases s : G 16 aN = 0
        · rw [if_pos s] at c; exact two c
        · exact f2 k0 ((g2 aN (h11 k0).1).2.2.2 ((g2 aN (h11 k0).1).2.1.resolve_left s))
    · rw [if_neg w] at c; exact absurd rfl c
  have G2_15 : ∀ i, G2 15 i = if i = j then (if lkB G (nI j) = (-1) then G 15 j else lkB G (nI j)) else G 15 i := fun i => by rw [e2, ug_p (by decide), e1, ug_if2]
  have G2_16 : ∀ i, G2 16 i = if i = j then (if G 16 j = 0 then (if lkW G (nI j) = 0 then 0 else 1) else 1) else G 16 i := fun i => by rw [e2, ug_if2, e16, e1, ug_p (by decide)]
  have gj := g2 j hj
  have hle : ∀ i, i < nn → ((if G2 15 i = -1 then 1 else 0) + (if G2 16 i = 0 then 1 else 0) : Nat) ≤ (if G 15 i = -1 then 1 else 0) + (if G 16 i = 0 then 1 else 0) := by
    intro i hi
    by_cases e : i = j
    · subst e
      rw [G2_15, G2_16, if_pos rfl, if_pos rfl]
      have l1 : ((if (if lkB G (nI i) = (-1) then G 15 i else lkB G (nI i)) = -1 then 1 else 0) : Nat) ≤ (if G 15 i = -1 then 1 else 0) := by
        by_cases c : lkB G (nI i) = (-1)
        · rw [if_pos c]; exact Nat.le_refl _
        · rw [if_neg c, if_neg c]; exact Nat.zero_le _
      have l2 : ((if (if G 16 i = 0 then (if lkW G (nI i) = 0 then 0 else 1) else 1 : Int32) = 0 then 1 else 0) : Nat) ≤ (if G 16 i = 0 then 1 else 0) := by
        by_cases c : G 16 i = 0
        · rw [if_pos c, if_pos c]; exact ite01
        · rw [if_neg c, if_neg c, if_neg (by decide)]; exact Nat.le_refl _
      omega
    · rw [G2_15, G2_16, if_neg e, if_neg e]; exact Nat.le_refl _
  refine ⟨⟨fun p p1 p2 => ?_, fun i hi => ?_⟩, phR_le nn hle, fun cB cW => ?_, fun c => phR_lt nn hle ⟨j, hj, ?_⟩⟩
  · rw [e2, ug_other p2, e1, ug_other p1]; exact g1 p p1 p2
  · by_cases e : i = j
    · subst e
      rw [G2_15, G2_16, if_pos rfl, if_pos rfl]
      refine ⟨?_, ?_, fun o => ?_, fun o => ?_⟩
      · by_cases c : lkB G (nI i) = (-1)
        · rw [if_pos c]; exact gj.1
        · rw [if_neg c]; exact Or.inr (hB c).2
      · repeat' split
        all_goals first | exact Or.inl rfl | exact Or.inr rfl
      · rw [if_neg (by rw [gj.2.2.1 o]; decide)]
      · by_cases c : G 16 i = 0
        · rw [if_pos c] at o
          by_cases u : lkW G (nI i) = 0
          · rw [if_pos u] at o; exact absurd o (by decide)
          · exact (hWf u).2
        · exact gj.2.2.2 (gj.2.1.resolve_left c)
    · rw [G2_15, G2_16, if_neg e, if_neg e]; exact g2 i hi
  · have z1 : G1 = G := by rw [e1, if_pos cB]; exact ug_id
    rw [e2, z1]
    by_cases c : G 16 j = 0
    · rw [if_pos c, if_pos cW]
      have : ug G 16 j 0 = ug G 16 j (G 16 j) := by rw [c]
      rw [this]; exact ug_id
    · rw [if_neg c]
      have h1 := gj.2.1.resolve_left c
      have : ug G 16 j 1 = ug G 16 j (G 16 j) := by rw [h1]
      rw [this]; exact ug_id
  · rw [G2_15, G2_16, if_pos rfl, if_pos rfl]
    have l1 : ((if (if lkB G (nI j) = (-1) then G 15 j else lkB G (nI j)) = -1 then 1 else 0) : Nat) ≤ (if G 15 j = -1 then 1 else 0) := by
      by_cases c : lkB G (nI j) = (-1)
      · rw [if_pos c]; exact Nat.le_refl _
      · rw [if_neg c, if_neg c]; exact Nat.zero_le _
    have l2 : ((if (if G 16 j = 0 then (if lkW G (nI j) = 0 then 0 else 1) else 1 : Int32) = 0 then 1 else 0) : Nat) ≤ (if G 16 j = 0 then 1 else 0) := by
      by_cases c : G 16 j = 0
      · rw [if_pos c, if_pos c]; exact ite01
      · rw [if_neg c, if_neg c, if_neg (by decide)]; exact Nat.le_refl _
    rcases c with c | c
    · have h1 : ((if (if lkB G (nI j) = (-1) then G 15 j else lkB G (nI j)) = -1 then 1 else 0) : Nat) = 0 := by rw [if_neg c, if_neg c]
      have h2 : ((if G 15 j = -1 then 1 else 0) : Nat) = 1 := by rw [if_pos (hB c).1]
      omega
    · have w := (hWf c).1
      have h1 : ((if (if G 16 j = 0 then (if lkW G (nI j) = 0 then 0 else 1) else 1 : Int32) = 0 then 1 else 0) : Nat) = 0 := by rw [if_pos w, if_neg c, if_neg (by decide)]
      have h2 : ((if G 16 j = 0 then 1 else 0) : Nat) = 1 := by rw [if_pos w]
      omega
/-- where a whole pass changed nothing, all is settled -/
theorem lk_fin {G0 : Nat → Nat → Int32} {nn : Nat} {bd fl : Nat → Int32} {rk : Nat → Nat} (hP : lkP G0 nn bd fl rk) {G : Nat → Nat → Int32} (hI : lkI G0 nn bd fl G) (hS : ∀ j, j < nn → lkB G (nI j) = (-1) ∧ lkW G (nI j) = 0) : ∀ i, i < nn → G 15 i = bd i ∧ G 16 i = fl i := by
  obtain ⟨h60, hall⟩ := hP
  obtain ⟨g1, g2⟩ := hI
  have main : ∀ (r i : Nat), rk i < r → i < nn → G 15 i = bd i ∧ G 16 i = fl i := by
    intro r
    induction r with
    | zero => intro i h; exact absurd h (Nat.not_lt_zero _)
    | succ r ih =>
      intro i hr hi
      obtain ⟨kd, aN, bN, k8, h10, h11, h12, hv, b1, b2, f01, f1, f2, f3, f4⟩ := hall i hi
      have ii : ix (nI i) = i := ix_nI (by omega)
      have q10 : G 10 i = nI kd := by rw [g1 10 (by decide) (by decide)]; exact h10
      have q11 : kd ≠ 0 → G 11 i = nI aN ∧ aN < 60 := fun c => ⟨by rw [g1 11 (by decide) (by decide)]; exact (h11 c).2.1, by have := (h11 c).1; omega⟩
      have q12 : kd = 4 ∨ kd = 5 → G 12 i = nI bN ∧ bN < 60 := fun c => ⟨by rw [g1 12 (by decide) (by decide)]; exact (h12 c).2.1, by have := (h12 c).1; omega⟩
      have kz : nI kd = 0 ↔ kd = 0 := by rw [show (0 : Int32) = nI 0 from rfl, nI_eq (by omega) (by omega)]
      have iA : kd ≠ 0 → G 15 aN = bd aN ∧ G 16 aN = fl aN := fun c => ih aN (by have := (h11 c).2.2; omega) (h11 c).1
      have iB : kd = 4 ∨ kd = 5 → G 15 bN = bd bN ∧ G 16 bN = fl bN := fun c => ih bN (by have := (h12 c).2.2; omega) (h12 c).1
      obtain ⟨sB, sW⟩ := hS i hi
      constructor
      · refine (g2 i hi).1.resolve_left (fun w => ?_)
        unfold lkB at sB
        rw [ii, if_pos w] at sB
        refine b1 ?_
        rw [b2, ← sB]
        refine bound_eq (G := G) (H := va_up G0 15 bd) (by omega) k8 q10 q11 q12 ?_ ?_ ?_ ?_ ?_ ?_
        · rw [va_up_ne _ _ (by decide), g1 10 (by decide) (by decide)]
        · rw [va_up_ne _ _ (by decide), g1 11 (by decide) (by decide)]
        · rw [va_up_ne _ _ (by decide), g1 12 (by decide) (by decide)]
        · rw [va_up_ne _ _ (by decide), g1 14 (by decide) (by decide)]
        · intro c0; rw [va_up_self]; exact (iA c0).1.symm
        · intro c0; rw [va_up_self]; exact (iB c0).1.symm
      · rcases f01 with f0 | f0
        · rw [f0]
          refine (g2 i hi).2.1.resolve_right (fun w => ?_)
          have := (g2 i hi).2.2.2 w
          rw [f0] at this; exact absurd this (by decide)
        · rw [f0]
          refine (g2 i hi).2.1.resolve_left (fun w => ?_)
          unfold lkW at sW
          rw [ii, if_pos w, q10] at sW
          rcases f4 f0 with o | ⟨k0, fa⟩ | ⟨k45, fb⟩
          · have := (g2 i hi).2.2.1 o
            rw [w] at this; exact absurd this (by decide)
          · rw [if_neg (fun e => k0 (kz.mp e)), (q11 k0).1, ix_nI (by have := (q11 k0).2; omega), (iA k0).2, fa, if_neg (by decide)] at sW
            exact absurd sW (by decide)
          · have k0 : kd ≠ 0 := by omega
            have u := (isTwo_n k8).mpr k45
            rw [if_neg (fun e => k0 (kz.mp e)), if_neg u, (q12 k45).1, ix_nI (by have := (q12 k45).2; omega), (iB k45).2, fb, if_neg (show ¬ (1 : Int32) = 0 by decide)] at sW
            by_cases t : G 16 (ix (G 11 i)) = 0
            · rw [if_pos t] at sW; exact absurd sW (by decide)
            · rw [if_neg t] at sW; exact absurd sW (by decide)
  exact fun i hi => main (rk i + 1) i (Nat.lt_succ_self _) hi
set_option maxHeartbeats 1600000 in
/-- look(): bounds and fails of all nodes -/
theorem c_look {l : Launch} {k : Kt} {ad : Nat → Nat} {G0 : Nat → Nat → Int32} {V0 : Nat → Int32} {nn : Nat} {bd fl : Nat → Int32} {rk : Nat → Nat} (hP : lkP G0 nn bd fl rk) (hV1 : V0 1 = nI nn) :
    CT l k yX6_look cX6_look 5 none 2 [.ref (ad 0)] (WM k ad G0 V0) (fun v9 w' => v9 = none ∧ ∃ G' : Nat → Nat → Int32, w' = WM k ad G' V0 ∧ (∀ p, p ≠ 15 → p ≠ 16 → G' p = G0 p) ∧ ∀ i, i < nn → G' 15 i = bd i ∧ G' 16 i = fl i) 0 0 := by
  refine ct_of (own := RX6) (lv0 := [(0, .ref (ad 0))]) (by decide) rfl (Nat.le_of_ble_eq_true rfl) rfl ?_
  rintro z rfl rfl hz - E T
  have h60 := hP.1
  have hj : ∀ (j : Nat) (j9 : Int32), j9 = nI j → j ≤ nn → ¬ V0 1 ≤ j9 → j < nn := fun j j9 hj _ c => by
    rcases Nat.lt_or_ge j nn with q | q
    · exact q
    · exact absurd (by rw [hV1, hj]; exact nI_le q (by omega)) c
  -- a pass, with what follows it
  have pass : ∀ (Gs : Nat → Nat → Int32) (K : ∀ (G : Nat → Nat → Int32) (m9 : Int32), lkI G0 nn bd fl G → (m9 = 0 → ∀ j, j < nn → lkB G (nI j) = (-1) ∧ lkW G (nI j) = 0) → (¬ m9 = 0 → phR G nn < phR Gs nn) → WW z 0 0 (WM (zk z) ad G V0) 70 [(0, .ref (ad 0)), (1, .int m9)] []) (N j : Nat) (j9 m9 : Int32) (G : Nat → Nat → Int32), j9 = nI j → j ≤ nn → nn ≤ j + N → lkI G0 nn bd fl G → (m9 = 0 → G = Gs ∧ ∀ i, i < j → lkB G (nI i) = (-1) ∧ lkW G (nI i) = 0) → (¬ m9 = 0 → phR G nn < phR Gs nn) → WW z 0 0 (WM (zk z) ad G V0) 78 [(0, .ref (ad 0)), (1, .int m9), (2, .int j9)] [] := by
    intro Gs K N
    have idx : ∀ (G : Nat → Nat → Int32), lkI G0 nn bd fl G → ∀ (j : Nat) (j9 : Int32), j9 = nI j → j ≤ nn → ¬ V0 1 ≤ j9 → vp_in j9 60 ∧ (¬ G 10 (ix j9) = 0 → vp_in (G 11 (ix j9)) 60) ∧ (¬ fX6_isTwo (G 10 (ix j9)) = 0 → vp_in (G 12 (ix j9)) 60) := by
      intro G hI j j9 ej h1 c
      have q := hj j j9 ej h1 c
      obtain ⟨kd, aN, bN, k8, h10, h11, h12, -⟩ := hP.2 j q
      have jj : ix j9 = j := by rw [ej]; exact ix_nI (by omega)
      rw [jj, hI.1 10 (by decide) (by decide), hI.1 11 (by decide) (by decide), hI.1 12 (by decide) (by decide), h10]
      refine ⟨by rw [ej]; exact vp_in_nI (by omega) (by omega), fun c => ?_, fun c => ?_⟩
      · have k0 : kd ≠ 0 := fun e => c (by rw [e]; rfl)
        rw [(h11 k0).2.1]; exact vp_in_nI (by have := (h11 k0).1; omega) (by omega)
      · have u := (isTwo_n k8).mp c
        rw [(h12 u).2.1]; exact vp_in_nI (by have := (h12 u).1; omega) (by omega)
    induction N with
    | zero =>
      intro j j9 m9 G ej h1 h2 hI hS hM
      have ab : V0 1 ≤ j9 := by rw [hV1, ej]; exact nI_le (by omega) (by omega)
      have e : j = nn := by omega
      refine lk_c E T hz (Nat.le_refl 2) m9 j9 (fun c => absurd ab c) (fun c => absurd ab c) (fun c => absurd ab c) (fun _ => K G m9 hI (fun c i hi => (hS c).2 i (by omega)) hM) (fun _ _ _ _ c => absurd ab c)
    | succ N ih =>
      intro j j9 m9 G ej h1 h2 hI hS hM
      have jj : ¬ V0 1 ≤ j9 → ix j9 = j := fun c => by have := hj j j9 ej h1 c; rw [ej]; exact ix_nI (by omega)
      refine lk_c E T hz (Nat.le_refl 2) m9 j9 (fun c => (idx G hI j j9 ej h1 c).1) (fun c => (idx G hI j j9 ej h1 c).2.1) (fun c => (idx G hI j j9 ej h1 c).2.2) (fun c => ?_) (fun G1 G2 e1 e2 c => ?_)
      · rw [hV1, ej, nI_leI (by omega) (by omega)] at c
        exact K G m9 hI (fun c9 i hi => (hS c9).2 i (by omega)) hM
      · have q := hj j j9 ej h1 c
        rw [jj c] at e1 e2
        rw [ej] at e1 e2
        obtain ⟨s1, s2, s3, s4⟩ := lk_step hP q hI e1 e2
        have hle : phR G nn ≤ phR Gs nn := by
          by_cases w : m9 = 0
          · rw [(hS w).1]; exact Nat.le_refl _
          · exact Nat.le_of_lt (hM w)
        refine ih (j + 1) (j9 + 1) _ G2 (by rw [ej]; exact nI_1 j) (by omega) (by omega) s1 (fun w => ?_) (fun w => ?_)
        · unfold lkM at w
          by_cases m0 : m9 = 0
          · rw [if_pos m0, ej] at w
            by_cases cB : lkB G (nI j) = (-1)
            · rw [if_pos cB] at w
              by_cases cW : lkW G (nI j) = 0
              · have eG := s3 cB cW
                rw [eG]
                refine ⟨(hS m0).1, fun i hi => ?_⟩
                rcases Nat.lt_or_ge i j with u | u
                · exact (hS m0).2 i u
                · have : i = j := by omega
                  subst this; exact ⟨cB, cW⟩
              · rw [if_neg cW] at w; exact absurd w (by decide)
            · rw [if_neg cB] at w; exact absurd w (by decide)
          · rw [if_neg m0] at w; exact absurd w (by decide)
        · by_cases m0 : m9 = 0
          · unfold lkM at w
            rw [if_pos m0, ej] at w
            refine Nat.lt_of_lt_of_le (s4 ?_) hle
            by_cases cB : lkB G (nI j) = (-1)
            · right
              intro cW
              rw [if_pos cB, if_pos cW] at w; exact w rfl
            · exact Or.inl cB
          · exact Nat.lt_of_le_of_lt s2 (hM m0)
  -- pass after pass
  have outer : ∀ (M : Nat) (G : Nat → Nat → Int32) (m9 : Int32), lkI G0 nn bd fl G → (m9 = 0 → ∀ j, j < nn → lkB G (nI j) = (-1) ∧ lkW G (nI j) = 0) → (¬ m9 = 0 → phR G nn < M) → WW z 0 0 (WM (zk z) ad G V0) 70 [(0, .ref (ad 0)), (1, .int m9)] [] := by
    intro M
    induction M with
    | zero =>
      intro G m9 hI hS hM
      refine lk_d E T hz (Nat.le_refl 2) m9 (fun c => ⟨rfl, G, rfl, hI.1, lk_fin hP hI (hS c)⟩) (fun c => absurd (hM c) (Nat.not_lt_zero _))
    | succ M ih =>
      intro G m9 hI hS hM
      refine lk_d E T hz (Nat.le_refl 2) m9 (fun c => ⟨rfl, G, rfl, hI.1, lk_fin hP hI (hS c)⟩) (fun c => ?_)
      have hl := hM c
      exact pass G (fun G' m' hI' hS' hM' => ih G' m' hI' hS' (fun w => by have := hM' w; omega)) nn 0 0 0 G rfl (Nat.zero_le _) (by omega) hI (fun _ => ⟨rfl, fun i hi => absurd hi (Nat.not_lt_zero _)⟩) (fun w => absurd rfl w)
  -- the beginning
  have begin9 : ∀ (N j : Nat) (j9 : Int32) (G : Nat → Nat → Int32), j9 = nI j → j ≤ nn → nn ≤ j + N → (∀ p, p ≠ 15 → p ≠ 16 → G p = G0 p) → (∀ i, i < j → G 15 i = -1 ∧ G 16 i = ownF G0 i) → WW z 0 0 (WM (zk z) ad G V0) 2 [(0, .ref (ad 0)), (1, .int j9)] [] := by
    have go : ∀ (G : Nat → Nat → Int32), (∀ p, p ≠ 15 → p ≠ 16 → G p = G0 p) → (∀ i, i < nn → G 15 i = -1 ∧ G 16 i = ownF G0 i) → WW z 0 0 (WM (zk z) ad G V0) 70 [(0, .ref (ad 0)), (1, .int 1)] [] := by
      intro G hG hC
      refine outer (phR G nn + 1) G 1 ⟨hG, fun i hi => ?_⟩ (fun c => absurd c (by decide)) (fun _ => Nat.lt_succ_self _)
      obtain ⟨c1, c2⟩ := hC i hi
      obtain ⟨kd, aN, bN, -, -, -, -, -, -, -, -, f1, -⟩ := hP.2 i hi
      refine ⟨Or.inl c1, ?_, fun o => by rw [c2]; exact o, fun o => f1 (by rw [← c2]; exact o)⟩
      rw [c2]; unfold ownF
      repeat' split
      all_goals first | exact Or.inl rfl | exact Or.inr rfl
    intro N
    induction N with
    | zero =>
      intro j j9 G ej h1 h2 hG hC
      have ab : V0 1 ≤ j9 := by rw [hV1, ej]; exact nI_le (by omega) (by omega)
      exact lk_b E T hz (Nat.le_refl 2) j9 (fun c => absurd ab c) (fun c => absurd ab c) (fun _ => go G hG (fun i hi => hC i (by omega))) (fun _ _ _ _ c => absurd ab c)
    | succ N ih =>
      intro j j9 G ej h1 h2 hG hC
      have jj : ¬ V0 1 ≤ j9 → ix j9 = j := fun c => by have := hj j j9 ej h1 c; rw [ej]; exact ix_nI (by omega)
      refine lk_b E T hz (Nat.le_refl 2) j9 (fun c => by have := hj j j9 ej h1 c; rw [ej]; exact vp_in_nI (by omega) (by omega)) (fun c => ?_) (fun c => ?_) (fun G1 G2 e1 e2 c => ?_)
      · have q := hj j j9 ej h1 c
        obtain ⟨kd, aN, bN, k8, h10, h11, h12, hv, -⟩ := hP.2 j q
        rw [jj c, hG 10 (by decide) (by decide), hG 14 (by decide) (by decide), h10]
        intro w
        refine hv ?_
        rw [show (1 : Int32) = nI 1 from rfl, show (2 : Int32) = nI 2 from rfl, nI_eq (by omega) (by omega), nI_eq (by omega) (by omega)] at w
        exact w
      · rw [hV1, ej, nI_leI (by omega) (by omega)] at c
        exact go G hG (fun i hi => hC i (by omega))
      · have q := hj j j9 ej h1 c
        rw [jj c] at e1 e2
        have o10 : G1 10 = G0 10 := by rw [e1, ug_other (by decide)]; exact hG 10 (by decide) (by decide)
        have o8 : G1 8 = G0 8 := by rw [e1, ug_other (by decide)]; exact hG 8 (by decide) (by decide)
        have o14 : G1 14 = G0 14 := by rw [e1, ug_other (by decide)]; exact hG 14 (by decide) (by decide)
        rw [o10, o8, o14] at e2
        refine ih (j + 1) (j9 + 1) G2 (by rw [ej]; exact nI_1 j) (by omega) (by omega) (fun p p1 p2 => by rw [e2, ug_other p2, e1, ug_other p1]; exact hG p p1 p2) (fun i hi => ?_)
        by_cases w : i = j
        · subst w
          refine ⟨by rw [e2, ug_p (by decide), e1, ug_same], ?_⟩
          rw [e2, ug_same]; rfl
        · refine ⟨by rw [e2, ug_p (by decide), e1, ug_i w]; exact (hC i (by omega)).1, ?_⟩
          rw [e2, ug_i w, e1, ug_p (by decide)]; exact (hC i (by omega)).2
  refine lk_a E T hz (Nat.le_refl 2) ?_
  exact begin9 nn 0 0 G0 rfl (Nat.zero_le _) (by omega) (fun _ _ _ => rfl) (fun i hi => absurd hi (Nat.not_lt_zero _))
