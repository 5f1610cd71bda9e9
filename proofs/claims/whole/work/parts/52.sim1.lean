/-! THE PLAN, as the class holds it -/
def bdN (bd : Nat → Nat) (k a b v : Nat) : Nat := if k = 0 then 6 else if k = 4 then bd a * bd b else if k = 5 then bd a + bd b else if k = 8 then (if bd a < v then bd a else v) else bd a
/-- the shape of a node of rank r -/
def shN (nn nf : Nat) (rk : Nat → Nat) (r k a b m v : Nat) : Prop :=
  k ≤ 8 ∧ (k = 0 → a < 4) ∧ (k ≠ 0 → a < nn ∧ rk a < r) ∧ (k = 4 ∨ k = 5 → b < nn ∧ rk b < r) ∧ (¬ (k = 4 ∨ k = 5) → b = 0) ∧ m < 6 ∧ (¬ (k = 2 ∨ k = 4 ∨ k = 6) → m = 0) ∧ (k = 1 ∨ k = 2 → v < nf) ∧ (k = 3 ∨ k = 4 → v < 64) ∧ (k = 6 → v < 6 ∧ v ≠ m) ∧ (k = 8 → v ≤ 100) ∧ (k = 0 ∨ k = 5 ∨ k = 7 → v = 0)
def ndE (G : Nat → Nat → Int32) (i k a b m v : Nat) : Prop := G 13 i = nI k ∧ G 14 i = nI a ∧ G 15 i = nI b ∧ G 16 i = nI m ∧ G 17 i = nI v
def ndO (G : Nat → Nat → Int32) (nn nf : Nat) (bd rk : Nat → Nat) (i k a b m v : Nat) : Prop :=
  ndE G i k a b m v ∧ shN nn nf rk (rk i) k a b m v ∧ bd i ≤ 100 ∧ G 18 i = nI (bd i) ∧ bd i = bdN bd k a b v ∧ G 19 i = fX1_failsOf G (nI k) (nI a) (nI b) (nI v)
def fmO (G : Nat → Nat → Int32) (nf : Nat) : Prop := FW (G 6) (G 7) (G 8) nf ∧ ∀ i, i < nf → (∃ s : Nat, s ≤ 30 ∧ G 9 i = nI s) ∧ (G 11 i = 0 ∨ G 11 i = 1)
def PLC (G : Nat → Nat → Int32) (V : Nat → Int32) (nn nf : Nat) (bd rk : Nat → Nat) : Prop :=
  nn ≤ 60 ∧ nf ≤ 40 ∧ V 0 = nI nf ∧ V 1 = nI nn ∧ fmO G nf ∧ (∀ i, i < 4 → ∃ j : Nat, j ≤ 6 ∧ G 3 i = nI j) ∧ ∀ i, i < nn → ∃ k a b m v, ndO G nn nf bd rk i k a b m v
theorem kI {k j : Nat} (hk : k ≤ 8) (hj : j < 2 ^ 31) : nI k = nI j ↔ k = j := nI_eq (by omega) hj
theorem tR_n {k : Nat} (hk : k ≤ 8) : fX1_takesRight (nI k) = if k = 4 ∨ k = 5 then 1 else 0 := by
  rcases (show k = 0 ∨ k = 1 ∨ k = 2 ∨ k = 3 ∨ k = 4 ∨ k = 5 ∨ k = 6 ∨ k = 7 ∨ k = 8 by omega) with rfl | rfl | rfl | rfl | rfl | rfl | rfl | rfl | rfl <;> decide
theorem tM_n {k : Nat} (hk : k ≤ 8) : fX1_takesMember (nI k) = if k = 2 ∨ k = 4 ∨ k = 6 then 1 else 0 := by
  rcases (show k = 0 ∨ k = 1 ∨ k = 2 ∨ k = 3 ∨ k = 4 ∨ k = 5 ∨ k = 6 ∨ k = 7 ∨ k = 8 by omega) with rfl | rfl | rfl | rfl | rfl | rfl | rfl | rfl | rfl <;> decide
theorem tV_n {k : Nat} (hk : k ≤ 8) : fX1_takesValue (nI k) = if k = 0 ∨ k = 5 ∨ k = 7 then 0 else 1 := by
  rcases (show k = 0 ∨ k = 1 ∨ k = 2 ∨ k = 3 ∨ k = 4 ∨ k = 5 ∨ k = 6 ∨ k = 7 ∨ k = 8 by omega) with rfl | rfl | rfl | rfl | rfl | rfl | rfl | rfl | rfl <;> decide
theorem tF_n {k : Nat} (hk : k ≤ 8) : fX1_takesFormula (nI k) = if k = 1 ∨ k = 2 then 1 else 0 := by
  rcases (show k = 0 ∨ k = 1 ∨ k = 2 ∨ k = 3 ∨ k = 4 ∨ k = 5 ∨ k = 6 ∨ k = 7 ∨ k = 8 by omega) with rfl | rfl | rfl | rfl | rfl | rfl | rfl | rfl | rfl <;> decide
theorem t2_n {k : Nat} (hk : k ≤ 8) : fX6_isTwo (nI k) = if k = 4 ∨ k = 5 then 1 else 0 := by
  rcases (show k = 0 ∨ k = 1 ∨ k = 2 ∨ k = 3 ∨ k = 4 ∨ k = 5 ∨ k = 6 ∨ k = 7 ∨ k = 8 by omega) with rfl | rfl | rfl | rfl | rfl | rfl | rfl | rfl | rfl <;> decide
theorem hM_n {k : Nat} (hk : k ≤ 8) : fX6_hasMember (nI k) = if k = 2 ∨ k = 4 ∨ k = 6 then 1 else 0 := by
  rcases (show k = 0 ∨ k = 1 ∨ k = 2 ∨ k = 3 ∨ k = 4 ∨ k = 5 ∨ k = 6 ∨ k = 7 ∨ k = 8 by omega) with rfl | rfl | rfl | rfl | rfl | rfl | rfl | rfl | rfl <;> decide
theorem hV_n {k : Nat} (hk : k ≤ 8) : fX6_hasNumber (nI k) = if k = 0 ∨ k = 5 ∨ k = 7 then 0 else 1 := by
  rcases (show k = 0 ∨ k = 1 ∨ k = 2 ∨ k = 3 ∨ k = 4 ∨ k = 5 ∨ k = 6 ∨ k = 7 ∨ k = 8 by omega) with rfl | rfl | rfl | rfl | rfl | rfl | rfl | rfl | rfl <;> decide +kernel
/-- the bound that the class works out -/
theorem boundOf_n {G : Nat → Nat → Int32} {bd : Nat → Nat} {k a b v : Nat} (hk : k ≤ 8) (ha : k ≠ 0 → a < 60 ∧ G 18 a = nI (bd a) ∧ bd a ≤ 100) (hb : k = 4 ∨ k = 5 → b < 60 ∧ G 18 b = nI (bd b) ∧ bd b ≤ 100) (hv : k = 8 → v ≤ 100) : fX1_boundOf G (nI k) (nI a) (nI b) (nI v) = nI (bdN bd k a b v) := by
  have A : k ≠ 0 → G 18 (ix (nI a)) = nI (bd a) := fun e => by rw [ix_nI (by have := (ha e).1; omega)]; exact (ha e).2.1
  have B : k = 4 ∨ k = 5 → G 18 (ix (nI b)) = nI (bd b) := fun e => by rw [ix_nI (by have := (hb e).1; omega)]; exact (hb e).2.1
  rcases (show k = 0 ∨ k = 1 ∨ k = 2 ∨ k = 3 ∨ k = 4 ∨ k = 5 ∨ k = 6 ∨ k = 7 ∨ k = 8 by omega) with rfl | rfl | rfl | rfl | rfl | rfl | rfl | rfl | rfl
  · rfl
  · exact A (by decide)
  · exact A (by decide)
  · exact A (by decide)
  · show G 18 (ix (nI a)) * G 18 (ix (nI b)) = nI (bd a * bd b)
    rw [A (by decide), B (Or.inl rfl), pk_mul]
  · show G 18 (ix (nI a)) + G 18 (ix (nI b)) = nI (bd a + bd b)
    rw [A (by decide), B (Or.inr rfl), nI_add]
  · exact A (by decide)
  · exact A (by decide)
  · show (if G 18 (ix (nI a)) < nI v then G 18 (ix (nI a)) else nI v) = nI (if bd a < v then bd a else v)
    have h1 := (ha (by decide)).2.2
    have h2 := hv rfl
    rw [A (by decide)]
    by_cases c : bd a < v
    · rw [if_pos c, if_pos (nI_lt c (by omega))]
    · rw [if_neg c, if_neg (nI_nlt (by omega) (by omega))]
theorem failsOf_eq {G H : Nat → Nat → Int32} {k a b v : Nat} (hk : k ≤ 8) (ha : k ≠ 0 → G 19 (ix (nI a)) = H 19 (ix (nI a))) (hb : k = 4 ∨ k = 5 → G 19 (ix (nI b)) = H 19 (ix (nI b))) (hv : k = 1 ∨ k = 2 → G 11 (ix (nI v)) = H 11 (ix (nI v))) : fX1_failsOf G (nI k) (nI a) (nI b) (nI v) = fX1_failsOf H (nI k) (nI a) (nI b) (nI v) := by
  unfold fX1_failsOf
  rw [tR_n hk, tF_n hk]
  by_cases k0 : k = 0
  · rw [if_pos (by rw [k0]; rfl), if_pos (by rw [k0]; rfl)]
  · have n0 : ¬ nI k = 0 := fun e => k0 ((kI hk (by decide : 0 < 2 ^ 31)).mp e)
    rw [if_neg n0, if_neg n0, ha k0]
    by_cases c : G 19 (ix (nI b)) = H 19 (ix (nI b))
    · rw [c]
      by_cases c2 : k = 1 ∨ k = 2
      · rw [hv c2]
      · rw [if_neg c2, if_pos rfl, if_pos rfl]
    · have n45 : ¬ (k = 4 ∨ k = 5) := fun e => c (hb e)
      rw [if_neg n45, if_pos rfl, if_pos rfl]
      by_cases c2 : k = 1 ∨ k = 2
      · rw [hv c2]
      · rw [if_neg c2, if_pos rfl, if_pos rfl]
theorem if_as {c : Int32} {x y : Int32} (h : c = 0 → y = 0) (hx : ¬ c = 0 → x = y) : (if c = 0 then 0 else x : Int32) = y := by
  by_cases w : c = 0
  · rw [if_pos w, h w]
  · rw [if_neg w, hx w]
/-- what a write leaves -/
theorem write_at {G : Nat → Nat → Int32} {nn nf : Nat} {rk : Nat → Nat} {r x k a b m v : Nat} (hx : x < 60) (sh : shN nn nf rk r k a b m v) :
    (∀ p, p ≠ 13 → p ≠ 14 → p ≠ 15 → p ≠ 16 → p ≠ 17 → p ≠ 18 → p ≠ 19 → fX1_write_G G (nI x) (nI k) (nI a) (nI b) (nI m) (nI v) p = G p) ∧
    (∀ j, j ≠ x → ∀ p, fX1_write_G G (nI x) (nI k) (nI a) (nI b) (nI m) (nI v) p j = G p j) ∧
    ndE (fX1_write_G G (nI x) (nI k) (nI a) (nI b) (nI m) (nI v)) x k a b m v ∧ fX1_write_G G (nI x) (nI k) (nI a) (nI b) (nI m) (nI v) 18 x = fX1_boundOf G (nI k) (nI a) (nI b) (nI v) ∧ fX1_write_G G (nI x) (nI k) (nI a) (nI b) (nI m) (nI v) 19 x = fX1_failsOf G (nI k) (nI a) (nI b) (nI v) := by
  obtain ⟨k8, -, -, -, sb, -, sm, -, -, -, -, sv⟩ := sh
  have ex : ix (nI x) = x := ix_nI (by omega)
  have eb : (if fX1_takesRight (nI k) = 0 then 0 else nI b : Int32) = nI b := by
    refine if_as (fun e => ?_) (fun _ => rfl)
    rw [tR_n k8] at e
    by_cases c : k = 4 ∨ k = 5
    · rw [if_pos c] at e; exact absurd e (by decide)
    · rw [sb c]; rfl
  have em : (if fX1_takesMember (nI k) = 0 then 0 else nI m : Int32) = nI m := by
    refine if_as (fun e => ?_) (fun _ => rfl)
    rw [tM_n k8] at e
    by_cases c : k = 2 ∨ k = 4 ∨ k = 6
    · rw [if_pos c] at e; exact absurd e (by decide)
    · rw [sm c]; rfl
  have ev : (if fX1_takesValue (nI k) = 0 then 0 else nI v : Int32) = nI v := by
    refine if_as (fun e => ?_) (fun _ => rfl)
    rw [tV_n k8] at e
    by_cases c : k = 0 ∨ k = 5 ∨ k = 7
    · rw [sv c]; rfl
    · rw [if_neg c] at e; exact absurd e (by decide)
  have ef : ∀ y, fX1_failsOf (ug G 18 x y) (nI k) (nI a) (nI b) (nI v) = fX1_failsOf G (nI k) (nI a) (nI b) (nI v) := fun y => by
    unfold fX1_failsOf; rw [ug_p (by decide), ug_p (by decide), ug_p (by decide)]
  unfold fX1_write_G
  rw [eb, em, ev, ex, ef]
  refine ⟨fun p h1 h2 h3 h4 h5 h6 h7 => ?_, fun j hj p => ?_, ⟨?_, ?_, ?_, ?_, ?_⟩, ?_, ?_⟩
  · rw [ug_other h5, ug_other h4, ug_other h3, ug_other h2, ug_other h1, ug_other h7, ug_other h6]
  · simp only [ug_if, hj, and_false, if_false]
  · simp only [ug_if, and_true, if_true]; rfl
  · simp only [ug_if, and_true, if_true]; rfl
  · simp only [ug_if, and_true, if_true]; rfl
  · simp only [ug_if, and_true, if_true]; rfl
  · simp only [ug_if, and_true, if_true]
  · simp only [ug_if, and_true, if_true]; rfl
  · simp only [ug_if, and_true, if_true]; rfl
theorem shN.mono {nn nn' nf nf' : Nat} {rk rk' : Nat → Nat} {r r' k a b m v : Nat} (sh : shN nn nf rk r k a b m v) (hn : nn ≤ nn') (hf : nf ≤ nf') (ha : ∀ y, y < nn → rk y < r → rk' y < r') : shN nn' nf' rk' r' k a b m v := by
  obtain ⟨h1, h2, h3, h4, h5, h6, h7, h8, h9, h10, h11, h12⟩ := sh
  refine ⟨h1, h2, fun e => ⟨by have := (h3 e).1; omega, ha _ (h3 e).1 (h3 e).2⟩, fun e => ⟨by have := (h4 e).1; omega, ha _ (h4 e).1 (h4 e).2⟩, h5, h6, h7, fun e => by have := h8 e; omega, h9, h10, h11, h12⟩
/-- a node written anew, its bound and whether it may fail as before -/
theorem PLC.write {G : Nat → Nat → Int32} {V : Nat → Int32} {nn nf : Nat} {bd rk : Nat → Nat} (h : PLC G V nn nf bd rk) {x k a b m v : Nat} (hx : x < nn) (sh : shN nn nf rk (rk x) k a b m v) (hb : bdN bd k a b v = bd x) (hf : fX1_failsOf G (nI k) (nI a) (nI b) (nI v) = G 19 x) : PLC (fX1_write_G G (nI x) (nI k) (nI a) (nI b) (nI m) (nI v)) V nn nf bd rk := by
  obtain ⟨h1, h2, h3, h4, h5, h6, h7⟩ := h
  obtain ⟨w1, w2, w3, w4, w5⟩ := write_at (G := G) (by omega : x < 60) sh
  generalize fX1_write_G G (nI x) (nI k) (nI a) (nI b) (nI m) (nI v) = G' at w1 w2 w3 w4 w5
  have bdA : ∀ y, y < nn → G 18 y = nI (bd y) ∧ bd y ≤ 100 := fun y hy => by
    obtain ⟨_, _, _, _, _, q⟩ := h7 y hy; exact ⟨q.2.2.2.1, q.2.2.1⟩
  have e18 : ∀ y, G' 18 y = G 18 y := fun y => by
    by_cases e : y = x
    · rw [e, w4, boundOf_n (bd := bd) sh.1 (fun e => ⟨by have := (sh.2.2.1 e).1; omega, bdA _ (sh.2.2.1 e).1⟩) (fun e => ⟨by have := (sh.2.2.2.1 e).1; omega, bdA _ (sh.2.2.2.1 e).1⟩) sh.2.2.2.2.2.2.2.2.2.2.1, hb]
      exact (bdA x hx).1.symm
    · exact w2 y e 18
  have e19 : ∀ y, G' 19 y = G 19 y := fun y => by
    by_cases e : y = x
    · rw [e, w5, hf]
    · exact w2 y e 19
  have e11 : G' 11 = G 11 := w1 11 (by decide) (by decide) (by decide) (by decide) (by decide) (by decide) (by decide)
  have efl : ∀ k a b v, k ≤ 8 → fX1_failsOf G' (nI k) (nI a) (nI b) (nI v) = fX1_failsOf G (nI k) (nI a) (nI b) (nI v) := fun k a b v hk => failsOf_eq hk (fun _ => e19 _) (fun _ => e19 _) (fun _ => by rw [e11])
  refine ⟨h1, h2, h3, h4, ?_, ?_, fun i hi => ?_⟩
  · unfold fmO
    rw [w1 6 (by decide) (by decide) (by decide) (by decide) (by decide) (by decide) (by decide), w1 7 (by decide) (by decide) (by decide) (by decide) (by decide) (by decide) (by decide), w1 8 (by decide) (by decide) (by decide) (by decide) (by decide) (by decide) (by decide), w1 9 (by decide) (by decide) (by decide) (by decide) (by decide) (by decide) (by decide), e11]
    exact h5
  · rw [w1 3 (by decide) (by decide) (by decide) (by decide) (by decide) (by decide) (by decide)]; exact h6
  · by_cases e : i = x
    · subst e
      refine ⟨k, a, b, m, v, w3, sh, (bdA i hx).2, (e18 i).trans (bdA i hx).1, hb.symm, ?_⟩
      rw [efl _ _ _ _ sh.1, w5]
    · obtain ⟨k', a', b', m', v', q1, q2, q3, q4, q5, q6⟩ := h7 i hi
      refine ⟨k', a', b', m', v', ?_, q2, q3, (e18 i).trans q4, q5, ?_⟩
      · obtain ⟨n1, n2, n3, n4, n5⟩ := q1
        exact ⟨(w2 i e 13).trans n1, (w2 i e 14).trans n2, (w2 i e 15).trans n3, (w2 i e 16).trans n4, (w2 i e 17).trans n5⟩
      · rw [efl _ _ _ _ q2.1, e19]; exact q6
theorem bdN_congr {bd bd' : Nat → Nat} {k a b v : Nat} (ha : k ≠ 0 → bd a = bd' a) (hb : k = 4 ∨ k = 5 → bd b = bd' b) : bdN bd k a b v = bdN bd' k a b v := by
  unfold bdN
  by_cases k0 : k = 0
  · rw [if_pos k0, if_pos k0]
  · rw [if_neg k0, if_neg k0, ha k0]
    by_cases c : k = 4 ∨ k = 5
    · rw [hb c]
    · rw [if_neg (fun e => c (Or.inl e)), if_neg (fun e => c (Or.inr e)), if_neg (fun e => c (Or.inl e)), if_neg (fun e => c (Or.inr e))]
/-- a node more -/
theorem PLC.push {G : Nat → Nat → Int32} {V : Nat → Int32} {nn nf : Nat} {bd rk : Nat → Nat} (h : PLC G V nn nf bd rk) {r k a b m v : Nat} (hn : nn < 60) (sh : shN nn nf rk r k a b m v) (hb : bdN bd k a b v ≤ 100) : PLC (fX1_write_G G (nI nn) (nI k) (nI a) (nI b) (nI m) (nI v)) (upd V 1 (V 1 + 1)) (nn + 1) nf (va_up bd nn (bdN bd k a b v)) (va_up rk nn r) := by
  obtain ⟨h1, h2, h3, h4, h5, h6, h7⟩ := h
  obtain ⟨w1, w2, w3, w4, w5⟩ := write_at (G := G) hn sh
  generalize fX1_write_G G (nI nn) (nI k) (nI a) (nI b) (nI m) (nI v) = G' at w1 w2 w3 w4 w5
  have bdA : ∀ y, y < nn → G 18 y = nI (bd y) ∧ bd y ≤ 100 := fun y hy => by
    obtain ⟨_, _, _, _, _, q⟩ := h7 y hy; exact ⟨q.2.2.2.1, q.2.2.1⟩
  have bdU : ∀ y, y < nn → va_up bd nn (bdN bd k a b v) y = bd y := fun y hy => va_up_ne _ _ (by omega)
  have rkU : ∀ y, y < nn → va_up rk nn r y = rk y := fun y hy => va_up_ne _ _ (by omega)
  have e18 : G' 18 nn = nI (bdN bd k a b v) := by
    rw [w4]
    exact boundOf_n (bd := bd) sh.1 (fun e => ⟨by have := (sh.2.2.1 e).1; omega, bdA _ (sh.2.2.1 e).1⟩) (fun e => ⟨by have := (sh.2.2.2.1 e).1; omega, bdA _ (sh.2.2.2.1 e).1⟩) sh.2.2.2.2.2.2.2.2.2.2.1
  have e11 : G' 11 = G 11 := w1 11 (by decide) (by decide) (by decide) (by decide) (by decide) (by decide) (by decide)
  have efl : ∀ r' k a b m v, shN nn nf rk r' k a b m v → fX1_failsOf G' (nI k) (nI a) (nI b) (nI v) = fX1_failsOf G (nI k) (nI a) (nI b) (nI v) := fun r' k a b m v s => failsOf_eq s.1 (fun e => by have := (s.2.2.1 e).1; rw [ix_nI (by omega)]; exact w2 _ (by omega) 19) (fun e => by have := (s.2.2.2.1 e).1; rw [ix_nI (by omega)]; exact w2 _ (by omega) 19) (fun _ => by rw [e11])
  refine ⟨by omega, h2, h3, ?_, ?_, ?_, fun i hi => ?_⟩
  · show V 1 + 1 = _
    rw [h4, nI_1]
  · unfold fmO
    rw [w1 6 (by decide) (by decide) (by decide) (by decide) (by decide) (by decide) (by decide), w1 7 (by decide) (by decide) (by decide) (by decide) (by decide) (by decide) (by decide), w1 8 (by decide) (by decide) (by decide) (by decide) (by decide) (by decide) (by decide), w1 9 (by decide) (by decide) (by decide) (by decide) (by decide) (by decide) (by decide), e11]
    exact h5
  · rw [w1 3 (by decide) (by decide) (by decide) (by decide) (by decide) (by decide) (by decide)]; exact h6
  · by_cases e : i = nn
    · subst e
      refine ⟨k, a, b, m, v, w3, ?_, ?_, ?_, ?_, ?_⟩
      · rw [va_up_self]; exact sh.mono (by omega) (Nat.le_refl _) (fun y hy hr => by rw [rkU y hy]; exact hr)
      · rw [va_up_self]; exact hb
      · rw [va_up_self]; exact e18
      · rw [va_up_self]
        exact bdN_congr (fun e => (bdU a (sh.2.2.1 e).1).symm) (fun e => (bdU b (sh.2.2.2.1 e).1).symm)
      · rw [efl r _ _ _ m _ sh, w5]
    · have hi : i < nn := by omega
      obtain ⟨k', a', b', m', v', q1, q2, q3, q4, q5, q6⟩ := h7 i hi
      refine ⟨k', a', b', m', v', ?_, ?_, ?_, ?_, ?_, ?_⟩
      · obtain ⟨n1, n2, n3, n4, n5⟩ := q1
        exact ⟨(w2 i e 13).trans n1, (w2 i e 14).trans n2, (w2 i e 15).trans n3, (w2 i e 16).trans n4, (w2 i e 17).trans n5⟩
      · rw [rkU i hi]; exact q2.mono (by omega) (Nat.le_refl _) (fun y hy hr => by rw [rkU y hy]; exact hr)
      · rw [bdU i hi]; exact q3
      · rw [bdU i hi]; exact (w2 i e 18).trans q4
      · rw [bdU i hi]
        exact q5.trans (bdN_congr (fun e => (bdU a' (q2.2.2.1 e).1).symm) (fun e => (bdU b' (q2.2.2.2.1 e).1).symm))
      · rw [efl _ _ _ _ m' _ q2, w2 i e 19]; exact q6
theorem PLC.rk4 {G : Nat → Nat → Int32} {V : Nat → Int32} {nn nf : Nat} {bd rk : Nat → Nat} (h : PLC G V nn nf bd rk) : PLC G V nn nf bd (fun i => 4 * rk i) := by
  obtain ⟨h1, h2, h3, h4, h5, h6, h7⟩ := h
  refine ⟨h1, h2, h3, h4, h5, h6, fun i hi => ?_⟩
  obtain ⟨k, a, b, m, v, q1, q2, q3⟩ := h7 i hi
  exact ⟨k, a, b, m, v, q1, q2.mono (Nat.le_refl _) (Nat.le_refl _) (fun y _ hr => by dsimp only; omega), q3⟩
/-! class and reference hold the same plan -/
def AGR (G H : Nat → Nat → Int32) (nn nf : Nat) : Prop :=
  (∀ i, i < 4 → G 3 i = H 1 i) ∧ (∀ i, i < 72 → G 2 i = H 2 i) ∧ (∀ i, i < 8 → G 4 i = H 3 i) ∧
  (∀ i, i < nf → G 6 i = H 4 i ∧ G 7 i = H 5 i ∧ (∀ kd : Nat, H 4 i = nI kd → 2 ≤ kd → kd < 12 → kd ≠ 6 → kd ≠ 11 → G 8 i = H 6 i) ∧ G 9 i = H 9 i ∧ G 10 i = H 7 i ∧ G 11 i = H 8 i) ∧
  (∀ i, i < nn → G 13 i = H 10 i ∧ G 14 i = H 11 i ∧ G 15 i = H 12 i ∧ G 16 i = H 13 i ∧ G 17 i = H 14 i)
theorem put_at {H : Nat → Nat → Int32} {nn nf : Nat} {rk : Nat → Nat} {r x k a b m v : Nat} (hx : x < 60) (sh : shN nn nf rk r k a b m v) :
    (∀ p, p ≠ 10 → p ≠ 11 → p ≠ 12 → p ≠ 13 → p ≠ 14 → fX6_put_G H (nI x) (nI k) (nI a) (nI b) (nI m) (nI v) p = H p) ∧
    (∀ j, j ≠ x → ∀ p, fX6_put_G H (nI x) (nI k) (nI a) (nI b) (nI m) (nI v) p j = H p j) ∧
    fX6_put_G H (nI x) (nI k) (nI a) (nI b) (nI m) (nI v) 10 x = nI k ∧ fX6_put_G H (nI x) (nI k) (nI a) (nI b) (nI m) (nI v) 11 x = nI a ∧ fX6_put_G H (nI x) (nI k) (nI a) (nI b) (nI m) (nI v) 12 x = nI b ∧ fX6_put_G H (nI x) (nI k) (nI a) (nI b) (nI m) (nI v) 13 x = nI m ∧ fX6_put_G H (nI x) (nI k) (nI a) (nI b) (nI m) (nI v) 14 x = nI v := by
  obtain ⟨k8, -, -, -, sb, -, sm, -, -, -, -, sv⟩ := sh
  have ex : ix (nI x) = x := ix_nI (by omega)
  have eb : (if fX6_isTwo (nI k) = 0 then 0 else nI b : Int32) = nI b := by
    refine if_as (fun e => ?_) (fun _ => rfl)
    rw [t2_n k8] at e
    by_cases c : k = 4 ∨ k = 5
    · rw [if_pos c] at e; exact absurd e (by decide)
    · rw [sb c]; rfl
  have em : (if fX6_hasMember (nI k) = 0 then 0 else nI m : Int32) = nI m := by
    refine if_as (fun e => ?_) (fun _ => rfl)
    rw [hM_n k8] at e
    by_cases c : k = 2 ∨ k = 4 ∨ k = 6
    · rw [if_pos c] at e; exact absurd e (by decide)
    · rw [sm c]; rfl
  have ev : (if fX6_hasNumber (nI k) = 0 then 0 else nI v : Int32) = nI v := by
    refine if_as (fun e => ?_) (fun _ => rfl)
    rw [hV_n k8] at e
    by_cases c : k = 0 ∨ k = 5 ∨ k = 7
    · rw [sv c]; rfl
    · rw [if_neg c] at e; exact absurd e (by decide)
  unfold fX6_put_G
  rw [eb, em, ev, ex]
  refine ⟨fun p h1 h2 h3 h4 h5 => ?_, fun j hj p => ?_, ?_, ?_, ?_, ?_, ?_⟩
  · rw [ug_other h5, ug_other h4, ug_other h3, ug_other h2, ug_other h1]
  · simp only [ug_if, hj, and_false, if_false]
  · simp only [ug_if, and_true, if_true]; rfl
  · simp only [ug_if, and_true, if_true]; rfl
  · simp only [ug_if, and_true, if_true]; rfl
  · simp only [ug_if, and_true, if_true]; rfl
  · simp only [ug_if, and_true, if_true]
theorem AGR.write {G H : Nat → Nat → Int32} {nn nf : Nat} (h : AGR G H nn nf) {nn' nf' x r k a b m v : Nat} {rk : Nat → Nat} (hx : x < 60) (hn : nn' ≤ nn ∨ (nn' = nn + 1 ∧ x = nn)) (sh : shN nn nf' rk r k a b m v) : AGR (fX1_write_G G (nI x) (nI k) (nI a) (nI b) (nI m) (nI v)) (fX6_put_G H (nI x) (nI k) (nI a) (nI b) (nI m) (nI v)) nn' nf := by
  obtain ⟨h1, h2, h3, h4, h5⟩ := h
  obtain ⟨w1, w2, ⟨w31, w32, w33, w34, w35⟩, -, -⟩ := write_at (G := G) hx sh
  obtain ⟨u1, u2, u3, u4, u5, u6, u7⟩ := put_at (H := H) hx sh
  generalize fX1_write_G G (nI x) (nI k) (nI a) (nI b) (nI m) (nI v) = G' at *
  generalize fX6_put_G H (nI x) (nI k) (nI a) (nI b) (nI m) (nI v) = H' at *
  have w : ∀ p, p < 13 → G' p = G p := fun p hp => w1 p (by omega) (by omega) (by omega) (by omega) (by omega) (by omega) (by omega)
  have u : ∀ p, p < 10 → H' p = H p := fun p hp => u1 p (by omega) (by omega) (by omega) (by omega) (by omega)
  refine ⟨fun i hi => by rw [w 3 (by decide), u 1 (by decide)]; exact h1 i hi, fun i hi => by rw [w 2 (by decide), u 2 (by decide)]; exact h2 i hi, fun i hi => by rw [w 4 (by decide), u 3 (by decide)]; exact h3 i hi, fun i hi => ?_, fun i hi => ?_⟩
  · rw [w 6 (by decide), w 7 (by decide), w 8 (by decide), w 9 (by decide), w 10 (by decide), w 11 (by decide), u 4 (by decide), u 5 (by decide), u 6 (by decide), u 7 (by decide), u 8 (by decide), u 9 (by decide)]
    exact h4 i hi
  · by_cases e : i = x
    · subst e
      exact ⟨w31.trans u3.symm, w32.trans u4.symm, w33.trans u5.symm, w34.trans u6.symm, w35.trans u7.symm⟩
    · rw [w2 i e, w2 i e, w2 i e, w2 i e, w2 i e, u2 i e, u2 i e, u2 i e, u2 i e, u2 i e]
      exact h5 i (by omega)
