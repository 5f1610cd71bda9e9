theorem set_in (x : Int32) : fX5_isSet x = fX6_in x.toInt64 0 63 := by
  unfold fX5_isSet
  rcases inC x 63 (by decide) with ⟨j, hj, rfl, e⟩ | ⟨-, w, e⟩
  · rw [show fX6_in (nI j).toInt64 0 63 = 1 from e, if_neg (nI_pos (by omega)), if_neg (show ¬ (64 : Int32) ≤ nI j from nI_ge (b := 64) (by omega) (by decide))]
  · rw [show fX6_in x.toInt64 0 63 = 0 from e]
    by_cases c : x < 0
    · rw [if_pos c]
    · rw [if_neg c, if_pos]
      have h1 := Int32.lt_iff_toInt_lt.mp (w.resolve_left c)
      rw [Int32.le_iff_toInt_le]
      have e5 : (nI 63).toInt = 63 := rfl
      have e6 : (64 : Int32).toInt = 64 := rfl
      omega
theorem val_eq {V U : Nat → Int32} {nf : Nat} (hnf : nf ≤ 40) (v0 : V 0 = nI nf) (u0 : U 0 = nI nf) (m v : Int32) (kd : Nat) (k8 : kd ≤ 8) : fX1_isValue V (nI kd) m v = fX6_isRight U (nI kd) v m := by
  have eF := hasF_eq (V := V) (U := U) (by omega) v0 u0 v
  have e100 : fX6_in v.toInt64 0 100 = (if v < 0 then 0 else if nI 100 < v then 0 else 1) := in_iff (m := 100) (by decide)
  unfold fX1_isValue fX6_isRight
  rw [eF, set_in, mem_in, e100]
  rfl
/-- what the reference asks of a new node, in its order -/
def tdE (U : Nat → Int32) (x a b m v : Int32) : Int32 :=
  if fX6_in x.toInt64 0 8 = 0 then 0 else if (if x = 0 then fX6_in a.toInt64 0 3 else fX6_isNode U a) = 0 then 0 else if (if fX6_isTwo x = 0 then 1 else fX6_isNode U b) = 0 then 0 else if (if fX6_hasMember x = 0 then 1 else fX6_in m.toInt64 0 5) = 0 then 0 else if fX6_isRight U x v m = 0 then 0 else 1
theorem tR_eq {kd : Nat} (h : kd ≤ 8) : fX1_takesRight (nI kd) = fX6_isTwo (nI kd) := by rw [tR_n h, t2_n h]
theorem tM_eq {kd : Nat} (h : kd ≤ 8) : fX1_takesMember (nI kd) = fX6_hasMember (nI kd) := by rw [tM_n h, hM_n h]
theorem td_eq {V U : Nat → Int32} {nn nf : Nat} (hnn : nn ≤ 60) (hnf : nf ≤ 40) (v0 : V 0 = nI nf) (u0 : U 0 = nI nf) (v1 : V 1 = nI nn) (u1 : U 1 = nI nn) (x a b m v : Int32) : fX1_isAsTold V x a b m v = tdE U x a b m v := by
  unfold fX1_isAsTold tdE
  rcases inC x 8 (by decide) with ⟨kd, hj, rfl, e⟩ | ⟨-, w, e⟩
  · rw [show fX6_in (nI kd).toInt64 0 8 = 1 from e, if_neg (nI_pos (by omega)), if_pos (show nI kd < 9 from nI_lt (b := 9) (by omega) (by decide)), if_neg (show ¬ (1 : Int32) = 0 by decide)]
    by_cases k0 : kd = 0
    · subst k0
      rw [if_pos (show nI 0 = 0 from rfl), if_pos (show nI 0 = 0 from rfl), if_pos (show fX6_isTwo (nI 0) = 0 by decide), if_pos (show fX6_hasMember (nI 0) = 0 by decide), if_neg (show ¬ (1 : Int32) = 0 by decide), if_neg (show ¬ (1 : Int32) = 0 by decide)]
      have er : fX6_isRight U (nI 0) v m = 1 := by unfold fX6_isRight; rfl
      rw [er, if_neg (show ¬ (1 : Int32) = 0 by decide)]
      rcases in3 a with ⟨j, hj, rfl, e1, e2⟩ | ⟨e1, e2⟩
      · rw [e2, if_neg (show ¬ (1 : Int32) = 0 by decide)]; exact e1
      · rw [e2, if_pos rfl]; exact e1
    · have n0 : ¬ nI kd = 0 := fun w => k0 ((kI (by omega) (by decide : 0 < 2 ^ 31)).mp w)
      rw [if_neg n0, if_neg n0, ← hasN_eq (by omega) v1 u1 a, ← hasN_eq (by omega) v1 u1 b, ← tR_eq (by omega), ← tM_eq (by omega), ← mem_in, ← val_eq hnf v0 u0 m v kd (by omega)]
      generalize fX1_has V a = A
      generalize fX1_has V b = B
      generalize fX1_takesRight (nI kd) = R
      generalize fX1_takesMember (nI kd) = M
      generalize fX5_isMember m = M2
      generalize fX1_isValue V (nI kd) m v = W
      by_cases c1 : A = 0 <;> by_cases c2 : B = 0 <;> by_cases c3 : R = 0 <;> by_cases c4 : M = 0 <;> by_cases c5 : M2 = 0 <;> by_cases c6 : W = 0 <;> simp [c1, c2, c3, c4, c5, c6]
  · rw [if_pos (show fX6_in x.toInt64 0 8 = 0 from e)]
    by_cases c : x < 0
    · rw [if_pos c]
    · rw [if_neg c, if_neg]
      intro w2
      have h1 := Int32.lt_iff_toInt_lt.mp (w.resolve_left c)
      have h2 := Int32.lt_iff_toInt_lt.mp w2
      have e5 : (nI 8).toInt = 8 := rfl
      have e6 : (9 : Int32).toInt = 9 := rfl
      omega
theorem td_of {V : Nat → Int32} {nn nf : Nat} (hnn : nn ≤ 60) (hnf : nf ≤ 40) (v0 : V 0 = nI nf) (v1 : V 1 = nI nn) {x a b m v : Int32} (h : ¬ fX1_isAsTold V x a b m v = 0) : ∃ kd aN bN mN vN : Nat, x = nI kd ∧ a = nI aN ∧ (∀ (rk : Nat → Nat) (r : Nat), (∀ y, y < nn → rk y < r) → shN nn nf rk r kd aN bN mN vN) ∧ (kd = 4 ∨ kd = 5 → b = nI bN) ∧ (kd = 2 ∨ kd = 4 ∨ kd = 6 → m = nI mN) ∧ (¬ (kd = 0 ∨ kd = 5 ∨ kd = 7) → v = nI vN) := by
  unfold fX1_isAsTold at h
  obtain ⟨kd, k8, rfl⟩ : ∃ kd : Nat, kd ≤ 8 ∧ x = nI kd := by
    rcases pk_ix x (n := 9) (by decide) with w | w | ⟨j, hj, e⟩
    · rw [if_pos w] at h; exact absurd rfl h
    · by_cases c : x < 0
      · rw [if_pos c] at h; exact absurd rfl h
      · rw [if_neg c, if_neg (show ¬ x < 9 from Int32.not_lt.mpr w)] at h; exact absurd rfl h
    · exact ⟨j, by omega, e⟩
  rw [if_neg (nI_pos (by omega)), if_pos (show nI kd < 9 from nI_lt (b := 9) (by omega) (by decide))] at h
  by_cases k0 : kd = 0
  · subst k0
    rw [if_pos (show nI 0 = 0 from rfl)] at h
    obtain ⟨j, hj, rfl⟩ : ∃ j : Nat, j < 4 ∧ a = nI j := by
      rcases in3 a with ⟨j, hj, e, -, -⟩ | ⟨e1, -⟩
      · exact ⟨j, hj, e⟩
      · exact absurd e1 h
    exact ⟨0, j, 0, 0, 0, rfl, rfl, fun rk r _ => ⟨by decide, fun _ => hj, fun w => absurd rfl w, fun w => absurd w (by decide), fun _ => rfl, by decide, fun _ => rfl, fun w => absurd w (by decide), fun w => absurd w (by decide), fun w => absurd w (by decide), fun w => absurd w (by decide), fun _ => rfl⟩, fun w => absurd w (by decide), fun w => absurd w (by decide), fun w => absurd (Or.inl rfl) w⟩
  · have kk : kd = 1 ∨ kd = 2 ∨ kd = 3 ∨ kd = 4 ∨ kd = 5 ∨ kd = 6 ∨ kd = 7 ∨ kd = 8 := by omega
    have n0 : ¬ nI kd = 0 := fun w => k0 ((kI k8 (by decide : 0 < 2 ^ 31)).mp w)
    rw [if_neg n0, tR_n k8, tM_n k8] at h
    have ha : ¬ fX1_has V a = 0 := fun w => by rw [if_pos w] at h; exact h rfl
    obtain ⟨aN, haN, rfl⟩ := has_nat (by omega) v1 ha
    rw [if_neg ha] at h
    have hb : kd = 4 ∨ kd = 5 → ∃ j : Nat, j < nn ∧ b = nI j := fun q => by
      rw [if_pos q, if_neg (by decide)] at h
      have : ¬ fX1_has V b = 0 := fun w => by rw [if_pos w] at h; exact h rfl
      exact has_nat (by omega) v1 this
    have hmv : (kd = 2 ∨ kd = 4 ∨ kd = 6 → ∃ j : Nat, j < 6 ∧ m = nI j) ∧ ¬ fX1_isValue V (nI kd) m v = 0 := by
      have h2 : ¬ (if (if kd = 2 ∨ kd = 4 ∨ kd = 6 then 1 else 0 : Int32) = 0 then (if fX1_isValue V (nI kd) m v = 0 then 0 else 1) else (if fX5_isMember m = 0 then 0 else if fX1_isValue V (nI kd) m v = 0 then 0 else 1) : Int32) = 0 := by
        by_cases q : kd = 4 ∨ kd = 5
        · rw [if_pos q, if_neg (by decide)] at h
          have : ¬ fX1_has V b = 0 := fun w => by rw [if_pos w] at h; exact h rfl
          rw [if_neg this] at h; exact h
        · rw [if_neg q, if_pos rfl] at h; exact h
      by_cases q : kd = 2 ∨ kd = 4 ∨ kd = 6
      · rw [if_pos q, if_neg (by decide)] at h2
        have hm : ¬ fX5_isMember m = 0 := fun w => by rw [if_pos w] at h2; exact h2 rfl
        rw [if_neg hm] at h2
        refine ⟨fun _ => ?_, fun w => by rw [if_pos w] at h2; exact h2 rfl⟩
        rcases inC m 5 (by decide) with ⟨j, hj, e, -⟩ | ⟨-, -, e⟩
        · exact ⟨j, by omega, e⟩
        · rw [mem_in] at hm; exact absurd e hm
      · rw [if_neg q, if_pos rfl] at h2
        exact ⟨fun w => absurd w q, fun w => by rw [if_pos w] at h2; exact h2 rfl⟩
    obtain ⟨hm, hv⟩ := hmv
    obtain ⟨bN, eb, hbN⟩ : ∃ bN : Nat, (kd = 4 ∨ kd = 5 → b = nI bN ∧ bN < nn) ∧ (¬ (kd = 4 ∨ kd = 5) → bN = 0) := by
      by_cases q : kd = 4 ∨ kd = 5
      · obtain ⟨j, hj, e⟩ := hb q; exact ⟨j, fun _ => ⟨e, hj⟩, fun w => absurd q w⟩
      · exact ⟨0, fun w => absurd w q, fun _ => rfl⟩
    obtain ⟨mN, em, hmN, hm6⟩ : ∃ mN : Nat, (kd = 2 ∨ kd = 4 ∨ kd = 6 → m = nI mN) ∧ (¬ (kd = 2 ∨ kd = 4 ∨ kd = 6) → mN = 0) ∧ mN < 6 := by
      by_cases q : kd = 2 ∨ kd = 4 ∨ kd = 6
      · obtain ⟨j, hj, e⟩ := hm q; exact ⟨j, fun _ => e, fun w => absurd q w, hj⟩
      · exact ⟨0, fun w => absurd w q, fun _ => rfl, by decide⟩
    have sv : ∀ vN : Nat, (kd = 1 ∨ kd = 2 → vN < nf) → (kd = 3 ∨ kd = 4 → vN < 64) → (kd = 6 → vN < 6 ∧ vN ≠ mN) → (kd = 8 → vN ≤ 100) → (kd = 0 ∨ kd = 5 ∨ kd = 7 → vN = 0) → (¬ (kd = 0 ∨ kd = 5 ∨ kd = 7) → v = nI vN) → ∃ kd' aN' bN mN vN : Nat, nI kd = nI kd' ∧ nI aN = nI aN' ∧ (∀ (rk : Nat → Nat) (r : Nat), (∀ y, y < nn → rk y < r) → shN nn nf rk r kd' aN' bN mN vN) ∧ (kd' = 4 ∨ kd' = 5 → b = nI bN) ∧ (kd' = 2 ∨ kd' = 4 ∨ kd' = 6 → m = nI mN) ∧ (¬ (kd' = 0 ∨ kd' = 5 ∨ kd' = 7) → v = nI vN) := fun vN s1 s2 s3 s4 s5 s6 =>
      ⟨kd, aN, bN, mN, vN, rfl, rfl, fun rk r hrk => ⟨k8, fun e => absurd e k0, fun _ => ⟨haN, hrk _ haN⟩, fun e => ⟨(eb e).2, hrk _ (eb e).2⟩, hbN, hm6, hmN, s1, s2, s3, s4, s5⟩, fun e => (eb e).1, em, s6⟩
    rcases kk with rfl | rfl | rfl | rfl | rfl | rfl | rfl | rfl
    · obtain ⟨j, hj, e⟩ := hasF_nat (by omega) v0 (show ¬ fX0_has V v = 0 from hv)
      exact sv j (fun _ => hj) (fun w => absurd w (by decide)) (fun w => absurd w (by decide)) (fun w => absurd w (by decide)) (fun w => absurd w (by decide)) (fun _ => e)
    · obtain ⟨j, hj, e⟩ := hasF_nat (by omega) v0 (show ¬ fX0_has V v = 0 from hv)
      exact sv j (fun _ => hj) (fun w => absurd w (by decide)) (fun w => absurd w (by decide)) (fun w => absurd w (by decide)) (fun w => absurd w (by decide)) (fun _ => e)
    · have hv : ¬ fX5_isSet v = 0 := hv
      rw [set_in] at hv
      rcases inC v 63 (by decide) with ⟨j, hj, e, -⟩ | ⟨-, -, e⟩
      · exact sv j (fun w => absurd w (by decide)) (fun _ => by omega) (fun w => absurd w (by decide)) (fun w => absurd w (by decide)) (fun w => absurd w (by decide)) (fun _ => e)
      · exact absurd e hv
    · have hv : ¬ fX5_isSet v = 0 := hv
      rw [set_in] at hv
      rcases inC v 63 (by decide) with ⟨j, hj, e, -⟩ | ⟨-, -, e⟩
      · exact sv j (fun w => absurd w (by decide)) (fun _ => by omega) (fun w => absurd w (by decide)) (fun w => absurd w (by decide)) (fun w => absurd w (by decide)) (fun _ => e)
      · exact absurd e hv
    · exact sv 0 (fun w => absurd w (by decide)) (fun w => absurd w (by decide)) (fun w => absurd w (by decide)) (fun w => absurd w (by decide)) (fun _ => rfl) (fun w => absurd (Or.inr (Or.inl rfl)) w)
    · have hv : ¬ (if fX5_isMember v = 0 then 0 else (if v = m then 0 else 1) : Int32) = 0 := hv
      rw [mem_in] at hv
      rcases inC v 5 (by decide) with ⟨j, hj, e, -⟩ | ⟨-, -, e⟩
      · have c : ¬ fX6_in v.toInt64 0 5 = 0 := fun w => by rw [if_pos w] at hv; exact hv rfl
        rw [if_neg c] at hv
        have hne : ¬ v = m := fun w => by rw [if_pos w] at hv; exact hv rfl
        exact sv j (fun w => absurd w (by decide)) (fun w => absurd w (by decide)) (fun _ => ⟨by omega, fun w => hne (by rw [e, em (by decide), w])⟩) (fun w => absurd w (by decide)) (fun w => absurd w (by decide)) (fun _ => e)
      · rw [if_pos (show fX6_in v.toInt64 0 5 = 0 from e)] at hv; exact absurd rfl hv
    · exact sv 0 (fun w => absurd w (by decide)) (fun w => absurd w (by decide)) (fun w => absurd w (by decide)) (fun w => absurd w (by decide)) (fun _ => rfl) (fun w => absurd (Or.inr (Or.inr rfl)) w)
    · have hv : ¬ (if v < 0 then 0 else (if 100 < v then 0 else 1) : Int32) = 0 := hv
      rcases inC v 100 (by decide) with ⟨j, hj, e, -⟩ | ⟨-, w, -⟩
      · exact sv j (fun w => absurd w (by decide)) (fun w => absurd w (by decide)) (fun w => absurd w (by decide)) (fun _ => hj) (fun w => absurd w (by decide)) (fun _ => e)
      · rcases w with w | w
        · rw [if_pos w] at hv; exact absurd rfl hv
        · by_cases c : v < 0
          · rw [if_pos c] at hv; exact absurd rfl hv
          · rw [if_neg c, if_pos (show 100 < v from w)] at hv; exact absurd rfl hv
theorem ite_c {α : Type} {c : Prop} [Decidable c] {x x' y y' : α} (h : c → x = x') (h2 : ¬ c → y = y') : (if c then x else y) = if c then x' else y' := by
  by_cases w : c
  · rw [if_pos w, if_pos w, h w]
  · rw [if_neg w, if_neg w, h2 w]
/-- what isn't used isn't written -/
theorem write_mask {G : Nat → Nat → Int32} {y b m v : Int32} {kd aN bN mN vN : Nat} (k8 : kd ≤ 8) (eb : kd = 4 ∨ kd = 5 → b = nI bN) (em : kd = 2 ∨ kd = 4 ∨ kd = 6 → m = nI mN) (ev : ¬ (kd = 0 ∨ kd = 5 ∨ kd = 7) → v = nI vN) : fX1_write_G G y (nI kd) (nI aN) b m v = fX1_write_G G y (nI kd) (nI aN) (nI bN) (nI mN) (nI vN) ∧ fX1_boundOf G (nI kd) (nI aN) b v = fX1_boundOf G (nI kd) (nI aN) (nI bN) (nI vN) := by
  have e4 : nI kd = 4 → b = nI bN := fun w => eb (Or.inl ((kI k8 (by decide : 4 < 2 ^ 31)).mp w))
  have e5 : nI kd = 5 → b = nI bN := fun w => eb (Or.inr ((kI k8 (by decide : 5 < 2 ^ 31)).mp w))
  have e8 : nI kd = 8 → v = nI vN := fun w => ev (by have := (kI k8 (by decide : 8 < 2 ^ 31)).mp w; omega)
  have B : ∀ G : Nat → Nat → Int32, fX1_boundOf G (nI kd) (nI aN) b v = fX1_boundOf G (nI kd) (nI aN) (nI bN) (nI vN) := fun G => by
    unfold fX1_boundOf
    exact ite_c (fun _ => rfl) (fun _ => ite_c (fun _ => rfl) (fun _ => ite_c (fun _ => rfl) (fun _ => ite_c (fun _ => rfl) (fun _ => ite_c (fun w => by rw [e4 w]) (fun _ => ite_c (fun w => by rw [e5 w]) (fun _ => ite_c (fun _ => rfl) (fun _ => ite_c (fun _ => rfl) (fun _ => ite_c (fun w => by rw [e8 w]) (fun _ => rfl)))))))))
  have tr : ¬ fX1_takesRight (nI kd) = 0 → b = nI bN := fun w => by
    rw [tR_n k8] at w
    by_cases c : kd = 4 ∨ kd = 5
    · exact eb c
    · rw [if_neg c] at w; exact absurd rfl w
  have tm : ¬ fX1_takesMember (nI kd) = 0 → m = nI mN := fun w => by
    rw [tM_n k8] at w
    by_cases c : kd = 2 ∨ kd = 4 ∨ kd = 6
    · exact em c
    · rw [if_neg c] at w; exact absurd rfl w
  have tv : ¬ fX1_takesValue (nI kd) = 0 → v = nI vN := fun w => by
    rw [tV_n k8] at w
    by_cases c : kd = 0 ∨ kd = 5 ∨ kd = 7
    · rw [if_pos c] at w; exact absurd rfl w
    · exact ev c
  have tf : ¬ fX1_takesFormula (nI kd) = 0 → v = nI vN := fun w => by
    rw [tF_n k8] at w
    by_cases c : kd = 1 ∨ kd = 2
    · exact ev (by omega)
    · rw [if_neg c] at w; exact absurd rfl w
  have F : ∀ G : Nat → Nat → Int32, fX1_failsOf G (nI kd) (nI aN) b v = fX1_failsOf G (nI kd) (nI aN) (nI bN) (nI vN) := fun G => by
    unfold fX1_failsOf
    exact ite_c (fun _ => rfl) (fun _ => ite_c (fun _ => ite_c (fun _ => ite_c (fun _ => rfl) (fun w => by rw [tf w])) (fun w => by rw [tr w]; exact ite_c (fun _ => ite_c (fun _ => rfl) (fun w => by rw [tf w])) (fun _ => rfl))) (fun _ => rfl))
  refine ⟨?_, B G⟩
  unfold fX1_write_G
  rw [B, F, ite_c (c := fX1_takesRight (nI kd) = 0) (fun _ => rfl) (fun w => tr w), ite_c (c := fX1_takesMember (nI kd) = 0) (fun _ => rfl) (fun w => tm w), ite_c (c := fX1_takesValue (nI kd) = 0) (fun _ => rfl) (fun w => tv w)]
theorem put_mask {H : Nat → Nat → Int32} {y b m v : Int32} {kd aN bN mN vN : Nat} (k8 : kd ≤ 8) (eb : kd = 4 ∨ kd = 5 → b = nI bN) (em : kd = 2 ∨ kd = 4 ∨ kd = 6 → m = nI mN) (ev : ¬ (kd = 0 ∨ kd = 5 ∨ kd = 7) → v = nI vN) : fX6_put_G H y (nI kd) (nI aN) b m v = fX6_put_G H y (nI kd) (nI aN) (nI bN) (nI mN) (nI vN) := by
  have tr : ¬ fX6_isTwo (nI kd) = 0 → b = nI bN := fun w => by
    rw [t2_n k8] at w
    by_cases c : kd = 4 ∨ kd = 5
    · exact eb c
    · rw [if_neg c] at w; exact absurd rfl w
  have tm : ¬ fX6_hasMember (nI kd) = 0 → m = nI mN := fun w => by
    rw [hM_n k8] at w
    by_cases c : kd = 2 ∨ kd = 4 ∨ kd = 6
    · exact em c
    · rw [if_neg c] at w; exact absurd rfl w
  have tv : ¬ fX6_hasNumber (nI kd) = 0 → v = nI vN := fun w => by
    rw [hV_n k8] at w
    by_cases c : kd = 0 ∨ kd = 5 ∨ kd = 7
    · rw [if_pos c] at w; exact absurd rfl w
    · exact ev c
  unfold fX6_put_G
  rw [ite_c (c := fX6_isTwo (nI kd) = 0) (fun _ => rfl) (fun w => tr w), ite_c (c := fX6_hasMember (nI kd) = 0) (fun _ => rfl) (fun w => tm w), ite_c (c := fX6_hasNumber (nI kd) = 0) (fun _ => rfl) (fun w => tv w)]
