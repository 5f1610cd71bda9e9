/-! a formula more -/
theorem lt2_le1 (x : Int32) : x < 2 ↔ x ≤ 1 := by
  rw [Int32.lt_iff_toInt_lt, Int32.le_iff_toInt_le]
  have e1 : (2 : Int32).toInt = 2 := rfl
  have e2 : (1 : Int32).toInt = 1 := rfl
  omega
theorem tkF_eq (x : Int32) : fX0_takesFirst x = fX6_hasOne x := by
  unfold fX0_takesFirst fX6_hasOne
  by_cases c : x < 2
  · rw [if_pos c, if_pos ((lt2_le1 x).mp c)]
  · rw [if_neg c, if_neg (fun w => c ((lt2_le1 x).mpr w))]
theorem tkS_eq (x : Int32) : fX0_takesSecond x = fX6_hasTwo x := by
  unfold fX0_takesSecond fX6_hasTwo
  by_cases c : x < 2
  · rw [if_pos c, if_pos ((lt2_le1 x).mp c)]
  · rw [if_neg c, if_neg (fun w => c ((lt2_le1 x).mpr w))]
theorem two_one {x : Int32} (h : ¬ fX6_hasTwo x = 0) : ¬ fX6_hasOne x = 0 := by
  unfold fX6_hasTwo at h
  unfold fX6_hasOne
  by_cases c : x ≤ 1
  · rw [if_pos c] at h; exact absurd rfl h
  · rw [if_neg c]; decide
theorem add_at {G : Nat → Nat → Int32} {V : Nat → Int32} {nf : Nat} {x a b : Int32} (h0 : V 0 = nI nf) (hnf : nf < 2 ^ 31) (hr : ¬ fX0_hasRoom G V x a b = 0) :
    (∀ p, p < 6 ∨ 11 < p → fX0_add_G G V x a b p = G p) ∧ (∀ j, j ≠ nf → ∀ p, fX0_add_G G V x a b p j = G p j) ∧ fX0_add_G G V x a b 6 nf = x ∧ fX0_add_G G V x a b 7 nf = a ∧ fX0_add_G G V x a b 8 nf = (if fX0_takesSecond x = 0 then 0 else b) ∧ fX0_add_G G V x a b 9 nf = fX0_sizeOf G x a b ∧ fX0_add_G G V x a b 10 nf = fX0_readsOf G x a b ∧ fX0_add_G G V x a b 11 nf = fX0_failsOf G x a b := by
  have e : ix (V 0) = nf := by rw [h0]; exact ix_nI hnf
  unfold fX0_add_G
  rw [if_neg hr, e]
  have es : fX0_sizeOf (ug (ug (ug G 6 nf x) 7 nf a) 8 nf (if fX0_takesSecond x = 0 then 0 else b)) x a b = fX0_sizeOf G x a b := by
    unfold fX0_sizeOf; simp only [ug_p (show (9 : Nat) ≠ 8 by decide), ug_p (show (9 : Nat) ≠ 7 by decide), ug_p (show (9 : Nat) ≠ 6 by decide)]
  rw [es]
  generalize (if fX0_takesSecond x = 0 then 0 else b : Int32) = B
  have er : fX0_readsOf (ug (ug (ug (ug G 6 nf x) 7 nf a) 8 nf B) 9 nf (fX0_sizeOf G x a b)) x a b = fX0_readsOf G x a b := by
    unfold fX0_readsOf; simp only [ug_p (show (10 : Nat) ≠ 9 by decide), ug_p (show (10 : Nat) ≠ 8 by decide), ug_p (show (10 : Nat) ≠ 7 by decide), ug_p (show (10 : Nat) ≠ 6 by decide)]
  rw [er]
  have ef : fX0_failsOf (ug (ug (ug (ug (ug G 6 nf x) 7 nf a) 8 nf B) 9 nf (fX0_sizeOf G x a b)) 10 nf (fX0_readsOf G x a b)) x a b = fX0_failsOf G x a b := by
    unfold fX0_failsOf; simp only [ug_p (show (11 : Nat) ≠ 10 by decide), ug_p (show (11 : Nat) ≠ 9 by decide), ug_p (show (11 : Nat) ≠ 8 by decide), ug_p (show (11 : Nat) ≠ 7 by decide), ug_p (show (11 : Nat) ≠ 6 by decide)]
  rw [ef]
  refine ⟨fun p hp => ?_, fun j hj p => ?_, ?_, ?_, ?_, ?_, ?_, ?_⟩
  · rw [ug_other (by omega), ug_other (by omega), ug_other (by omega), ug_other (by omega), ug_other (by omega), ug_other (by omega)]
  · simp only [ug_if, hj, and_false, if_false]
  all_goals simp [ug_if]
def rdE (H : Nat → Nat → Int32) (x a b : Int32) : Int32 := if fX6_hasOne x = 0 then (if x = 0 then (1 <<< (a &&& 31)) else 0) else (if fX6_hasTwo x = 0 then ((if x = 0 then (1 <<< (a &&& 31)) else 0) ||| H 7 (ix a)) else (((if x = 0 then (1 <<< (a &&& 31)) else 0) ||| H 7 (ix a)) ||| H 7 (ix b)))
def m0E (x : Int32) : Int32 := if x = 5 then 1 else (if x = 6 then 1 else 0)
def orE (p q : Int32) : Int32 := if p = 0 then (if q = 0 then 0 else 1) else 1
def mfE (H : Nat → Nat → Int32) (x a b : Int32) : Int32 := if fX6_hasOne x = 0 then m0E x else (if fX6_hasTwo x = 0 then orE (m0E x) (H 8 (ix a)) else orE (orE (m0E x) (H 8 (ix a))) (H 8 (ix b)))
theorem tell_at {H : Nat → Nat → Int32} {U : Nat → Int32} {nf : Nat} {x a b : Int32} (h0 : U 0 = nI nf) (hnf : nf < 2 ^ 31) (ha : ¬ fX6_hasOne x = 0 → ix a ≠ nf) (hb : ¬ fX6_hasTwo x = 0 → ix b ≠ nf) :
    (∀ p, p < 4 ∨ 9 < p → fX6_tell_G H U x a b p = H p) ∧ (∀ j, j ≠ nf → ∀ p, fX6_tell_G H U x a b p j = H p j) ∧ fX6_tell_G H U x a b 4 nf = x ∧ fX6_tell_G H U x a b 5 nf = a ∧ fX6_tell_G H U x a b 6 nf = b ∧ fX6_tell_G H U x a b 9 nf = fX6_sizeOf H x a b ∧ fX6_tell_G H U x a b 7 nf = rdE H x a b ∧ fX6_tell_G H U x a b 8 nf = mfE H x a b := by
  have e : ix (U 0) = nf := by rw [h0]; exact ix_nI hnf
  unfold fX6_tell_G rdE mfE orE m0E
  rw [e]
  generalize (if x = 0 then (1 <<< (a &&& 31)) else 0 : Int32) = R0
  generalize (if x = 5 then 1 else (if x = 6 then 1 else 0) : Int32) = M0
  generalize fX6_sizeOf H x a b = S0
  by_cases o : fX6_hasOne x = 0
  · have t : fX6_hasTwo x = 0 := Classical.byContradiction fun w => two_one w o
    rw [if_pos o, if_pos o, if_pos o, if_pos t]
    refine ⟨fun p hp => ?_, fun j hj p => ?_, ?_, ?_, ?_, ?_, ?_, ?_⟩
    · rw [ug_other (by omega), ug_other (by omega), ug_other (by omega), ug_other (by omega), ug_other (by omega), ug_other (by omega)]
    · simp only [ug_if, hj, and_false, if_false]
    all_goals simp [ug_if]
  · have hA := ha o
    rw [if_neg o, if_neg o, if_neg o]
    by_cases t : fX6_hasTwo x = 0
    · rw [if_pos t, if_pos t, if_pos t]
      refine ⟨fun p hp => ?_, fun j hj p => ?_, ?_, ?_, ?_, ?_, ?_, ?_⟩
      · simp only [ug_if]
        funext j
        simp only [ug_if]
        simp [show ¬ p = 8 by omega, show ¬ p = 7 by omega, show ¬ p = 6 by omega, show ¬ p = 5 by omega, show ¬ p = 4 by omega, show ¬ p = 9 by omega]
      · simp only [ug_if, hj, and_false, if_false]
      all_goals simp [ug_if, hA]
    · have hB := hb t
      rw [if_neg t, if_neg t, if_neg t]
      refine ⟨fun p hp => ?_, fun j hj p => ?_, ?_, ?_, ?_, ?_, ?_, ?_⟩
      · funext j
        simp only [ug_if]
        simp [show ¬ p = 8 by omega, show ¬ p = 7 by omega, show ¬ p = 6 by omega, show ¬ p = 5 by omega, show ¬ p = 4 by omega, show ¬ p = 9 by omega]
      · simp only [ug_if, hj, and_false, if_false]
      all_goals simp [ug_if, hA, hB]
theorem rd_eq {G H : Nat → Nat → Int32} {x a b : Int32} (ha : ¬ fX6_hasOne x = 0 → G 10 (ix a) = H 7 (ix a)) (hb : ¬ fX6_hasTwo x = 0 → G 10 (ix b) = H 7 (ix b)) : fX0_readsOf G x a b = rdE H x a b := by
  unfold fX0_readsOf rdE
  rw [tkF_eq, tkS_eq]
  by_cases o : fX6_hasOne x = 0
  · have t : fX6_hasTwo x = 0 := Classical.byContradiction fun w => two_one w o
    rw [if_pos o, if_pos o, if_pos t]
    by_cases c : x = 0
    · rw [if_pos c, if_pos c]
    · rw [if_neg c, if_neg c]; rfl
  · have x0 : ¬ x = 0 := fun w => o (by rw [w]; rfl)
    rw [if_neg o, if_neg o, if_neg x0, if_neg x0, ha o]
    by_cases t : fX6_hasTwo x = 0
    · rw [if_pos t, if_pos t]; simp
    · rw [if_neg t, if_neg t, hb t]; simp
theorem mf_eq {G H : Nat → Nat → Int32} {x a b : Int32} (ha : ¬ fX6_hasOne x = 0 → G 11 (ix a) = H 8 (ix a)) (hb : ¬ fX6_hasTwo x = 0 → G 11 (ix b) = H 8 (ix b)) : fX0_failsOf G x a b = mfE H x a b := by
  unfold fX0_failsOf mfE orE m0E
  rw [tkF_eq, tkS_eq]
  by_cases c5 : x = 5
  · subst c5
    rw [if_pos rfl, if_neg (show ¬ fX6_hasOne 5 = 0 by decide), if_neg (show ¬ fX6_hasTwo 5 = 0 by decide)]
    rfl
  · by_cases c6 : x = 6
    · subst c6
      rw [if_neg c5, if_pos rfl, if_neg (show ¬ fX6_hasOne 6 = 0 by decide), if_pos (show fX6_hasTwo 6 = 0 by decide)]
      rfl
    · rw [if_neg c5, if_neg c6, if_neg c5, if_neg c6]
      by_cases o : fX6_hasOne x = 0
      · have t : fX6_hasTwo x = 0 := Classical.byContradiction fun w => two_one w o
        rw [if_pos o, if_pos o, if_pos t]
      · rw [if_neg o, if_neg o, ha o]
        by_cases t : fX6_hasTwo x = 0
        · rw [if_pos t, if_pos t, if_pos (show (0 : Int32) = 0 from rfl)]
        · rw [if_neg t, if_neg t, hb t, if_pos (show (0 : Int32) = 0 from rfl)]
          by_cases w : H 8 (ix a) = 0
          · rw [if_pos w, if_pos w, if_pos rfl]
          · rw [if_neg w, if_neg w, if_neg (by decide)]
theorem fl01 {G : Nat → Nat → Int32} {x a b : Int32} : fX0_failsOf G x a b = 0 ∨ fX0_failsOf G x a b = 1 := b_X0_failsOf G x a b
/-- a formula as it may be told -/
def fOk (nf kd : Nat) (a b : Int32) : Prop := kd < 12 ∧ (kd = 0 → ∃ m : Nat, m < 6 ∧ a = nI m) ∧ (2 ≤ kd → ∃ j : Nat, j < nf ∧ a = nI j) ∧ (2 ≤ kd → kd ≠ 6 → kd ≠ 11 → ∃ j : Nat, j < nf ∧ b = nI j)
theorem has_n : ∀ kd : Nat, kd < 12 → (fX6_hasOne (nI kd) = if 2 ≤ kd then 1 else 0) ∧ (fX6_hasTwo (nI kd) = if 2 ≤ kd ∧ kd ≠ 6 ∧ kd ≠ 11 then 1 else 0) := by decide
theorem tell_sim {G H : Nat → Nat → Int32} {V U : Nat → Int32} {nn nf : Nat} {bd rk : Nat → Nat} (h : PLC G V nn nf bd rk) (ag : AGR G H nn nf) (u0 : U 0 = nI nf) {kd : Nat} {a b : Int32} (ok : fOk nf kd a b) (hr : ¬ fX0_hasRoom G V (nI kd) a b = 0) :
    PLC (fX0_add_G G V (nI kd) a b) (upd V 0 (V 0 + 1)) nn (nf + 1) bd rk ∧ AGR (fX0_add_G G V (nI kd) a b) (fX6_tell_G H U (nI kd) a b) nn (nf + 1) ∧ (∀ v, v < nf → fX0_add_G G V (nI kd) a b 11 v = G 11 v) ∧ fX0_add_G G V (nI kd) a b 11 nf = fX0_failsOf G (nI kd) a b ∧ (∀ p, p < 6 ∨ 11 < p → fX0_add_G G V (nI kd) a b p = G p) := by
  obtain ⟨k12, o1, o2, o3⟩ := ok
  obtain ⟨h1, h2, h3, h4, ⟨h5, h5b⟩, h6, h7⟩ := h
  obtain ⟨hO, hT⟩ := has_n kd k12
  have sz : nf < 40 ∧ ¬ 30 < fX0_sizeOf G (nI kd) a b := by
    unfold fX0_hasRoom at hr
    rw [h3] at hr
    by_cases c : (40 : Int32) ≤ nI nf
    · rw [if_pos c] at hr; exact absurd rfl hr
    · rw [if_neg c] at hr
      refine ⟨?_, fun w => ?_⟩
      · rcases Nat.lt_or_ge nf 40 with q | q
        · exact q
        · exact absurd (nI_le (a := 40) q (by omega)) c
      · rw [if_pos w] at hr; exact hr rfl
  have one : ¬ fX6_hasOne (nI kd) = 0 → ∃ j : Nat, j < nf ∧ a = nI j := fun w => o2 (by
    rw [hO] at w
    by_cases c : 2 ≤ kd
    · exact c
    · rw [if_neg c] at w; exact absurd rfl w)
  have two : ¬ fX6_hasTwo (nI kd) = 0 → ∃ j : Nat, j < nf ∧ b = nI j := fun w => by
    rw [hT] at w
    by_cases c : 2 ≤ kd ∧ kd ≠ 6 ∧ kd ≠ 11
    · exact o3 c.1 c.2.1 c.2.2
    · rw [if_neg c] at w; exact absurd rfl w
  have ixa : ¬ fX6_hasOne (nI kd) = 0 → ix a < nf := fun w => by
    obtain ⟨j, hj, e⟩ := one w; rw [e, ix_nI (by omega)]; exact hj
  have ixb : ¬ fX6_hasTwo (nI kd) = 0 → ix b < nf := fun w => by
    obtain ⟨j, hj, e⟩ := two w; rw [e, ix_nI (by omega)]; exact hj
  obtain ⟨a1, a2, a3, a4, a5, a6, a7, a8⟩ := add_at h3 (by omega) hr
  obtain ⟨t1, t2, t3, t4, t5, t6, t7, t8⟩ := tell_at (H := H) (x := nI kd) (a := a) (b := b) u0 (by omega) (fun w => Nat.ne_of_lt (ixa w)) (fun w => Nat.ne_of_lt (ixb w))
  have agf := ag.2.2.2.1
  -- the size
  have hsz : ∃ s : Nat, s ≤ 30 ∧ fX0_sizeOf G (nI kd) a b = nI s := by
    have A : ∃ s : Nat, s ≤ 30 ∧ (if fX0_takesFirst (nI kd) = 0 then 0 else G 9 (ix a) : Int32) = nI s := by
      rw [tkF_eq]
      by_cases c : fX6_hasOne (nI kd) = 0
      · rw [if_pos c]; exact ⟨0, by omega, rfl⟩
      · rw [if_neg c]; exact (h5b _ (ixa c)).1
    have B : ∃ s : Nat, s ≤ 30 ∧ (if fX0_takesSecond (nI kd) = 0 then 0 else G 9 (ix b) : Int32) = nI s := by
      rw [tkS_eq]
      by_cases c : fX6_hasTwo (nI kd) = 0
      · rw [if_pos c]; exact ⟨0, by omega, rfl⟩
      · rw [if_neg c]; exact (h5b _ (ixb c)).1
    obtain ⟨sa, sa1, sa2⟩ := A
    obtain ⟨sb, sb1, sb2⟩ := B
    have e : fX0_sizeOf G (nI kd) a b = nI (1 + sa + sb) := by
      unfold fX0_sizeOf; rw [sa2, sb2, show (1 : Int32) = nI 1 from rfl, nI_add, nI_add]
    refine ⟨1 + sa + sb, ?_, e⟩
    have := sz.2
    rw [e, show (30 : Int32) = nI 30 from rfl, nI_ltI (by omega) (by omega)] at this
    omega
  generalize hG : fX0_add_G G V (nI kd) a b = G' at *
  generalize hH : fX6_tell_G H U (nI kd) a b = H' at *
  have g11 : ∀ v, v < nf → G' 11 v = G 11 v := fun v hv => a2 v (by omega) 11
  refine ⟨⟨h1, by omega, ?_, h4, ⟨?_, ?_⟩, ?_, ?_⟩, ⟨?_, ?_, ?_, ?_, ?_⟩, g11, a8, a1⟩
  · show V 0 + 1 = _
    rw [h3, nI_1]
  · intro i hi
    by_cases e : i = nf
    · subst e
      refine ⟨kd, k12, a3, fun q => by rw [a4]; exact o1 q, fun q => by rw [a4]; exact o2 q, fun q q6 q11 => ?_⟩
      have e2 : fX6_hasTwo (nI kd) = 1 := hT.trans (if_pos ⟨q, q6, q11⟩)
      rw [a5, tkS_eq, e2, if_neg (show ¬ (1 : Int32) = 0 by decide)]; exact o3 q q6 q11
    · obtain ⟨kk, b1, b2, b3, b4, b5⟩ := h5 i (by omega)
      refine ⟨kk, b1, (a2 i e 6).trans b2, fun q => by rw [a2 i e 7]; exact b3 q, fun q => by rw [a2 i e 7]; exact b4 q, fun q q6 q11 => by rw [a2 i e 8]; exact b5 q q6 q11⟩
  · intro i hi
    by_cases e : i = nf
    · subst e
      exact ⟨by rw [a6]; exact hsz, by rw [a8]; exact fl01⟩
    · rw [a2 i e 9, a2 i e 11]; exact h5b i (by omega)
  · rw [a1 3 (by omega)]; exact h6
  · intro i hi
    obtain ⟨k, a', b', m, v, ⟨q1, q2, q3, q4, q5⟩, s, b1, b2, b3, b4⟩ := h7 i hi
    refine ⟨k, a', b', m, v, ?_, s.mono (Nat.le_refl _) (by omega) (fun y _ hr => hr), b1, ?_, b3, ?_⟩
    · unfold ndE
      rw [a1 13 (by omega), a1 14 (by omega), a1 15 (by omega), a1 16 (by omega), a1 17 (by omega)]
      exact ⟨q1, q2, q3, q4, q5⟩
    · rw [a1 18 (by omega)]; exact b2
    · have e19 : G' 19 = G 19 := a1 19 (by omega)
      rw [e19, b4]
      refine (failsOf_eq s.1 (fun _ => by rw [e19]) (fun _ => by rw [e19]) (fun e => ?_)).symm
      have := s.2.2.2.2.2.2.2.1 e
      rw [ix_nI (by omega)]; exact g11 v this
  · intro i hi; rw [a1 3 (by omega), t1 1 (by omega)]; exact ag.1 i hi
  · intro i hi; rw [a1 2 (by omega), t1 2 (by omega)]; exact ag.2.1 i hi
  · intro i hi; rw [a1 4 (by omega), t1 3 (by omega)]; exact ag.2.2.1 i hi
  · intro i hi
    by_cases e : i = nf
    · subst e
      refine ⟨a3.trans t3.symm, a4.trans t4.symm, fun kk hk k2 k12' k6 k11 => ?_, ?_, ?_, ?_⟩
      · have ek : kd = kk := by
          rw [t3, nI_eq (by omega) (by omega)] at hk; exact hk
        subst ek
        have e2 : fX6_hasTwo (nI kd) = 1 := hT.trans (if_pos ⟨k2, k6, k11⟩)
        rw [a5, t5, tkS_eq, e2, if_neg (show ¬ (1 : Int32) = 0 by decide)]
      · rw [a6, t6]
        unfold fX0_sizeOf fX6_sizeOf
        rw [tkF_eq, tkS_eq]
        congr 1
        · congr 1
          by_cases c : fX6_hasOne (nI kd) = 0
          · rw [if_pos c, if_pos c]
          · rw [if_neg c, if_neg c]; exact (agf _ (ixa c)).2.2.2.1
        · by_cases c : fX6_hasTwo (nI kd) = 0
          · rw [if_pos c, if_pos c]
          · rw [if_neg c, if_neg c]; exact (agf _ (ixb c)).2.2.2.1
      · rw [a7, t7]; exact rd_eq (fun w => (agf _ (ixa w)).2.2.2.2.1) (fun w => (agf _ (ixb w)).2.2.2.2.1)
      · rw [a8, t8]; exact mf_eq (fun w => (agf _ (ixa w)).2.2.2.2.2) (fun w => (agf _ (ixb w)).2.2.2.2.2)
    · rw [a2 i e, a2 i e, a2 i e, a2 i e, a2 i e, a2 i e, t2 i e, t2 i e, t2 i e, t2 i e, t2 i e, t2 i e]
      exact agf i (by omega)
  · intro i hi
    rw [a1 13 (by omega), a1 14 (by omega), a1 15 (by omega), a1 16 (by omega), a1 17 (by omega), t1 10 (by omega), t1 11 (by omega), t1 12 (by omega), t1 13 (by omega), t1 14 (by omega)]
    exact ag.2.2.2.2 i hi
