/-! ranks by counting -/
def cntR (rk : Nat → Nat) (r : Nat) : Nat → Nat
  | 0 => 0
  | n + 1 => cntR rk r n + (if rk n < r then 1 else 0)
theorem cnt_le (rk : Nat → Nat) (r : Nat) : ∀ n, cntR rk r n ≤ n
  | 0 => Nat.le_refl _
  | n + 1 => by
    have := cnt_le rk r n
    show cntR rk r n + (if rk n < r then 1 else 0) ≤ n + 1
    split <;> omega
theorem cnt_mono (rk : Nat → Nat) {r r' : Nat} (h : r ≤ r') : ∀ n, cntR rk r n ≤ cntR rk r' n
  | 0 => Nat.le_refl _
  | n + 1 => by
    have := cnt_mono rk h n
    show cntR rk r n + (if rk n < r then 1 else 0) ≤ cntR rk r' n + (if rk n < r' then 1 else 0)
    by_cases c : rk n < r
    · rw [if_pos c, if_pos (by omega)]; omega
    · rw [if_neg c]; omega
theorem cnt_lt (rk : Nat → Nat) {r r' j : Nat} (h : r ≤ r') (h1 : ¬ rk j < r) (h2 : rk j < r') : ∀ n, j < n → cntR rk r n < cntR rk r' n
  | 0, hj => absurd hj (Nat.not_lt_zero _)
  | n + 1, hj => by
    show cntR rk r n + (if rk n < r then 1 else 0) < cntR rk r' n + (if rk n < r' then 1 else 0)
    by_cases e : j = n
    · subst e
      have := cnt_mono rk h j
      rw [if_neg h1, if_pos h2]; omega
    · have := cnt_lt rk h h1 h2 n (by omega)
      by_cases c : rk n < r
      · rw [if_pos c, if_pos (by omega)]; omega
      · rw [if_neg c]; omega
theorem cnt_bd (rk : Nat → Nat) {r j : Nat} (h1 : ¬ rk j < r) : ∀ n, j < n → cntR rk r n < n
  | 0, hj => absurd hj (Nat.not_lt_zero _)
  | n + 1, hj => by
    show cntR rk r n + (if rk n < r then 1 else 0) < n + 1
    by_cases e : j = n
    · subst e
      have := cnt_le rk r j
      rw [if_neg h1]; omega
    · have := cnt_bd rk h1 n (by omega)
      split <;> omega
theorem PLC.cnt {G : Nat → Nat → Int32} {V : Nat → Int32} {nn nf : Nat} {bd rk : Nat → Nat} (h : PLC G V nn nf bd rk) : PLC G V nn nf bd (fun i => cntR rk (rk i) nn) := by
  obtain ⟨h1, h2, h3, h4, h5, h6, h7⟩ := h
  refine ⟨h1, h2, h3, h4, h5, h6, fun i hi => ?_⟩
  obtain ⟨k, a, b, m, v, q1, q2, q3⟩ := h7 i hi
  exact ⟨k, a, b, m, v, q1, q2.mono (Nat.le_refl _) (Nat.le_refl _) (fun y hy hr => cnt_lt rk (Nat.le_of_lt hr) (Nat.lt_irrefl _) hr nn hy), q3⟩
theorem AGR.agQ {G H : Nat → Nat → Int32} {nn nf : Nat} (h : AGR G H nn nf) : agQ G (FM H) nn nf := by
  obtain ⟨h1, h2, h3, h4, h5⟩ := h
  exact ⟨⟨fun i hi => ⟨(h4 i hi).1, (h4 i hi).2.1, (h4 i hi).2.2.1⟩, h3⟩, h5, h1, h2⟩
theorem AGR.fw {G H : Nat → Nat → Int32} {nn nf : Nat} (h : AGR G H nn nf) (hW : FW (G 6) (G 7) (G 8) nf) : FW (H 4) (H 5) (H 6) nf := by
  intro i hi
  obtain ⟨kd, k1, k2, k3, k4, k5⟩ := hW i hi
  obtain ⟨a1, a2, a3, -⟩ := h.2.2.2.1 i hi
  refine ⟨kd, k1, a1.symm.trans k2, fun e => by rw [← a2]; exact k3 e, fun e => by rw [← a2]; exact k4 e, fun e e6 e11 => by rw [← a3 kd (a1.symm.trans k2) e k1 e6 e11]; exact k5 e e6 e11⟩
theorem PLC.okP {G H : Nat → Nat → Int32} {V : Nat → Int32} {nn nf : Nat} {bd rk : Nat → Nat} (h : PLC G V nn nf bd rk) (ag : AGR G H nn nf) : okP (FM H) nn nf bd (fun i => cntR rk (rk i) nn) := by
  obtain ⟨h1, h2, h3, h4, h5, h6, h7⟩ := h.cnt
  refine ⟨h1, h2, ag.fw h5.1, fun i hi => ?_, fun i hi => ?_, fun i hi => ?_⟩
  · obtain ⟨j, j1, j2⟩ := h6 i hi
    exact ⟨j, j1, (ag.1 i hi).symm.trans j2⟩
  · have := cnt_bd rk (Nat.lt_irrefl (rk i)) nn hi; dsimp only; omega
  · obtain ⟨k, a, b, m, v, ⟨q1, q2, q3, q4, q5⟩, s, b1, b2, b3, b4⟩ := h7 i hi
    obtain ⟨a1, a2, a3, a4, a5⟩ := ag.2.2.2.2 i hi
    obtain ⟨s1, s2, s3, s4, s5, s6, s7, s8, s9, s10, s11, s12⟩ := s
    have e8 : FM H 8 i = nI v := a5.symm.trans q5
    unfold bdN at b3
    refine ⟨k, m, a, b, s1, a1.symm.trans q1, s6, a4.symm.trans q4, b1, a2.symm.trans q2, fun e => ⟨s2 e, ?_⟩, s3, fun e => ⟨(s4 e).1, a3.symm.trans q3, (s4 e).2⟩, fun e => ⟨v, s8 e, e8⟩, fun e => ⟨v, (s10 e).1, (s10 e).2, e8⟩, fun e => ⟨v, s11 e, e8, ?_⟩, fun e => ?_, fun e => ?_, fun e0 e4 e5 e8' => ?_⟩
    · rw [if_pos e] at b3; omega
    · rw [if_neg (by omega), if_neg (by omega), if_neg (by omega), if_pos e] at b3
      by_cases c : bd a < v
      · rw [if_pos c] at b3; exact Or.inr (by omega)
      · rw [if_neg c] at b3; exact Or.inl (by omega)
    · rw [if_neg (by omega), if_pos e] at b3; omega
    · rw [if_neg (by omega), if_neg (by omega), if_pos e] at b3; omega
    · rw [if_neg e0, if_neg e4, if_neg e5, if_neg e8'] at b3; omega
theorem fails01 {G : Nat → Nat → Int32} {k a b v : Int32} : fX1_failsOf G k a b v = 0 ∨ fX1_failsOf G k a b v = 1 := b_X1_failsOf G k a b v
set_option maxHeartbeats 800000 in
theorem lkN_of {G H : Nat → Nat → Int32} {nn nf : Nat} {bd rk : Nat → Nat} {bdI flI : Nat → Int32} {i k a b m v : Nat} (hnn : nn ≤ 60) (hnf : nf ≤ 40) (hi : i < 60) (sh : shN nn nf rk (rk i) k a b m v) (e10 : H 10 i = nI k) (e11 : H 11 i = nI a) (e12 : H 12 i = nI b) (e14 : H 14 i = nI v) (hA : k ≠ 0 → bdI a = nI (bd a) ∧ bd a ≤ 100) (hB : k = 4 ∨ k = 5 → bdI b = nI (bd b) ∧ bd b ≤ 100) (hI : bdI i = nI (bdN bd k a b v)) (fA : k ≠ 0 → (flI a = 0 ∨ flI a = 1) ∧ G 19 a = flI a) (fB : k = 4 ∨ k = 5 → (flI b = 0 ∨ flI b = 1) ∧ G 19 b = flI b) (fV : k = 1 ∨ k = 2 → H 8 v = G 11 v) (fI : flI i = fX1_failsOf G (nI k) (nI a) (nI b) (nI v)) : lkN H nn bdI flI rk i k a b := by
  obtain ⟨s1, s2, s3, s4, s5, s6, s7, s8, s9, s10, s11, s12⟩ := sh
  have ei : ix (nI i) = i := ix_nI (by omega)
  have ka : k ≠ 0 → ix (nI a) = a := fun e => ix_nI (by have := (s3 e).1; omega)
  have kb : k = 4 ∨ k = 5 → ix (nI b) = b := fun e => ix_nI (by have := (s4 e).1; omega)
  have kv : k = 1 ∨ k = 2 → ix (nI v) = v := fun e => ix_nI (by have := s8 e; omega)
  have kz : ∀ j : Nat, j < 2 ^ 31 → (nI k = nI j ↔ k = j) := fun j hj => kI s1 hj
  have bdB : bdN bd k a b v ≤ 10000 := by
    unfold bdN
    by_cases k0 : k = 0
    · rw [if_pos k0]; omega
    · rw [if_neg k0]
      have hA' := (hA k0).2
      by_cases k4 : k = 4
      · have hB' := (hB (Or.inl k4)).2
        rw [if_pos k4]; exact Nat.mul_le_mul hA' hB'
      · rw [if_neg k4]
        by_cases k5 : k = 5
        · have hB' := (hB (Or.inr k5)).2
          rw [if_pos k5]; omega
        · rw [if_neg k5]
          by_cases k8 : k = 8
          · rw [if_pos k8]; split <;> omega
          · rw [if_neg k8]; omega
  have own : ownF H i = if (k = 1 ∨ k = 2) ∧ ¬ G 11 v = 0 then 1 else 0 := by
    unfold ownF
    rw [e10, e14]
    by_cases k1 : k = 1
    · rw [if_pos (show nI k = 1 from (kz 1 (by decide)).mpr k1), kv (Or.inl k1), fV (Or.inl k1)]
      by_cases c : G 11 v = 0
      · rw [if_pos c, if_neg (fun w => w.2 c)]
      · rw [if_neg c, if_pos ⟨Or.inl k1, c⟩]
    · rw [if_neg (show ¬ nI k = 1 from fun w => k1 ((kz 1 (by decide)).mp w))]
      by_cases k2 : k = 2
      · rw [if_pos (show nI k = 2 from (kz 2 (by decide)).mpr k2), kv (Or.inr k2), fV (Or.inr k2)]
        by_cases c : G 11 v = 0
        · rw [if_pos c, if_neg (fun w => w.2 c)]
        · rw [if_neg c, if_pos ⟨Or.inr k2, c⟩]
      · rw [if_neg (show ¬ nI k = 2 from fun w => k2 ((kz 2 (by decide)).mp w)), if_neg (fun w => w.1.elim k1 k2)]
  have fl1 : flI i = 1 ↔ (k ≠ 0 ∧ (¬ G 19 a = 0 ∨ ((k = 4 ∨ k = 5) ∧ ¬ G 19 b = 0) ∨ ((k = 1 ∨ k = 2) ∧ ¬ G 11 v = 0))) := by
    rw [fI]
    unfold fX1_failsOf
    rw [tR_n s1, tF_n s1]
    by_cases k0 : k = 0
    · rw [if_pos (show nI k = 0 from (kz 0 (by decide)).mpr k0)]
      exact ⟨fun w => absurd w (by decide), fun w => absurd k0 w.1⟩
    · have n0 : ¬ nI k = 0 := fun w => k0 ((kz 0 (by decide)).mp w)
      rw [if_neg n0, ka k0]
      by_cases ca : G 19 a = 0
      · rw [if_pos ca]
        by_cases c4 : k = 4 ∨ k = 5
        · rw [if_pos c4, if_neg (by decide), kb c4]
          have c1 : ¬ (k = 1 ∨ k = 2) := by omega
          by_cases cb : G 19 b = 0
          · rw [if_pos cb, if_neg c1, if_pos rfl]
            exact ⟨fun w => absurd w (by decide), fun w => w.2.elim (fun q => absurd ca q) (fun q => q.elim (fun q => absurd cb q.2) (fun q => absurd q.1 c1))⟩
          · rw [if_neg cb]
            exact ⟨fun _ => ⟨k0, Or.inr (Or.inl ⟨c4, cb⟩)⟩, fun _ => rfl⟩
        · rw [if_neg c4, if_pos rfl]
          by_cases c1 : k = 1 ∨ k = 2
          · rw [if_pos c1, if_neg (by decide), kv c1]
            by_cases cv : G 11 v = 0
            · rw [if_pos cv]
              exact ⟨fun w => absurd w (by decide), fun w => w.2.elim (fun q => absurd ca q) (fun q => q.elim (fun q => absurd q.1 c4) (fun q => absurd cv q.2))⟩
            · rw [if_neg cv]
              exact ⟨fun _ => ⟨k0, Or.inr (Or.inr ⟨c1, cv⟩)⟩, fun _ => rfl⟩
          · rw [if_neg c1, if_pos rfl]
            exact ⟨fun w => absurd w (by decide), fun w => w.2.elim (fun q => absurd ca q) (fun q => q.elim (fun q => absurd q.1 c4) (fun q => absurd q.1 c1))⟩
      · rw [if_neg ca]
        exact ⟨fun _ => ⟨k0, Or.inl ca⟩, fun _ => rfl⟩
  have a1 : k ≠ 0 → (¬ G 19 a = 0 ↔ flI a = 1) := fun e => by
    rw [(fA e).2]
    rcases (fA e).1 with w | w <;> rw [w] <;> decide
  have b1 : k = 4 ∨ k = 5 → (¬ G 19 b = 0 ↔ flI b = 1) := fun e => by
    rw [(fB e).2]
    rcases (fB e).1 with w | w <;> rw [w] <;> decide
  have o1 : ownF H i = 1 ↔ (k = 1 ∨ k = 2) ∧ ¬ G 11 v = 0 := by
    rw [own]
    by_cases c : (k = 1 ∨ k = 2) ∧ ¬ G 11 v = 0
    · rw [if_pos c]; exact ⟨fun _ => c, fun _ => rfl⟩
    · rw [if_neg c]; exact ⟨fun w => absurd w (by decide), fun w => absurd w c⟩
  refine ⟨s1, e10, fun e => ⟨(s3 e).1, e11, (s3 e).2⟩, fun e => ⟨(s4 e).1, e12, (s4 e).2⟩, fun e => by rw [e14]; exact vp_in_nI (by have := s8 e; omega) (by omega), ?_, ?_, by rw [fI]; exact fails01, fun e => fl1.mpr ⟨by have := (o1.mp e).1; omega, Or.inr (Or.inr (o1.mp e))⟩, fun e w => fl1.mpr ⟨e, Or.inl ((a1 e).mpr w)⟩, fun e w => fl1.mpr ⟨by omega, Or.inr (Or.inl ⟨e, (b1 e).mpr w⟩)⟩, fun w => ?_⟩
  · rw [hI]
    intro w
    have := congrArg Int32.toInt w
    rw [nI_toInt (by omega)] at this
    have e : (-1 : Int32).toInt = -1 := rfl
    omega
  · have p10 : va_up H 15 bdI 10 = H 10 := va_up_ne _ _ (by decide)
    have p11 : va_up H 15 bdI 11 = H 11 := va_up_ne _ _ (by decide)
    have p12 : va_up H 15 bdI 12 = H 12 := va_up_ne _ _ (by decide)
    have p14 : va_up H 15 bdI 14 = H 14 := va_up_ne _ _ (by decide)
    have p15 : va_up H 15 bdI 15 = bdI := va_up_self _ _ _
    have nm : ∀ j : Nat, j ≤ 100 → ¬ nI j = -1 := fun j hj w => by
      have := congrArg Int32.toInt w
      rw [nI_toInt (by omega)] at this
      have e : (-1 : Int32).toInt = -1 := rfl
      omega
    unfold fX6_bound
    rw [p10, p11, p12, p14, p15, ei, e10, e11, e12, e14, t2_n s1, hI]
    by_cases k0 : k = 0
    · subst k0; rfl
    · have n0 : ¬ nI k = 0 := fun w => k0 ((kz 0 (by decide)).mp w)
      obtain ⟨hA1, hA2⟩ := hA k0
      rw [if_neg n0, ka k0, hA1, if_neg (nm _ hA2)]
      unfold bdN
      rw [if_neg k0]
      by_cases c4 : k = 4 ∨ k = 5
      · obtain ⟨hB1, hB2⟩ := hB c4
        rw [if_pos c4, if_neg (show ¬ (1 : Int32) = 0 by decide), kb c4, hB1, if_neg (nm _ hB2)]
        by_cases k4 : k = 4
        · rw [if_pos k4, if_pos (show nI k = 4 from (kz 4 (by decide)).mpr k4), pk_mul]
        · have k5 : k = 5 := by omega
          rw [if_neg k4, if_pos k5, if_neg (show ¬ nI k = 4 from fun w => k4 ((kz 4 (by decide)).mp w)), if_pos (show nI k = 5 from (kz 5 (by decide)).mpr k5), nI_add]
      · rw [if_neg c4, if_pos (show (0 : Int32) = 0 from rfl), if_neg (show ¬ (0 : Int32) = -1 by decide), if_neg (fun e => c4 (Or.inl e)), if_neg (fun e => c4 (Or.inr e)), if_neg (show ¬ nI k = 4 from fun w => c4 (Or.inl ((kz 4 (by decide)).mp w))), if_neg (show ¬ nI k = 5 from fun w => c4 (Or.inr ((kz 5 (by decide)).mp w)))]
        by_cases k8 : k = 8
        · have hv := s11 k8
          rw [if_pos k8, if_pos (show nI k = 8 from (kz 8 (by decide)).mpr k8)]
          by_cases c : bd a < v
          · rw [if_pos c, if_pos (nI_le (by omega) (by omega))]
          · rw [if_neg c]
            by_cases c2 : bd a = v
            · rw [if_pos (nI_le (by omega) (by omega)), c2]
            · rw [if_neg (fun w => by rw [nI_leI (by omega) (by omega)] at w; omega)]
        · rw [if_neg k8, if_neg (show ¬ nI k = 8 from fun w => k8 ((kz 8 (by decide)).mp w))]
  · obtain ⟨e0, w⟩ := fl1.mp w
    rcases w with w | w | w
    · exact Or.inr (Or.inl ⟨e0, (a1 e0).mp w⟩)
    · exact Or.inr (Or.inr ⟨w.1, (b1 w.1).mp w.2⟩)
    · exact Or.inl (o1.mpr w)
theorem PLC.lk {G H : Nat → Nat → Int32} {V : Nat → Int32} {nn nf : Nat} {bd rk : Nat → Nat} (h : PLC G V nn nf bd rk) (ag : AGR G H nn nf) : lkP H nn (G 18) (G 19) rk := by
  obtain ⟨h1, h2, h3, h4, h5, h6, h7⟩ := h
  have nd : ∀ y, y < nn → G 18 y = nI (bd y) ∧ bd y ≤ 100 := fun y hy => by
    obtain ⟨_, _, _, _, _, q⟩ := h7 y hy; exact ⟨q.2.2.2.1, q.2.2.1⟩
  have fl : ∀ y, y < nn → G 19 y = 0 ∨ G 19 y = 1 := fun y hy => by
    obtain ⟨_, _, _, _, _, q⟩ := h7 y hy; rw [q.2.2.2.2.2]; exact fails01
  refine ⟨h1, fun i hi => ?_⟩
  obtain ⟨k, a, b, m, v, ⟨q1, q2, q3, q4, q5⟩, s, b1, b2, b3, b4⟩ := h7 i hi
  obtain ⟨a1, a2, a3, a4, a5⟩ := ag.2.2.2.2 i hi
  refine ⟨k, a, b, lkN_of (G := G) (bd := bd) h1 h2 (by omega) s (a1.symm.trans q1) (a2.symm.trans q2) (a3.symm.trans q3) (a5.symm.trans q5) (fun e => nd a (s.2.2.1 e).1) (fun e => nd b (s.2.2.2.1 e).1) (by rw [b2, b3]) (fun e => ⟨fl a (s.2.2.1 e).1, rfl⟩) (fun e => ⟨fl b (s.2.2.2.1 e).1, rfl⟩) (fun e => ((ag.2.2.2.1 v (s.2.2.2.2.2.2.2.1 e)).2.2.2.2.2).symm) b4⟩
