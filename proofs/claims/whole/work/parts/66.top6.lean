theorem AGR.congN {G H H' : Nat → Nat → Int32} {nn nf : Nat} (h : AGR G H nn nf) (e : ∀ p, p ≤ 9 → H' p = H p) (e2 : ∀ i, i < nn → ∀ p, H' p i = H p i ∨ 14 < p) : AGR G H' nn nf := by
  obtain ⟨h1, h2, h3, h4, h5⟩ := h
  have q : ∀ i, i < nn → ∀ p, p ≤ 14 → H' p i = H p i := fun i hi p hp => (e2 i hi p).elim id (fun w => absurd hp (by omega))
  refine ⟨?_, ?_, ?_, ?_, fun i hi => ?_⟩
  · rw [e 1 (by decide)]; exact h1
  · rw [e 2 (by decide)]; exact h2
  · rw [e 3 (by decide)]; exact h3
  · rw [e 4 (by decide), e 5 (by decide), e 6 (by decide), e 7 (by decide), e 8 (by decide), e 9 (by decide)]; exact h4
  · rw [q i hi 10 (by decide), q i hi 11 (by decide), q i hi 12 (by decide), q i hi 13 (by decide), q i hi 14 (by decide)]; exact h5 i hi
theorem tdE_1 {U : Nat → Int32} {x a b m v : Int32} (h1 : ¬ fX6_in x.toInt64 0 8 = 0) (h2 : (x = 0 ∧ ¬ fX6_in a.toInt64 0 3 = 0) ∨ (¬ x = 0 ∧ ¬ fX6_isNode U a = 0)) (h3 : fX6_isTwo x = 0 ∨ ¬ fX6_isNode U b = 0) (h4 : fX6_hasMember x = 0 ∨ ¬ fX6_in m.toInt64 0 5 = 0) (h5 : ¬ fX6_isRight U x v m = 0) : tdE U x a b m v = 1 := by
  have e2 : ¬ (if x = 0 then fX6_in a.toInt64 0 3 else fX6_isNode U a) = 0 := by
    rcases h2 with w | w
    · rw [if_pos w.1]; exact w.2
    · rw [if_neg w.1]; exact w.2
  have e3 : ¬ (if fX6_isTwo x = 0 then 1 else fX6_isNode U b) = 0 := by
    by_cases c : fX6_isTwo x = 0
    · rw [if_pos c]; decide
    · rw [if_neg c]; exact h3.resolve_left c
  have e4 : ¬ (if fX6_hasMember x = 0 then 1 else fX6_in m.toInt64 0 5) = 0 := by
    by_cases c : fX6_hasMember x = 0
    · rw [if_pos c]; decide
    · rw [if_neg c]; exact h4.resolve_left c
  unfold tdE
  rw [if_neg h1, if_neg e2, if_neg e3, if_neg e4, if_neg h5]
theorem tdE_0 {U : Nat → Int32} {x a b m v : Int32} (h : fX6_in x.toInt64 0 8 = 0 ∨ (x = 0 ∧ fX6_in a.toInt64 0 3 = 0) ∨ (¬ x = 0 ∧ fX6_isNode U a = 0) ∨ (¬ fX6_isTwo x = 0 ∧ fX6_isNode U b = 0) ∨ (¬ fX6_hasMember x = 0 ∧ fX6_in m.toInt64 0 5 = 0) ∨ fX6_isRight U x v m = 0) : tdE U x a b m v = 0 := by
  unfold tdE
  rcases h with h | h | h | h | h | h
  · rw [if_pos h]
  · rw [show (if x = 0 then fX6_in a.toInt64 0 3 else fX6_isNode U a) = 0 by rw [if_pos h.1]; exact h.2]; simp
  · rw [show (if x = 0 then fX6_in a.toInt64 0 3 else fX6_isNode U a) = 0 by rw [if_neg h.1]; exact h.2]; simp
  · rw [show (if fX6_isTwo x = 0 then 1 else fX6_isNode U b) = 0 by rw [if_neg h.1]; exact h.2]; simp
  · rw [show (if fX6_hasMember x = 0 then 1 else fX6_in m.toInt64 0 5) = 0 by rw [if_neg h.1]; exact h.2]; simp
  · rw [h]; simp
theorem pn_k {z : Zt} (E : EN z cX6_node RX6) {w0 : va_W} {P : Option Value → va_W → Prop} {lvl : Nat} (T : RT z (some .int) lvl w0 P 0 0) (hz : zn z = 7) {ad : Nat → Nat} {G : Nat → Nat → Int32} {V : Nat → Int32} (hlv : 5 ≤ lvl) (x a b m v : Int32) (bad : tdE V x a b m v = 0 → P (some (.int (-1))) (WM (zk z) ad G V)) (full : tdE V x a b m v = 1 → V 1 = 60 → P (some (.int (-2))) (WM (zk z) ad G V)) (cont : tdE V x a b m v = 1 → ¬ V 1 = 60 → WW z 0 0 (WM (zk z) ad G V) 100 [(0, .ref (ad 0)), (1, .int x), (2, .int a), (3, .int b), (4, .int m), (5, .int v)] []) : WW z 0 0 (WM (zk z) ad G V) 0 [(0, .ref (ad 0)), (1, .int x), (2, .int a), (3, .int b), (4, .int m), (5, .int v)] [] :=
  pn_a E T hz hlv x a b m v (fun c0 => bad (tdE_0 (Or.inl c0))) (fun c0 c1 c2 => bad (tdE_0 (Or.inr (Or.inr (Or.inl ⟨c1, c2⟩))))) (fun c0 c1 c2 c3 c4 c5 c6 => cont (tdE_1 c0 (Or.inr ⟨c1, c2⟩) (Or.inl c3) (Or.inl c4) c5) c6) (fun c0 c1 c2 c3 c4 c5 c6 => full (tdE_1 c0 (Or.inr ⟨c1, c2⟩) (Or.inl c3) (Or.inl c4) c5) c6) (fun c0 c1 c2 c3 c4 c5 => bad (tdE_0 (Or.inr (Or.inr (Or.inr (Or.inr (Or.inr c5))))))) (fun c0 c1 c2 c3 c4 c5 => bad (tdE_0 (Or.inr (Or.inr (Or.inr (Or.inr (Or.inl ⟨c4, c5⟩))))))) (fun c0 c1 c2 c3 c4 c5 c6 c7 => cont (tdE_1 c0 (Or.inr ⟨c1, c2⟩) (Or.inl c3) (Or.inr c5) c6) c7) (fun c0 c1 c2 c3 c4 c5 c6 c7 => full (tdE_1 c0 (Or.inr ⟨c1, c2⟩) (Or.inl c3) (Or.inr c5) c6) c7) (fun c0 c1 c2 c3 c4 c5 c6 => bad (tdE_0 (Or.inr (Or.inr (Or.inr (Or.inr (Or.inr c6))))))) (fun c0 c1 c2 c3 c4 => bad (tdE_0 (Or.inr (Or.inr (Or.inr (Or.inl ⟨c3, c4⟩)))))) (fun c0 c1 c2 c3 c4 c5 c6 c7 => cont (tdE_1 c0 (Or.inr ⟨c1, c2⟩) (Or.inr c4) (Or.inl c5) c6) c7) (fun c0 c1 c2 c3 c4 c5 c6 c7 => full (tdE_1 c0 (Or.inr ⟨c1, c2⟩) (Or.inr c4) (Or.inl c5) c6) c7) (fun c0 c1 c2 c3 c4 c5 c6 => bad (tdE_0 (Or.inr (Or.inr (Or.inr (Or.inr (Or.inr c6))))))) (fun c0 c1 c2 c3 c4 c5 c6 => bad (tdE_0 (Or.inr (Or.inr (Or.inr (Or.inr (Or.inl ⟨c5, c6⟩))))))) (fun c0 c1 c2 c3 c4 c5 c6 c7 c8 => cont (tdE_1 c0 (Or.inr ⟨c1, c2⟩) (Or.inr c4) (Or.inr c6) c7) c8) (fun c0 c1 c2 c3 c4 c5 c6 c7 c8 => full (tdE_1 c0 (Or.inr ⟨c1, c2⟩) (Or.inr c4) (Or.inr c6) c7) c8) (fun c0 c1 c2 c3 c4 c5 c6 c7 => bad (tdE_0 (Or.inr (Or.inr (Or.inr (Or.inr (Or.inr c7))))))) (fun c0 c1 c2 c3 c4 c5 c6 => cont (tdE_1 c0 (Or.inl ⟨c1, c2⟩) (Or.inl c3) (Or.inl c4) c5) c6) (fun c0 c1 c2 c3 c4 c5 c6 => full (tdE_1 c0 (Or.inl ⟨c1, c2⟩) (Or.inl c3) (Or.inl c4) c5) c6) (fun c0 c1 c2 c3 c4 c5 => bad (tdE_0 (Or.inr (Or.inr (Or.inr (Or.inr (Or.inr c5))))))) (fun c0 c1 c2 c3 c4 c5 => bad (tdE_0 (Or.inr (Or.inr (Or.inr (Or.inr (Or.inl ⟨c4, c5⟩))))))) (fun c0 c1 c2 c3 c4 c5 c6 c7 => cont (tdE_1 c0 (Or.inl ⟨c1, c2⟩) (Or.inl c3) (Or.inr c5) c6) c7) (fun c0 c1 c2 c3 c4 c5 c6 c7 => full (tdE_1 c0 (Or.inl ⟨c1, c2⟩) (Or.inl c3) (Or.inr c5) c6) c7) (fun c0 c1 c2 c3 c4 c5 c6 => bad (tdE_0 (Or.inr (Or.inr (Or.inr (Or.inr (Or.inr c6))))))) (fun c0 c1 c2 c3 c4 => bad (tdE_0 (Or.inr (Or.inr (Or.inr (Or.inl ⟨c3, c4⟩)))))) (fun c0 c1 c2 c3 c4 c5 c6 c7 => cont (tdE_1 c0 (Or.inl ⟨c1, c2⟩) (Or.inr c4) (Or.inl c5) c6) c7) (fun c0 c1 c2 c3 c4 c5 c6 c7 => full (tdE_1 c0 (Or.inl ⟨c1, c2⟩) (Or.inr c4) (Or.inl c5) c6) c7) (fun c0 c1 c2 c3 c4 c5 c6 => bad (tdE_0 (Or.inr (Or.inr (Or.inr (Or.inr (Or.inr c6))))))) (fun c0 c1 c2 c3 c4 c5 c6 => bad (tdE_0 (Or.inr (Or.inr (Or.inr (Or.inr (Or.inl ⟨c5, c6⟩))))))) (fun c0 c1 c2 c3 c4 c5 c6 c7 c8 => cont (tdE_1 c0 (Or.inl ⟨c1, c2⟩) (Or.inr c4) (Or.inr c6) c7) c8) (fun c0 c1 c2 c3 c4 c5 c6 c7 c8 => full (tdE_1 c0 (Or.inl ⟨c1, c2⟩) (Or.inr c4) (Or.inr c6) c7) c8) (fun c0 c1 c2 c3 c4 c5 c6 c7 => bad (tdE_0 (Or.inr (Or.inr (Or.inr (Or.inr (Or.inr c7))))))) (fun c0 c1 c2 => bad (tdE_0 (Or.inr (Or.inl ⟨c1, c2⟩))))
section TOP6
variable {l : Launch} {k : Kt} {ad am : Nat → Nat} {G : Nat → Nat → Int32} {V : Nat → Int32} {n : Nat} {H : Nat → Nat → Int32} {U : Nat → Int32}
/-- look() behind a new node -/
theorem PLC.lkpush {nn nf : Nat} {bd rk : Nat → Nat} (h : PLC G V nn nf bd rk) (ag : AGR G H nn nf) (hn : nn < 60) {r kd a b m v : Nat} (sh : shN nn nf rk r kd a b m v) : lkP (fX6_put_G H (nI nn) (nI kd) (nI a) (nI b) (nI m) (nI v)) (nn + 1) (va_up (G 18) nn (nI (bdN bd kd a b v))) (va_up (G 19) nn (fX1_failsOf G (nI kd) (nI a) (nI b) (nI v))) (va_up rk nn r) := by
  obtain ⟨h1, h2, h3, h4, h5, h6, h7⟩ := h
  obtain ⟨u1, u2, u3, u4, u5, u6, u7⟩ := put_at (H := H) hn sh
  generalize fX6_put_G H (nI nn) (nI kd) (nI a) (nI b) (nI m) (nI v) = H' at *
  have nd : ∀ y, y < nn → va_up (G 18) nn (nI (bdN bd kd a b v)) y = nI (bd y) ∧ bd y ≤ 100 := fun y hy => by
    obtain ⟨_, _, _, _, _, q⟩ := h7 y hy
    rw [va_up_ne _ _ (by omega)]; exact ⟨q.2.2.2.1, q.2.2.1⟩
  have fl : ∀ y, y < nn → (va_up (G 19) nn (fX1_failsOf G (nI kd) (nI a) (nI b) (nI v)) y = 0 ∨ va_up (G 19) nn (fX1_failsOf G (nI kd) (nI a) (nI b) (nI v)) y = 1) ∧ G 19 y = va_up (G 19) nn (fX1_failsOf G (nI kd) (nI a) (nI b) (nI v)) y := fun y hy => by
    obtain ⟨_, _, _, _, _, q⟩ := h7 y hy
    rw [va_up_ne _ _ (by omega)]
    exact ⟨by rw [q.2.2.2.2.2]; exact fails01, rfl⟩
  have rkU : ∀ y, y < nn → va_up rk nn r y = rk y := fun y hy => va_up_ne _ _ (by omega)
  have e8 : H' 8 = H 8 := u1 8 (by decide) (by decide) (by decide) (by decide) (by decide)
  refine ⟨by omega, fun i hi => ?_⟩
  by_cases e : i = nn
  · subst e
    refine ⟨kd, a, b, lkN_of (G := G) (bd := bd) (m := m) (v := v) (nf := nf) (by omega) h2 hn (by rw [va_up_self]; exact sh.mono (Nat.le_succ _) (Nat.le_refl _) (fun y hy hr => by rw [rkU y hy]; exact hr)) u3 u4 u5 u7 (fun e => nd a (sh.2.2.1 e).1) (fun e => nd b (sh.2.2.2.1 e).1) (va_up_self _ _ _) (fun e => fl a (sh.2.2.1 e).1) (fun e => fl b (sh.2.2.2.1 e).1) (fun e => by rw [e8]; exact ((ag.2.2.2.1 v (sh.2.2.2.2.2.2.2.1 e)).2.2.2.2.2).symm) (va_up_self _ _ _)⟩
  · have hi' : i < nn := by omega
    obtain ⟨k', a', b', m', v', ⟨q1, q2, q3, q4, q5⟩, s, b1, b2, b3, b4⟩ := h7 i hi'
    obtain ⟨a1, a2, a3, a4, a5⟩ := ag.2.2.2.2 i hi'
    refine ⟨k', a', b', lkN_of (G := G) (bd := bd) (m := m') (v := v') (nf := nf) (by omega) h2 (by omega) (by rw [rkU i hi']; exact s.mono (Nat.le_succ _) (Nat.le_refl _) (fun y hy hr => by rw [rkU y hy]; exact hr)) ((u2 i e 10).trans (a1.symm.trans q1)) ((u2 i e 11).trans (a2.symm.trans q2)) ((u2 i e 12).trans (a3.symm.trans q3)) ((u2 i e 14).trans (a5.symm.trans q5)) (fun e => nd a' (s.2.2.1 e).1) (fun e => nd b' (s.2.2.2.1 e).1) (by rw [va_up_ne _ _ e, b2, b3]) (fun e => fl a' (s.2.2.1 e).1) (fun e => fl b' (s.2.2.2.1 e).1) (fun e => by rw [e8]; exact ((ag.2.2.2.1 v' (s.2.2.2.2.2.2.2.1 e)).2.2.2.2.2).symm) (by rw [va_up_ne _ _ e]; exact b4)⟩
set_option maxHeartbeats 1600000 in
theorem b_node (S : SIM G V n H U) (x a b m v : Int32) : BTH l k ad am G V n H U yX5_node cX5_node 6 yX6_node cX6_node 7 [.int x, .int a, .int b, .int m, .int v] := by
  obtain ⟨nn, nf, bd, rk0, p0, ag, u0, u1, u2⟩ := S.1
  have p := p0.cnt
  have rk60 : ∀ y, y < nn → cntR rk0 (rk0 y) nn < 60 := fun y hy => by
    have := cnt_bd rk0 (Nat.lt_irrefl (rk0 y)) nn hy
    have := p.1
    omega
  generalize hrk : (fun i => cntR rk0 (rk0 i) nn) = rk at p
  have rk60 : ∀ y, y < nn → rk y < 60 := fun y hy => by rw [← hrk]; exact rk60 y hy
  have hnn := p.1
  have hnf := p.2.1
  have v0 := p.2.2.1
  have v1 := p.2.2.2.1
  have hg := S.2.2
  have eT := td_eq hnn hnf v0 u0 v1 u1 x a b m v
  obtain ⟨go, hgo⟩ : ∃ go : Prop, go = (¬ fX1_isAsTold V x a b m v = 0 ∧ nn < 60 ∧ fX1_boundOf G x a b v ≤ 100) := ⟨_, rfl⟩
  obtain ⟨A0, hA0⟩ : ∃ A0 : Int32, A0 = (if fX1_isAsTold V x a b m v = 0 then -1 else -2) := ⟨_, rfl⟩
  have hrm : fX1_hasRoom V 1 = 0 ↔ ¬ nn < 60 := by
    unfold fX1_hasRoom
    rw [v1, nI_1, show (60 : Int32) = nI 60 from rfl]
    by_cases c : 60 < nn + 1
    · rw [if_pos (nI_lt c (by omega))]; exact ⟨fun _ => by omega, fun _ => rfl⟩
    · rw [if_neg (nI_nlt (by omega) (by omega))]; exact ⟨fun w => absurd w (by decide), fun w => absurd (by omega) w⟩
  have td := fun q => td_of hnn hnf v0 v1 (x := x) (a := a) (b := b) (m := m) (v := v) q
  have o1 : ¬ fX1_isAsTold V x a b m v = 0 → (¬ x = 0 → vp_in a 60) := fun q q2 => by
    obtain ⟨kd, aN, bN, mN, vN, rfl, rfl, sh, -⟩ := td q
    have sh := sh rk 60 rk60
    exact vp_in_nI (by have := (sh.2.2.1 (fun e => q2 (by rw [e]; rfl))).1; omega) (by decide)
  have o2 : ¬ fX1_isAsTold V x a b m v = 0 → (x = 4 ∨ x = 5 → vp_in b 60) := fun q q2 => by
    obtain ⟨kd, aN, bN, mN, vN, rfl, rfl, sh, eb, -⟩ := td q
    have sh := sh rk 60 rk60
    have e : kd = 4 ∨ kd = 5 := q2.elim (fun w => Or.inl ((kI sh.1 (by decide : 4 < 2 ^ 31)).mp w)) (fun w => Or.inr ((kI sh.1 (by decide : 5 < 2 ^ 31)).mp w))
    rw [eb e]; exact vp_in_nI (by have := (sh.2.2.2.1 e).1; omega) (by decide)
  have o3 : ¬ fX1_isAsTold V x a b m v = 0 → (x = 1 ∨ x = 2 → vp_in v 40) := fun q q2 => by
    obtain ⟨kd, aN, bN, mN, vN, rfl, rfl, sh, -, -, ev⟩ := td q
    have sh := sh rk 60 rk60
    have e : kd = 1 ∨ kd = 2 := q2.elim (fun w => Or.inl ((kI sh.1 (by decide : 1 < 2 ^ 31)).mp w)) (fun w => Or.inr ((kI sh.1 (by decide : 2 < 2 ^ 31)).mp w))
    rw [ev (by omega)]; exact vp_in_nI (by have := sh.2.2.2.2.2.2.2.1 e; omega) (by decide)
  have hC : CT l k yX5_node cX5_node 6 (some .int) 5 [.ref (ad 0), .int x, .int a, .int b, .int m, .int v] (WC k ad G V n) (fun q w' => (go ∧ q = some (.int (nI nn)) ∧ w' = WC k ad (fX1_write_G G (nI nn) x a b m v) (upd V 1 (V 1 + 1)) n) ∨ (¬ go ∧ q = some (.int A0) ∧ w' = WC k ad G V n)) 0 0 := by
    refine ct_of (own := RX5) (lv0 := [(0, .ref (ad 0)), (1, .int x), (2, .int a), (3, .int b), (4, .int m), (5, .int v)]) (by decide) rfl (Nat.le_of_ble_eq_true rfl) rfl ?_
    rintro z rfl rfl hz - E T
    refine qn_a E T hz (Nat.le_refl 5) x a b m v (fun q _ => o1 q) (fun q _ => o2 q) (fun _ q _ => ?_) (fun q _ _ => o1 q) (fun q _ _ => o2 q) (fun q _ _ => o3 q) (fun q q2 => Or.inr ⟨?_, by rw [hA0, if_neg q], rfl⟩) (fun G1 e1 q q2 q3 => Or.inl ⟨?_, ?_, ?_⟩) (fun q q2 q3 => Or.inr ⟨?_, by rw [hA0, if_neg q], rfl⟩) (fun q => Or.inr ⟨?_, by rw [hA0, if_pos q], rfl⟩)
    · rw [v1]; exact vp_in_nI (Classical.byContradiction fun w => q (hrm.mpr w)) (by decide)
    · rw [hgo]; exact fun w => (hrm.mp q2) w.2.1
    · rw [hgo]; exact ⟨q, Classical.byContradiction fun w => q2 (hrm.mpr w), q3⟩
    · show some (Value.int (V 1)) = _
      rw [v1]
    · rw [e1]
      show WC _ ad (fX1_write_G G (V 1) x a b m v) (upd V 1 (V 1 + 1)) n = _
      rw [v1]
    · rw [hgo]; exact fun w => q3 w.2.2
    · rw [hgo]; exact fun w => w.1 q
  have hM : CT l k yX6_node cX6_node 7 (some .int) 5 [.ref (am 0), .int x, .int a, .int b, .int m, .int v] (WM k am H U) (fun q w' => ∃ (H' : Nat → Nat → Int32) (U' : Nat → Int32), w' = WM k am H' U' ∧ H' 24 = H 24 ∧ (∀ j, j ≠ 1 → U' j = U j) ∧ ((go ∧ q = some (.int (nI nn)) ∧ U' 1 = nI (nn + 1) ∧ ∀ p, p ≠ 15 → p ≠ 16 → H' p = fX6_put_G H (nI nn) x a b m v p) ∨ (¬ go ∧ q = some (.int A0) ∧ U' 1 = U 1 ∧ (∀ p, p ≤ 9 → H' p = H p) ∧ ∀ i, i < nn → ∀ p, H' p i = H p i ∨ 14 < p))) 0 0 := by
    refine ct_of (own := RX6) (lv0 := [(0, .ref (am 0)), (1, .int x), (2, .int a), (3, .int b), (4, .int m), (5, .int v)]) (by decide) rfl (Nat.le_of_ble_eq_true rfl) rfl ?_
    rintro z rfl rfl hz - E T
    obtain ⟨PP, hPP⟩ : ∃ PP : Option Value → va_W → Prop, PP = (fun q w' => ∃ (H' : Nat → Nat → Int32) (U' : Nat → Int32), w' = WM (zk z) am H' U' ∧ H' 24 = H 24 ∧ (∀ j, j ≠ 1 → U' j = U j) ∧ ((go ∧ q = some (.int (nI nn)) ∧ U' 1 = nI (nn + 1) ∧ ∀ p, p ≠ 15 → p ≠ 16 → H' p = fX6_put_G H (nI nn) x a b m v p) ∨ (¬ go ∧ q = some (.int A0) ∧ U' 1 = U 1 ∧ (∀ p, p ≤ 9 → H' p = H p) ∧ ∀ i, i < nn → ∀ p, H' p i = H p i ∨ 14 < p))) := ⟨_, rfl⟩
    rw [← hPP] at T
    have bad : tdE U x a b m v = 0 → PP (some (.int (-1))) (WM (zk z) am H U) := fun q => by
      rw [hPP]
      exact ⟨H, U, rfl, rfl, fun _ _ => rfl, Or.inr ⟨by rw [hgo, eT]; exact fun w => w.1 q, by rw [hA0, eT, if_pos q], rfl, fun _ _ => rfl, fun _ _ _ => Or.inl rfl⟩⟩
    have full : tdE U x a b m v = 1 → U 1 = 60 → PP (some (.int (-2))) (WM (zk z) am H U) := fun q q2 => by
      have n60 : nn = 60 := by rw [u1, show (60 : Int32) = nI 60 from rfl, nI_eq (by omega) (by decide)] at q2; exact q2
      rw [hPP]
      exact ⟨H, U, rfl, rfl, fun _ _ => rfl, Or.inr ⟨by rw [hgo]; exact fun w => by have := w.2.1; omega, by rw [hA0, eT, q, if_neg (by decide)], rfl, fun _ _ => rfl, fun _ _ _ => Or.inl rfl⟩⟩
    have cont : tdE U x a b m v = 1 → ¬ U 1 = 60 → WW z 0 0 (WM (zk z) am H U) 100 [(0, .ref (am 0)), (1, .int x), (2, .int a), (3, .int b), (4, .int m), (5, .int v)] [] := fun q q2 => by
      have n60 : nn < 60 := by
        rcases Nat.lt_or_ge nn 60 with w | w
        · exact w
        · exact absurd (by rw [u1, show nn = 60 by omega]; rfl) q2
      have qt : ¬ fX1_isAsTold V x a b m v = 0 := by rw [eT, q]; decide
      obtain ⟨kd, aN, bN, mN, vN, rfl, rfl, sh, eb, em, ev⟩ := td qt
      have sh := sh rk 60 rk60
      have pm := put_mask (H := H) (y := nI nn) (aN := aN) sh.1 eb em ev
      have wm := (write_mask (G := G) (y := nI nn) (aN := aN) (mN := mN) sh.1 eb em ev).2
      have bA : ∀ y, y < nn → y < 60 ∧ G 18 y = nI (bd y) ∧ bd y ≤ 100 := fun y hy => by
        obtain ⟨_, _, _, _, _, w⟩ := p.2.2.2.2.2.2 y hy; exact ⟨by omega, w.2.2.2.1, w.2.2.1⟩
      have eB : fX1_boundOf G (nI kd) (nI aN) (nI bN) (nI vN) = nI (bdN bd kd aN bN vN) := boundOf_n sh.1 (fun e => bA aN (sh.2.2.1 e).1) (fun e => bA bN (sh.2.2.2.1 e).1) sh.2.2.2.2.2.2.2.2.2.2.1
      refine pn_b E T hz (Nat.le_refl 5) (nI kd) (nI aN) b m v (by rw [u1]; exact vp_in_nI n60 (by decide)) ?_
      have el : fX6_lay_G H U (nI kd) (nI aN) b m v = fX6_put_G H (nI nn) (nI kd) (nI aN) (nI bN) (nI mN) (nI vN) := by unfold fX6_lay_G; rw [u1, pm]
      have ev2 : fX6_lay_V H U (nI kd) (nI aN) b m v = upd U 1 (nI (nn + 1)) := by unfold fX6_lay_V; rw [u1, nI_1]
      have ey : fX6_lay H U (nI kd) (nI aN) b m v = nI nn := u1
      rw [el, ev2, ey]
      have hlk := c_look (l := zl z) (k := zk z) (ad := am) (V0 := upd U 1 (nI (nn + 1))) (p.lkpush ag n60 sh) rfl
      refine rV E cvX6_159 T.rr Fr.all 0 wm_0 rfl [] hlk (by decide) rfl rfl (Nat.le_of_ble_eq_true rfl) ⟨Nat.le_refl _, Nat.le_refl _⟩ dX6_node_114 (fun q9 w9 h9 => ?_)
      obtain ⟨rfl, Ga, rfl, g1, g2⟩ := h9
      have g15 : Ga 15 (ix (nI nn)) = nI (bdN bd kd aN bN vN) := by rw [ix_nI (by omega), (g2 nn (by omega)).1, va_up_self]
      have pk : ∀ i, i < nn → ∀ p, fX6_put_G H (nI nn) (nI kd) (nI aN) (nI bN) (nI mN) (nI vN) p i = H p i := fun i hi p => put_keep (by rw [ix_nI (by omega)]; omega)
      have pp : ∀ p, p ≤ 9 ∨ 14 < p → fX6_put_G H (nI nn) (nI kd) (nI aN) (nI bN) (nI mN) (nI vN) p = H p := fun p hp => (put_at (H := H) n60 sh).1 p (by omega) (by omega) (by omega) (by omega) (by omega)
      refine pn_c E T hz (nI nn) (vp_in_nI n60 (by decide)) (fun c => ?_) (fun c => ?_)
      · rw [hPP]
        rw [g15] at c
        refine ⟨Ga, _, rfl, by rw [g1 24 (by decide) (by decide), pp 24 (Or.inr (by decide))], fun j hj => pk_un hj, Or.inl ⟨?_, rfl, pk_us, fun p h15 h16 => by rw [g1 p h15 h16, pm]⟩⟩
        rw [hgo]; exact ⟨qt, n60, by rw [wm, eB]; exact c⟩
      · rw [hPP]
        rw [g15] at c
        refine ⟨Ga, _, rfl, by rw [g1 24 (by decide) (by decide), pp 24 (Or.inr (by decide))], fun j hj => by rw [pk_un hj, pk_un hj], Or.inr ⟨?_, by rw [hA0, if_neg qt], ?_, fun p hp => by rw [g1 p (by omega) (by omega), pp p (Or.inl hp)], fun i hi p => ?_⟩⟩
        · rw [hgo]; exact fun w => c (by rw [← eB, ← wm]; exact w.2.2)
        · rw [pk_us, pk_us, nI_pred, u1]
        · by_cases h14 : 14 < p
          · exact Or.inr h14
          · left; rw [g1 p (by omega) (by omega)]; exact pk i hi p
    exact pn_k E T hz (Nat.le_refl 5) x a b m v bad full cont
  by_cases g : go
  · have g' := g
    rw [hgo] at g'
    obtain ⟨q, n60, q3⟩ := g'
    obtain ⟨kd, aN, bN, mN, vN, rfl, rfl, sh, eb, em, ev⟩ := td q
    have sh := sh rk 60 rk60
    have pm := put_mask (H := H) (y := nI nn) (aN := aN) sh.1 eb em ev
    have wm := write_mask (G := G) (y := nI nn) (aN := aN) (mN := mN) sh.1 eb em ev
    have bA : ∀ y, y < nn → y < 60 ∧ G 18 y = nI (bd y) ∧ bd y ≤ 100 := fun y hy => by
      obtain ⟨_, _, _, _, _, w⟩ := p.2.2.2.2.2.2 y hy; exact ⟨by omega, w.2.2.2.1, w.2.2.1⟩
    have eB : fX1_boundOf G (nI kd) (nI aN) (nI bN) (nI vN) = nI (bdN bd kd aN bN vN) := boundOf_n sh.1 (fun e => bA aN (sh.2.2.1 e).1) (fun e => bA bN (sh.2.2.2.1 e).1) sh.2.2.2.2.2.2.2.2.2.2.1
    have b4 : bdN bd kd aN bN vN ≤ 10000 := by
      unfold bdN
      by_cases k0 : kd = 0
      · rw [if_pos k0]; omega
      · rw [if_neg k0]
        have hA' := (bA aN (sh.2.2.1 k0).1).2.2
        by_cases k4 : kd = 4
        · have hB' := (bA bN (sh.2.2.2.1 (Or.inl k4)).1).2.2
          rw [if_pos k4]; exact Nat.mul_le_mul hA' hB'
        · rw [if_neg k4]
          by_cases k5 : kd = 5
          · have hB' := (bA bN (sh.2.2.2.1 (Or.inr k5)).1).2.2
            rw [if_pos k5]; omega
          · rw [if_neg k5]
            by_cases k8 : kd = 8
            · rw [if_pos k8]; split <;> omega
            · rw [if_neg k8]; omega
    have b100 : bdN bd kd aN bN vN ≤ 100 := by
      rw [wm.2, eB, show (100 : Int32) = nI 100 from rfl, nI_leI (by omega) (by decide)] at q3; exact q3
    refine ⟨nI nn, 0, 5, 5, _, _, by decide, by decide, by rw [kc_0 hg (Nat.zero_le _), ks_0 hg (Nat.zero_le _)]; exact hC, hM, fun v9 w' v2 w2 h1 h2 => ?_⟩
    obtain ⟨H', U', e4, h24, hu, h2⟩ := h2
    rcases h1 with ⟨-, e1, e2⟩ | ⟨w, -⟩
    · rcases h2 with ⟨-, e3, e5, e6⟩ | ⟨w, -⟩
      · refine ⟨e1, e3, ad, _, _, n, H', U', e2, e4, rfl, ⟨⟨nn + 1, nf, _, _, by rw [wm.1]; exact p.push n60 sh b100, ?_, (hu 0 (by decide)).trans u0, e5, (hu 2 (by decide)).trans u2⟩, S.2.1.to ?_ h24 (fun j _ h1 _ _ => pk_un h1) (fun j hj => hu j (by omega)), hg⟩, (gw_id hg (Nat.zero_le _)).symm⟩
        · rw [wm.1]
          refine (ag.write (nn' := nn + 1) n60 (Or.inr ⟨rfl, rfl⟩) sh).cong (fun p hp => ?_)
          rw [e6 p (by omega) (by omega), pm]
        · rw [wm.1]; exact (write_at (G := G) n60 sh).1 24 (by decide) (by decide) (by decide) (by decide) (by decide) (by decide) (by decide)
      · exact absurd g w
    · exact absurd g w
  · refine ⟨A0, 0, 5, 5, _, _, by decide, by decide, by rw [kc_0 hg (Nat.zero_le _), ks_0 hg (Nat.zero_le _)]; exact hC, hM, fun v9 w' v2 w2 h1 h2 => ?_⟩
    obtain ⟨H', U', e4, h24, hu, h2⟩ := h2
    rcases h1 with ⟨w, -⟩ | ⟨-, e1, e2⟩
    · exact absurd w g
    · rcases h2 with ⟨w, -⟩ | ⟨-, e3, e5, e6, e7⟩
      · exact absurd w g
      · exact ⟨e1, e3, ad, G, V, n, H', U', e2, e4, rfl, ⟨⟨nn, nf, bd, rk0, p0, ag.congN e6 e7, (hu 0 (by decide)).trans u0, e5.trans u1, (hu 2 (by decide)).trans u2⟩, S.2.1.to rfl h24 (fun _ _ _ _ _ => rfl) (fun j hj => hu j (by omega)), hg⟩, (gw_id hg (Nat.zero_le _)).symm⟩
end TOP6
