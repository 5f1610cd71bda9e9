theorem vp_nat {x : Int32} {m : Nat} (h : vp_in x m) : ∃ j : Nat, j < m ∧ x = nI j := by
  have h := vp_in_iff.mp h
  refine ⟨x.toInt.toNat, by omega, Int32.toInt_inj.mp ?_⟩
  rw [nI_toInt (by have := x.toInt_lt; omega)]
  omega
theorem is12 (x : Int32) (V : Nat → Int32) (a b : Int32) (h : ¬ fX0_isAsTold V x a b = 0) : ∃ kd : Nat, kd < 12 ∧ x = nI kd := by
  unfold fX0_isAsTold at h
  rcases pk_ix x (n := 12) (by decide) with w | w | q
  · rw [if_pos w] at h; exact absurd rfl h
  · by_cases c : x < 0
    · rw [if_pos c] at h; exact absurd rfl h
    · rw [if_neg c, if_pos (show 12 ≤ x from w)] at h; exact absurd rfl h
  · exact q
theorem told_ok {V : Nat → Int32} {nf kd : Nat} {a b : Int32} (hnf : nf ≤ 40) (v0 : V 0 = nI nf) (k12 : kd < 12) (h : ¬ fX0_isAsTold V (nI kd) a b = 0) : fOk nf kd a b := by
  have n0 : ¬ nI kd < 0 := nI_pos (by omega)
  have n12 : ¬ (12 : Int32) ≤ nI kd := nI_ge (b := 12) k12 (by decide)
  obtain ⟨hO, hT⟩ := has_n kd k12
  rw [← tkF_eq] at hO
  rw [← tkS_eq] at hT
  unfold fX0_isAsTold at h
  rw [if_neg n0, if_neg n12] at h
  refine ⟨k12, fun e => ?_, fun e => ?_, fun e e6 e11 => ?_⟩
  · rw [if_pos (show nI kd = 0 by rw [e]; rfl)] at h
    rcases inC a 5 (by decide) with ⟨j, hj, q, -⟩ | ⟨-, -, q⟩
    · exact ⟨j, by omega, q⟩
    · rw [mem_in, if_pos (show fX6_in a.toInt64 0 5 = 0 from q)] at h; exact absurd rfl h
  · rw [if_neg (show ¬ nI kd = 0 from fun w => by have := (nI_eq (b := 0) (by omega) (by decide)).mp w; omega)] at h
    have o1 : ¬ fX0_takesFirst (nI kd) = 0 := by rw [hO, if_pos e]; decide
    rw [if_neg o1] at h
    by_cases c : fX0_has V a = 0
    · rw [if_pos c] at h; exact absurd rfl h
    · exact hasF_nat (by omega) v0 c
  · rw [if_neg (show ¬ nI kd = 0 from fun w => by have := (nI_eq (b := 0) (by omega) (by decide)).mp w; omega)] at h
    have o1 : ¬ fX0_takesFirst (nI kd) = 0 := by rw [hO, if_pos e]; decide
    have o2 : ¬ fX0_takesSecond (nI kd) = 0 := by rw [hT, if_pos ⟨e, e6, e11⟩]; decide
    rw [if_neg o1] at h
    by_cases c : fX0_has V a = 0
    · rw [if_pos c] at h; exact absurd rfl h
    · rw [if_neg c, if_neg o2] at h
      by_cases d : fX0_has V b = 0
      · rw [if_pos d] at h; exact absurd rfl h
      · exact hasF_nat (by omega) v0 d
set_option maxHeartbeats 1600000 in
theorem form_eq {H : Nat → Nat → Int32} {V U : Nat → Int32} {nf kd : Nat} (hnf : nf ≤ 40) (v0 : V 0 = nI nf) (u0 : U 0 = nI nf) (k12 : kd < 12) (a b : Int32) :
    fX6_formula H U (nI kd) a b = (if fX0_isAsTold V (nI kd) a b = 0 then -1 else if U 0 = 40 then -2 else if fX6_sizeOf H (nI kd) a b ≤ 30 then fX6_tell H U (nI kd) a b else -2) ∧
    fX6_formula_G H U (nI kd) a b = (if fX0_isAsTold V (nI kd) a b = 0 then H else if U 0 = 40 then H else if fX6_sizeOf H (nI kd) a b ≤ 30 then fX6_tell_G H U (nI kd) a b else H) ∧
    fX6_formula_V H U (nI kd) a b = (if fX0_isAsTold V (nI kd) a b = 0 then U else if U 0 = 40 then U else if fX6_sizeOf H (nI kd) a b ≤ 30 then fX6_tell_V H U (nI kd) a b else U) := by
  have n0 : ¬ nI kd < 0 := nI_pos (by omega)
  have n12 : ¬ (12 : Int32) ≤ nI kd := nI_ge (b := 12) k12 (by decide)
  have e11 : fX6_in (nI kd).toInt64 0 11 = 1 := by
    rcases inC (nI kd) 11 (by decide) with ⟨j, hj, q, e⟩ | ⟨e, -, -⟩
    · exact e
    · exact absurd rfl (e kd (by omega))
  have eF := fun y => hasF_eq (V := V) (U := U) (by omega) v0 u0 y
  unfold fX6_formula fX6_formula_G fX6_formula_V fX0_isAsTold
  simp only [e11, ← eF, ← tkF_eq, ← tkS_eq, ← mem_in, if_neg n0, if_neg n12, if_neg (show ¬ (1 : Int32) = 0 by decide)]
  generalize fX6_tell H U (nI kd) a b = t1
  generalize fX6_tell_G H U (nI kd) a b = t2
  generalize fX6_tell_V H U (nI kd) a b = t3
  generalize fX6_sizeOf H (nI kd) a b = t4
  generalize fX0_takesFirst (nI kd) = t5
  generalize fX0_takesSecond (nI kd) = t6
  generalize fX0_has V a = t7
  generalize fX0_has V b = t8
  generalize fX5_isMember a = t9
  by_cases c0 : nI kd = 0 <;> by_cases cm : t9 = 0 <;> by_cases cf : t5 = 0 <;> by_cases ca : t7 = 0 <;> by_cases cs : t6 = 0 <;> by_cases cb : t8 = 0 <;> simp [c0, cm, cf, ca, cs, cb]
section TOP3
variable {l : Launch} {k : Kt} {ad am : Nat → Nat} {G : Nat → Nat → Int32} {V : Nat → Int32} {n : Nat} {H : Nat → Nat → Int32} {U : Nat → Int32}
set_option maxHeartbeats 800000 in
theorem b_formula (S : SIM G V n H U) (x a b : Int32) : BTH l k ad am G V n H U yX5_formula cX5_formula 4 yX6_formula cX6_formula 4 [.int x, .int a, .int b] := by
  obtain ⟨nn, nf, bd, rk, p, ag, u0, u1, u2⟩ := S.1
  have hnf := p.2.1
  have v0 := p.2.2.1
  have hM := c_X6_formula (l := l) (k := k) (ad := am) (G := H) (V := U) x a b ⟨nf, hnf, u0⟩
  have tk : ¬ fX0_isAsTold V x a b = 0 → (¬ fX0_takesFirst x = 0 → vp_in a 40) ∧ (¬ fX0_takesSecond x = 0 → vp_in b 40) := fun q => by
    obtain ⟨kd, k12, rfl⟩ := is12 x V a b q
    obtain ⟨-, -, o2, o3⟩ := told_ok hnf v0 k12 q
    obtain ⟨hO, hT⟩ := has_n kd k12
    rw [tkF_eq, tkS_eq, hO, hT]
    refine ⟨fun w => ?_, fun w => ?_⟩
    · by_cases c : 2 ≤ kd
      · obtain ⟨j, hj, rfl⟩ := o2 c; exact vp_in_nI (by omega) (by decide)
      · rw [if_neg c] at w; exact absurd rfl w
    · by_cases c : 2 ≤ kd ∧ kd ≠ 6 ∧ kd ≠ 11
      · obtain ⟨j, hj, rfl⟩ := o3 c.1 c.2.1 c.2.2; exact vp_in_nI (by omega) (by decide)
      · rw [if_neg c] at w; exact absurd rfl w
  have hC : CT l k yX5_formula cX5_formula 4 (some .int) 5 [.ref (ad 0), .int x, .int a, .int b] (WC k ad G V n) (eqI (if fX0_isAsTold V x a b = 0 then -1 else fX0_add G V x a b) (WC k ad (if fX0_isAsTold V x a b = 0 then G else fX0_add_G G V x a b) (if fX0_isAsTold V x a b = 0 then V else fX0_add_V G V x a b) n)) 0 0 := by
    refine ct_of (own := RX5) (lv0 := [(0, .ref (ad 0)), (1, .int x), (2, .int a), (3, .int b)]) (by decide) rfl (Nat.le_of_ble_eq_true rfl) rfl ?_
    rintro z rfl rfl hz - E T
    refine qf_a E T hz (Nat.le_refl 5) x a b (fun q => (tk q).1) (fun q => (tk q).2) (fun _ => ⟨nf, hnf, v0⟩) (fun G1 e1 q => ?_) (fun q => ?_)
    · rw [e1]; exact eqI.mk (if_neg q).symm (by rw [if_neg q, if_neg q])
    · exact eqI.mk (if_pos q).symm (by rw [if_pos q, if_pos q])
  by_cases c : fX0_isAsTold V x a b = 0
  · rw [if_pos c, if_pos c, if_pos c] at hC
    have e : fX6_formula H U x a b = -1 ∧ fX6_formula_G H U x a b = H ∧ fX6_formula_V H U x a b = U := by
      rcases inC x 11 (by decide) with ⟨j, hj, rfl, -⟩ | ⟨-, -, e⟩
      · obtain ⟨f1, f2, f3⟩ := form_eq (H := H) hnf v0 u0 (show j < 12 by omega) a b
        rw [f1, f2, f3, if_pos c, if_pos c, if_pos c]; exact ⟨rfl, rfl, rfl⟩
      · have e : fX6_in x.toInt64 0 11 = 0 := e
        unfold fX6_formula fX6_formula_G fX6_formula_V
        rw [if_pos e, if_pos e, if_pos e]; exact ⟨rfl, rfl, rfl⟩
    rw [e.1, e.2.1, e.2.2] at hM
    exact bth_of (by decide) (by decide) hC hM S
  · rw [if_neg c, if_neg c, if_neg c] at hC
    obtain ⟨kd, k12, rfl⟩ := is12 x V a b c
    have ok := told_ok hnf v0 k12 c
    obtain ⟨f1, f2, f3⟩ := form_eq (H := H) hnf v0 u0 k12 a b
    rw [f1, f2, f3, if_neg c, if_neg c, if_neg c] at hM
    obtain ⟨hO, hT⟩ := has_n kd k12
    have es : fX0_sizeOf G (nI kd) a b = fX6_sizeOf H (nI kd) a b := by
      unfold fX0_sizeOf fX6_sizeOf
      rw [tkF_eq, tkS_eq, hO, hT]
      congr 1
      · congr 1
        by_cases q : 2 ≤ kd
        · obtain ⟨j, hj, rfl⟩ := ok.2.2.1 q
          rw [if_pos q, if_neg (by decide), if_neg (by decide), ix_nI (by omega)]; exact (ag.2.2.2.1 j hj).2.2.2.1
        · rw [if_neg q, if_pos rfl, if_pos rfl]
      · by_cases q : 2 ≤ kd ∧ kd ≠ 6 ∧ kd ≠ 11
        · obtain ⟨j, hj, rfl⟩ := ok.2.2.2 q.1 q.2.1 q.2.2
          rw [if_pos q, if_neg (by decide), if_neg (by decide), ix_nI (by omega)]; exact (ag.2.2.2.1 j hj).2.2.2.1
        · rw [if_neg q, if_pos rfl, if_pos rfl]
    have e40 : (40 : Int32) ≤ V 0 ↔ U 0 = 40 := by
      rw [v0, u0, show (40 : Int32) = nI 40 from rfl, nI_leI (by decide) (by omega), nI_eq (by omega) (by decide)]; omega
    by_cases r : fX0_hasRoom G V (nI kd) a b = 0
    · have e1 : fX0_add G V (nI kd) a b = -2 := if_pos r
      have e2 : fX0_add_G G V (nI kd) a b = G := if_pos r
      have e3 : fX0_add_V G V (nI kd) a b = V := if_pos r
      rw [e1, e2, e3] at hC
      have e : ∀ {α : Type} (p q : α), (if U 0 = 40 then p else if fX6_sizeOf H (nI kd) a b ≤ 30 then q else p) = p := fun p q => by
        unfold fX0_hasRoom at r
        by_cases w : U 0 = 40
        · rw [if_pos w]
        · rw [if_neg w]
          rw [if_neg (fun z => w (e40.mp z)), es] at r
          by_cases w2 : 30 < fX6_sizeOf H (nI kd) a b
          · rw [if_neg (Int32.not_le.mpr w2)]
          · rw [if_neg w2] at r; exact absurd r (by decide)
      rw [e, e, e] at hM
      exact bth_of (by decide) (by decide) hC hM S
    · have e1 : fX0_add G V (nI kd) a b = V 0 := if_neg r
      have e3 : fX0_add_V G V (nI kd) a b = upd V 0 (V 0 + 1) := if_neg r
      rw [e1, e3] at hC
      have e : ∀ {α : Type} (p q : α), (if U 0 = 40 then p else if fX6_sizeOf H (nI kd) a b ≤ 30 then q else p) = q := fun p q => by
        unfold fX0_hasRoom at r
        by_cases w : (40 : Int32) ≤ V 0
        · rw [if_pos w] at r; exact absurd rfl r
        · rw [if_neg w, es] at r
          rw [if_neg (fun z => w (e40.mpr z))]
          by_cases w2 : 30 < fX6_sizeOf H (nI kd) a b
          · rw [if_pos w2] at r; exact absurd rfl r
          · rw [if_pos (Int32.not_lt.mp w2)]
      rw [e, e, e] at hM
      have tl : fX6_tell H U (nI kd) a b = V 0 := by unfold fX6_tell; rw [u0, v0]; repeat (first | rfl | split)
      have tv : fX6_tell_V H U (nI kd) a b = upd U 0 (U 0 + 1) := by unfold fX6_tell_V; repeat (first | rfl | split)
      rw [tl, tv] at hM
      obtain ⟨P1, A1, -, -, gp⟩ := tell_sim p ag u0 ok r
      have nf40 := room40 v0 hnf r
      have t24 : fX6_tell_G H U (nI kd) a b 24 = H 24 := by
        refine (tell_at u0 (by omega) (fun w => ?_) (fun w => ?_)).1 24 (Or.inr (by decide))
        · rw [hO] at w
          by_cases q : 2 ≤ kd
          · obtain ⟨j, hj, rfl⟩ := ok.2.2.1 q; rw [ix_nI (by omega)]; omega
          · rw [if_neg q] at w; exact absurd rfl w
        · rw [hT] at w
          by_cases q : 2 ≤ kd ∧ kd ≠ 6 ∧ kd ≠ 11
          · obtain ⟨j, hj, rfl⟩ := ok.2.2.2 q.1 q.2.1 q.2.2; rw [ix_nI (by omega)]; omega
          · rw [if_neg q] at w; exact absurd rfl w
      refine bth_of (by decide) (by decide) hC hM ⟨⟨nn, nf + 1, bd, rk, P1, A1, ?_, u1, u2⟩, S.2.1.to (gp 24 (Or.inr (by decide))) t24 (fun j a b c d => pk_un a) (fun j hj => pk_un (by omega)), S.2.2⟩
      show U 0 + 1 = _
      rw [u0, nI_1]
/-- what the class asks before it looks at a rule -/
theorem PLC.cst {nn nf : Nat} {bd rk : Nat → Nat} (h : PLC G V nn nf bd rk) {x : Nat} (hx : x < nn) (rule : Int32) : vp_in (nI x) 60 ∧ (G 13 (ix (nI x)) = uT (ix rule) → vp_in rule 18 → vp_in (G 14 (ix (nI x))) 60) ∧ (vp_in rule 18 → G 13 (ix (nI x)) = uT (ix rule) → G 13 (ix (G 14 (ix (nI x)))) = lT (ix rule) → uT (ix rule) = 1 → vp_in (G 17 (ix (nI x))) 40 ∧ (rule = 0 → vp_in (G 17 (ix (G 14 (ix (nI x))))) 40) ∧ (rule = 4 → vp_in (G 15 (ix (G 14 (ix (nI x))))) 60) ∧ (rule = 7 → vp_in (G 17 (ix (G 14 (ix (nI x))))) 40)) ∧ (vp_in rule 18 → G 13 (ix (nI x)) = uT (ix rule) → G 13 (ix (G 14 (ix (nI x)))) = lT (ix rule) → ¬ uT (ix rule) = 1 → (rule = 8 → vp_in (G 17 (ix (nI x))) 40 ∧ vp_in (G 17 (ix (G 14 (ix (nI x))))) 40) ∧ (rule = 10 ∨ rule = 17 → vp_in (G 17 (ix (G 14 (ix (nI x))))) 40) ∧ (rule = 12 ∨ rule = 16 → vp_in (G 14 (ix (G 14 (ix (nI x))))) 60 ∧ vp_in (G 15 (ix (G 14 (ix (nI x))))) 60)) := by
  have hnn := h.1
  have hnf := h.2.1
  obtain ⟨k, c, b, m, v, ⟨q1, q2, q3, q4, q5⟩, sx, -⟩ := h.node hx
  have ex : ix (nI x) = x := ix_nI (by omega)
  have u0 : ∀ r : Nat, r < 18 → ¬ uT r = 0 := by decide
  have kne : vp_in rule 18 → nI k = uT (ix rule) → k ≠ 0 := fun hr e w => by
    obtain ⟨r, r18, rfl⟩ := vp_nat hr
    rw [w, ix_nI (by omega)] at e
    exact u0 r r18 e.symm
  rw [ex, q1, q2, q5]
  refine ⟨vp_in_nI (by omega) (by decide), fun e hr => vp_in_nI (by have := (sx.2.2.1 (kne hr e)).1; omega) (by decide), fun hr e1 e2 e3 => ?_, fun hr e1 e2 e3 => ?_⟩
  · have k0 := kne hr e1
    have hc := (sx.2.2.1 k0).1
    obtain ⟨k2, a2, b2, m2, v2, ⟨p1, p2, p3, p4, p5⟩, sc, -⟩ := h.node hc
    have ec : ix (nI c) = c := ix_nI (by omega)
    rw [ec, p1] at e2
    rw [ec, p3, p5]
    have kk : k = 1 := (kI sx.1 (by decide : 1 < 2 ^ 31)).mp (e1.trans e3)
    refine ⟨vp_in_nI (by have := sx.2.2.2.2.2.2.2.1 (Or.inl kk); omega) (by decide), fun w => ?_, fun w => ?_, fun w => ?_⟩
    · have : k2 = 2 := (kI sc.1 (by decide : 2 < 2 ^ 31)).mp (e2.trans (by rw [w]; decide))
      exact vp_in_nI (by have := sc.2.2.2.2.2.2.2.1 (Or.inr this); omega) (by decide)
    · have : k2 = 5 := (kI sc.1 (by decide : 5 < 2 ^ 31)).mp (e2.trans (by rw [w]; decide))
      exact vp_in_nI (by have := (sc.2.2.2.1 (Or.inr this)).1; omega) (by decide)
    · have : k2 = 1 := (kI sc.1 (by decide : 1 < 2 ^ 31)).mp (e2.trans (by rw [w]; decide))
      exact vp_in_nI (by have := sc.2.2.2.2.2.2.2.1 (Or.inl this); omega) (by decide)
  · have k0 := kne hr e1
    have hc := (sx.2.2.1 k0).1
    obtain ⟨k2, a2, b2, m2, v2, ⟨p1, p2, p3, p4, p5⟩, sc, -⟩ := h.node hc
    have ec : ix (nI c) = c := ix_nI (by omega)
    rw [ec, p1] at e2
    rw [ec, p2, p3, p5]
    refine ⟨fun w => ?_, fun w => ?_, fun w => ?_⟩
    · have w1 : k = 2 := (kI sx.1 (by decide : 2 < 2 ^ 31)).mp (e1.trans (by rw [w]; decide))
      have w2 : k2 = 2 := (kI sc.1 (by decide : 2 < 2 ^ 31)).mp (e2.trans (by rw [w]; decide))
      exact ⟨vp_in_nI (by have := sx.2.2.2.2.2.2.2.1 (Or.inr w1); omega) (by decide), vp_in_nI (by have := sc.2.2.2.2.2.2.2.1 (Or.inr w2); omega) (by decide)⟩
    · have w2 : k2 = 2 := (kI sc.1 (by decide : 2 < 2 ^ 31)).mp (e2.trans (by rcases w with w | w <;> rw [w] <;> decide))
      exact vp_in_nI (by have := sc.2.2.2.2.2.2.2.1 (Or.inr w2); omega) (by decide)
    · have w2 : k2 = 5 := (kI sc.1 (by decide : 5 < 2 ^ 31)).mp (e2.trans (by rcases w with w | w <;> rw [w] <;> decide))
      exact ⟨vp_in_nI (by have := (sc.2.2.1 (by omega)).1; omega) (by decide), vp_in_nI (by have := (sc.2.2.2.1 (Or.inr w2)).1; omega) (by decide)⟩
/-- what the reference asks -/
theorem PLC.hst {nn nf : Nat} {bd rk : Nat → Nat} (h : PLC G V nn nf bd rk) (ag : AGR G H nn nf) {x : Nat} (hx : x < nn) : (vp_in (nI x) 60) ∧ (¬ H 10 (ix (nI x)) = 0 → vp_in (H 11 (ix (nI x))) 60) ∧ (H 10 (ix (nI x)) = 1 ∨ H 10 (ix (nI x)) = 2 → vp_in (H 14 (ix (nI x))) 40) ∧ (¬ H 10 (ix (nI x)) = 0 → H 10 (ix (H 11 (ix (nI x)))) = 1 ∨ H 10 (ix (H 11 (ix (nI x)))) = 2 → vp_in (H 14 (ix (H 11 (ix (nI x))))) 40) ∧ (¬ H 10 (ix (nI x)) = 0 → H 10 (ix (H 11 (ix (nI x)))) = 5 → vp_in (H 11 (ix (H 11 (ix (nI x))))) 60 ∧ vp_in (H 12 (ix (H 11 (ix (nI x))))) 60) := by
  have hnn := h.1
  have hnf := h.2.1
  obtain ⟨k, c, b, m, v, ⟨q1, q2, q3, q4, q5⟩, sx, -⟩ := h.node hx
  obtain ⟨a1, a2, a3, a4, a5⟩ := ag.2.2.2.2 x hx
  have ex : ix (nI x) = x := ix_nI (by omega)
  rw [ex, ← a1, ← a2, ← a5, q1, q2, q5]
  have kne : ¬ nI k = 0 → k ≠ 0 := fun e w => e (by rw [w]; rfl)
  have kk : ∀ j : Nat, j < 9 → nI k = nI j → k = j := fun j hj e => (kI sx.1 (by omega)).mp e
  refine ⟨vp_in_nI (by omega) (by decide), fun e => vp_in_nI (by have := (sx.2.2.1 (kne e)).1; omega) (by decide), fun e => vp_in_nI (by have := sx.2.2.2.2.2.2.2.1 (e.elim (fun w => Or.inl (kk 1 (by decide) w)) (fun w => Or.inr (kk 2 (by decide) w))); omega) (by decide), fun e => ?_, fun e => ?_⟩
  · have hc := (sx.2.2.1 (kne e)).1
    obtain ⟨k2, a2', b2, m2, v2, ⟨p1, p2, p3, p4, p5⟩, sc, -⟩ := h.node hc
    obtain ⟨d1, d2, d3, d4, d5⟩ := ag.2.2.2.2 c hc
    rw [ix_nI (by omega), ← d1, ← d5, p1, p5]
    intro w
    exact vp_in_nI (by have := sc.2.2.2.2.2.2.2.1 (w.elim (fun w => Or.inl ((kI sc.1 (by decide : 1 < 2 ^ 31)).mp w)) (fun w => Or.inr ((kI sc.1 (by decide : 2 < 2 ^ 31)).mp w))); omega) (by decide)
  · have hc := (sx.2.2.1 (kne e)).1
    obtain ⟨k2, a2', b2, m2, v2, ⟨p1, p2, p3, p4, p5⟩, sc, -⟩ := h.node hc
    obtain ⟨d1, d2, d3, d4, d5⟩ := ag.2.2.2.2 c hc
    rw [ix_nI (by omega), ← d1, ← d2, ← d3, p1, p2, p3]
    intro w
    have w5 : k2 = 5 := (kI sc.1 (by decide : 5 < 2 ^ 31)).mp w
    exact ⟨vp_in_nI (by have := (sc.2.2.1 (by omega)).1; omega) (by decide), vp_in_nI (by have := (sc.2.2.2.1 (Or.inr w5)).1; omega) (by decide)⟩
end TOP3
