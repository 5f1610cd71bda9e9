theorem AGR.cong2 {G G' H H' : Nat → Nat → Int32} {nn nf : Nat} (h : AGR G H nn nf) (g : ∀ p, p ≤ 19 → G' p = G p) (e : ∀ p, p ≤ 14 → H' p = H p) : AGR G' H' nn nf := by
  unfold AGR
  rw [g 3 (by decide), g 2 (by decide), g 4 (by decide), g 6 (by decide), g 7 (by decide), g 8 (by decide), g 9 (by decide), g 10 (by decide), g 11 (by decide), g 13 (by decide), g 14 (by decide), g 15 (by decide), g 16 (by decide), g 17 (by decide), e 1 (by decide), e 2 (by decide), e 3 (by decide), e 4 (by decide), e 5 (by decide), e 6 (by decide), e 7 (by decide), e 8 (by decide), e 9 (by decide), e 10 (by decide), e 11 (by decide), e 12 (by decide), e 13 (by decide), e 14 (by decide)]
  exact h
theorem AGR.cong {G H H' : Nat → Nat → Int32} {nn nf : Nat} (h : AGR G H nn nf) (e : ∀ p, p ≤ 14 → H' p = H p) : AGR G H' nn nf := h.cong2 (fun _ _ => rfl) e
theorem PLC.cong {G G' : Nat → Nat → Int32} {V : Nat → Int32} {nn nf : Nat} {bd rk : Nat → Nat} (h : PLC G V nn nf bd rk) (g : ∀ p, p ≤ 19 → G' p = G p) : PLC G' V nn nf bd rk := by
  obtain ⟨p1, p2, p3, p4, p5, p6, p7⟩ := h
  refine ⟨p1, p2, p3, p4, ?_, ?_, fun i hi => ?_⟩
  · unfold fmO
    rw [g 6 (by decide), g 7 (by decide), g 8 (by decide), g 9 (by decide), g 11 (by decide)]; exact p5
  · rw [g 3 (by decide)]; exact p6
  · obtain ⟨k, a, b, m, v, q⟩ := p7 i hi
    refine ⟨k, a, b, m, v, ?_⟩
    unfold ndO ndE at *
    have e : fX1_failsOf G' (nI k) (nI a) (nI b) (nI v) = fX1_failsOf G (nI k) (nI a) (nI b) (nI v) := by unfold fX1_failsOf; rw [g 19 (by decide), g 11 (by decide)]
    rw [g 13 (by decide), g 14 (by decide), g 15 (by decide), g 16 (by decide), g 17 (by decide), g 18 (by decide), g 19 (by decide), e]; exact q
theorem inC (x : Int32) (m : Nat) (hm : m < 2 ^ 31 - 1) : (∃ j : Nat, j ≤ m ∧ x = nI j ∧ fX6_in x.toInt64 0 (Int64.ofNat m) = 1) ∨ ((∀ j : Nat, j ≤ m → ¬ x = nI j) ∧ (x < 0 ∨ nI m < x) ∧ fX6_in x.toInt64 0 (Int64.ofNat m) = 0) := by
  rw [in_iff (by omega)]
  rcases pk_ix x (n := m + 1) (by omega) with w | w | ⟨j, hj, rfl⟩
  · right
    refine ⟨fun j hj e => ?_, Or.inl w, if_pos w⟩
    rw [e] at w; exact nI_pos (by omega) w
  · right
    have n0 : ¬ x < 0 := fun q => by
      have h1 := Int32.lt_iff_toInt_lt.mp q
      have h2 := Int32.le_iff_toInt_le.mp w
      rw [nI_toInt (by omega)] at h2
      have e0 : (0 : Int32).toInt = 0 := rfl
      omega
    have n3 : nI m < x := by
      rw [Int32.lt_iff_toInt_lt, nI_toInt (by omega)]
      have h2 := Int32.le_iff_toInt_le.mp w
      rw [nI_toInt (by omega)] at h2
      omega
    refine ⟨fun j hj e => ?_, Or.inr n3, ?_⟩
    · rw [e, nI_ltI (by omega) (by omega)] at n3; omega
    · rw [if_neg n0, if_pos n3]
  · left
    exact ⟨j, by omega, rfl, by rw [if_neg (nI_pos (by omega)), if_neg (nI_nlt (by omega) (by omega))]⟩
theorem mem_in (x : Int32) : fX5_isMember x = fX6_in x.toInt64 0 5 := by
  unfold fX5_isMember
  rcases inC x 5 (by decide) with ⟨j, hj, rfl, e⟩ | ⟨-, w, e⟩
  · rw [show fX6_in (nI j).toInt64 0 5 = 1 from e, if_neg (nI_pos (by omega)), if_neg (show ¬ (6 : Int32) ≤ nI j from nI_ge (b := 6) (by omega) (by decide))]
  · rw [show fX6_in x.toInt64 0 5 = 0 from e]
    by_cases c : x < 0
    · rw [if_pos c]
    · rw [if_neg c, if_pos]
      have h1 := Int32.lt_iff_toInt_lt.mp (w.resolve_left c)
      rw [Int32.le_iff_toInt_le]
      have e5 : (nI 5).toInt = 5 := rfl
      have e6 : (6 : Int32).toInt = 6 := rfl
      omega
theorem hasN_eq {V U : Nat → Int32} {nn : Nat} (hn : nn < 2 ^ 31) (v1 : V 1 = nI nn) (u1 : U 1 = nI nn) (x : Int32) : fX1_has V x = fX6_isNode U x := by
  unfold fX1_has fX6_isNode; rw [in_cnt hn u1, v1]
theorem hasF_eq {V U : Nat → Int32} {nf : Nat} (hn : nf < 2 ^ 31) (v0 : V 0 = nI nf) (u0 : U 0 = nI nf) (x : Int32) : fX0_has V x = fX6_isFormula U x := by
  unfold fX0_has fX6_isFormula; rw [in_cnt hn u0, v0]
theorem has_nat {V : Nat → Int32} {nn : Nat} (hn : nn < 2 ^ 31) (v1 : V 1 = nI nn) {x : Int32} (h : ¬ fX1_has V x = 0) : ∃ j : Nat, j < nn ∧ x = nI j := by
  unfold fX1_has at h
  rcases pk_ix x hn with w | w | q
  · rw [if_pos w] at h; exact absurd rfl h
  · rw [v1] at h
    by_cases c : x < 0
    · rw [if_pos c] at h; exact absurd rfl h
    · rw [if_neg c, if_pos w] at h; exact absurd rfl h
  · exact q
theorem hasF_nat {V : Nat → Int32} {nf : Nat} (hn : nf < 2 ^ 31) (v0 : V 0 = nI nf) {x : Int32} (h : ¬ fX0_has V x = 0) : ∃ j : Nat, j < nf ∧ x = nI j := by
  unfold fX0_has at h
  rcases pk_ix x hn with w | w | q
  · rw [if_pos w] at h; exact absurd rfl h
  · rw [v0] at h
    by_cases c : x < 0
    · rw [if_pos c] at h; exact absurd rfl h
    · rw [if_neg c, if_pos w] at h; exact absurd rfl h
  · exact q
section TOP2
variable {l : Launch} {k : Kt} {ad am : Nat → Nat} {G : Nat → Nat → Int32} {V : Nat → Int32} {n : Nat} {H : Nat → Nat → Int32} {U : Nat → Int32}
theorem b_formulaOf (S : SIM G V n H U) (f w : Int32) : BTH l k ad am G V n H U yX5_formulaOf cX5_formulaOf 3 yX6_formulaOf cX6_formulaOf 3 [.int f, .int w] := by
  obtain ⟨nn, nf, bd, rk, p, a, u0, u1, u2⟩ := S.1
  have hnf := p.2.1
  have v0 := p.2.2.1
  have hM := c_X6_formulaOf (l := l) (k := k) (ad := am) (G := H) (V := U) f w ⟨nf, hnf, u0⟩
  have hC := c_X5_formulaOf (l := l) (k := k) (ad := ad) (G := G) (V := V) (n := n) f w ⟨nf, hnf, v0⟩
  have a1 : fX5_formulaOf G V f w = fX6_formulaOf H U f w := by
    unfold fX5_formulaOf fX6_formulaOf
    rw [hasF_eq (by omega) v0 u0 f]
    by_cases c : fX6_isFormula U f = 0
    · rw [if_pos c, if_pos c]
    · rw [if_neg c, if_neg c]
      rw [← hasF_eq (by omega) v0 u0 f] at c
      obtain ⟨j, hj, rfl⟩ := hasF_nat (by omega) v0 c
      obtain ⟨-, -, -, -, e10, e11⟩ := a.2.2.2.1 j hj
      rw [ix_nI (by omega), e10, e11]
      rcases inC w 1 (by decide) with ⟨t, ht, rfl, e⟩ | ⟨e0, -, e⟩
      · rw [if_neg (show ¬ fX6_in (nI t).toInt64 0 1 = 0 by rw [show fX6_in (nI t).toInt64 0 1 = 1 from e]; decide)]
        rcases (show t = 0 ∨ t = 1 by omega) with rfl | rfl
        · rw [if_pos (show nI 0 = 0 from rfl), if_pos (show nI 0 = 0 from rfl)]
        · rw [if_neg (show ¬ nI 1 = 0 by decide), if_neg (show ¬ nI 1 = 0 by decide), if_pos (show nI 1 = 1 from rfl)]; rfl
      · rw [if_pos (show fX6_in w.toInt64 0 1 = 0 from e), if_neg (show ¬ w = 0 from e0 0 (by decide)), if_neg (show ¬ w = 1 from e0 1 (by decide))]
  rw [← a1] at hM
  exact bth_of (by decide) (by decide) hC hM S
set_option maxHeartbeats 800000 in
theorem b_member (S : SIM G V n H U) (i m : Int32) : BTH l k ad am G V n H U yX5_member cX5_member 3 yX6_member cX6_member 3 [.int i, .int m] := by
  obtain ⟨-, -, -, -, r, hr, v4, u7, hrow⟩ := S.2.1
  have hn := (gch_le S.2.2).2
  have iI : ∀ q : ¬ fX6_in i.toInt64 0 ((U 7) - 1).toInt64 = 0, ∃ j : Nat, j < r ∧ i = nI j := fun q => by
    rw [in_cnt (show r < 2 ^ 31 by omega) u7] at q
    rcases pk_ix i (n := r) (by omega) with w | w | w
    · rw [if_pos w] at q; exact absurd rfl q
    · by_cases c : i < 0
      · rw [if_pos c] at q; exact absurd rfl q
      · rw [if_neg c, if_pos w] at q; exact absurd rfl q
    · exact w
  have mI : ¬ fX6_in m.toInt64 0 5 = 0 → ∃ j : Nat, j < 6 ∧ m = nI j := fun q => by
    rcases inC m 5 (by decide) with ⟨j, hj, e, -⟩ | ⟨-, -, e⟩
    · exact ⟨j, by omega, e⟩
    · exact absurd e q
  have hM := c_X6_member (l := l) (k := k) (ad := am) (G := H) (V := U) i m (fun q q2 => by
    obtain ⟨j, hj, rfl⟩ := iI q
    obtain ⟨t, ht, rfl⟩ := mI q2
    rw [show (6 : Int32) = nI 6 from rfl, pk_mul, nI_add]; exact vp_in_nI (by omega) (by decide))
  have key : ∀ j t : Nat, j < r → t < 6 → ∃ st : Nat, V 3 = nI st ∧ st + 6 * r ≤ n ∧ G 24 (st + 6 * j + t) = H 24 (6 * j + t) := fun j t hj ht => by
    obtain ⟨st, e1, e2, e3⟩ := hrow (by omega)
    refine ⟨st, e1, e2, ?_⟩
    have q1 := tb_get (C := G 24) (b := st) hj
    have q2 := tb_get (C := H 24) (b := 0) hj
    rw [e3] at q1
    have q3 := Option.some.inj (q1.symm.trans q2)
    have q4 := congrArg (fun z => z.getD t 0) q3
    rw [rd_get ht, rd_get ht, Nat.zero_add] at q4
    exact q4
  have hC : CT l k yX5_member cX5_member 3 (some .int) 5 [.ref (ad 0), .int i, .int m] (WC k ad G V n) (eqI (fX6_member H U i m) (WC k ad G V n)) 0 0 := by
    refine ct_of (own := RX5) (lv0 := [(0, .ref (ad 0)), (1, .int i), (2, .int m)]) (by decide) rfl (Nat.le_of_ble_eq_true rfl) rfl ?_
    rintro z rfl rfl hz - E T
    have c2 : ∀ q : ¬ i < 0, i < V 4 → ∃ j : Nat, j < r ∧ i = nI j := fun q q2 => by
      rcases pk_ix i (n := r) (by omega) with w | w | w
      · exact absurd w q
      · rw [v4] at q2; exact absurd w (Int32.not_le.mpr q2)
      · exact w
    refine qm_a E T hz (Nat.le_refl 5) i m (fun q q1 q2 => ?_) (fun q => eqI.mk ?_ rfl) (fun q => eqI.mk ?_ rfl)
    · rw [mem_in] at q
      obtain ⟨j, hj, rfl⟩ := c2 q1 q2
      obtain ⟨t, ht, rfl⟩ := mI q
      obtain ⟨st, e1, e2, -⟩ := key j t hj ht
      rw [e1, show (6 : Int32) = nI 6 from rfl, pk_mul, nI_add, nI_add]; exact vp_in_nI (by omega) (by omega)
    · rw [mem_in] at q
      unfold fX3_given fX6_member
      rw [in_cnt (show r < 2 ^ 31 by omega) u7]
      by_cases q1 : i < 0
      · rw [if_pos q1, if_pos q1, if_pos rfl]
      · rw [if_neg q1, if_neg q1]
        by_cases q2 : i < V 4
        · obtain ⟨j, hj, rfl⟩ := c2 q1 q2
          obtain ⟨t, ht, rfl⟩ := mI q
          obtain ⟨st, e1, e2, e3⟩ := key j t hj ht
          rw [if_pos q2, if_neg (nI_ge hj (by omega)), if_neg (show ¬ (1 : Int32) = 0 by decide), if_neg q, e1, show (6 : Int32) = nI 6 from rfl, pk_mul, pk_mul, nI_add, nI_add, nI_add, ix_nI (by omega), ix_nI (by omega), Nat.mul_comm j 6]
          exact e3
        · rw [if_neg q2]
          rw [v4] at q2
          rw [if_pos (Int32.not_lt.mp q2), if_pos rfl]
    · rw [mem_in] at q
      unfold fX6_member
      rw [if_pos q]
      split <;> rfl
  exact bth_of (by decide) (by decide) hC hM S
set_option maxHeartbeats 800000 in
theorem b_told (S : SIM G V n H U) (x w : Int32) : BTH l k ad am G V n H U yX5_told cX5_told 3 yX6_told cX6_told 3 [.int x, .int w] := by
  obtain ⟨nn, nf, bd, rk, p, a, u0, u1, u2⟩ := S.1
  have hnn := p.1
  have v1 := p.2.2.2.1
  have hC := c_X5_told (l := l) (k := k) (ad := ad) (G := G) (V := V) (n := n) x w ⟨nn, hnn, v1⟩
  have hM : CT l k yX6_told cX6_told 3 (some .int) 4 [.ref (am 0), .int x, .int w] (WM k am H U) (fun v w' => v = some (.int (fX5_told G V x w)) ∧ ∃ H' : Nat → Nat → Int32, w' = WM k am H' U ∧ ∀ p, p ≠ 15 → p ≠ 16 → H' p = H p) 0 0 := by
    refine ct_of (own := RX6) (lv0 := [(0, .ref (am 0)), (1, .int x), (2, .int w)]) (by decide) rfl (Nat.le_of_ble_eq_true rfl) rfl ?_
    rintro z rfl rfl hz - E T
    have eN := hasN_eq (by omega) v1 u1 x
    have t0 : fX6_isNode U x = 0 → fX5_told G V x w = -1 := fun q => by unfold fX5_told; rw [eN, if_pos q]
    have t1 : ∀ q : ¬ fX6_isNode U x = 0, ∃ j : Nat, j < nn ∧ x = nI j := fun q => by rw [← eN] at q; exact has_nat (by omega) v1 q
    have tw : ∀ q : ¬ fX6_isNode U x = 0, fX6_in w.toInt64 0 6 = 0 → fX5_told G V x w = -1 := fun q q2 => by
      unfold fX5_told
      rw [eN, if_neg q]
      rcases inC w 6 (by decide) with ⟨j, hj, e, e2⟩ | ⟨e0, -, -⟩
      · rw [show fX6_in w.toInt64 0 6 = 1 from e2] at q2; exact absurd q2 (by decide)
      · rw [if_neg (show ¬ w = 0 from e0 0 (by decide)), if_neg (show ¬ w = 1 from e0 1 (by decide)), if_neg (show ¬ w = 2 from e0 2 (by decide)), if_neg (show ¬ w = 3 from e0 3 (by decide)), if_neg (show ¬ w = 4 from e0 4 (by decide)), if_neg (show ¬ w = 5 from e0 5 (by decide)), if_neg (show ¬ w = 6 from e0 6 (by decide))]
    refine pt_told E T hz (Nat.le_refl 4) x w ⟨nn, hnn, u1⟩ (fun G' => (∀ p, p ≠ 15 → p ≠ 16 → G' p = H p) ∧ ∀ i, i < nn → G' 15 i = G 18 i ∧ G' 16 i = G 19 i) (c_look (p.lk a) u1) (fun q => ⟨by rw [t0 q], H, rfl, fun _ _ _ => rfl⟩) (fun Ga hq q _ q0 => ?_) (fun Ga hq q _ q0 q1 => ?_) (fun Ga hq q _ q0 q1 q2 => ?_) (fun Ga hq q _ q0 q1 q2 q3 => ?_) (fun Ga hq q _ q0 q1 q2 q3 q4 => ?_) (fun Ga hq q _ q0 q1 q2 q3 q4 q5 => ?_) (fun Ga hq q q6 q0 q1 q2 q3 q4 q5 => ?_) (fun q q2 => ⟨by rw [tw q q2], H, rfl, fun _ _ _ => rfl⟩)
    all_goals
      obtain ⟨j, hj, rfl⟩ := t1 q
      obtain ⟨a1, a2, a3, a4, a5⟩ := a.2.2.2.2 j hj
      refine ⟨?_, Ga, rfl, hq.1⟩
      congr 2
      unfold fX5_told
      rw [eN, if_neg q, ix_nI (by omega)]
    · rw [if_pos q0, hq.1 10 (by decide) (by decide)]; exact a1.symm
    · rw [if_neg q0, if_pos q1, hq.1 11 (by decide) (by decide)]; exact a2.symm
    · rw [if_neg q0, if_neg q1, if_pos q2, hq.1 12 (by decide) (by decide)]; exact a3.symm
    · rw [if_neg q0, if_neg q1, if_neg q2, if_pos q3, hq.1 13 (by decide) (by decide)]; exact a4.symm
    · rw [if_neg q0, if_neg q1, if_neg q2, if_neg q3, if_pos q4, hq.1 14 (by decide) (by decide)]; exact a5.symm
    · rw [if_neg q0, if_neg q1, if_neg q2, if_neg q3, if_neg q4, if_pos q5]; exact (hq.2 j hj).1
    · have e6 : w = 6 := by
        rcases inC w 6 (by decide) with ⟨t, ht, e, e2⟩ | ⟨-, -, e⟩
        · rcases (show t = 0 ∨ t = 1 ∨ t = 2 ∨ t = 3 ∨ t = 4 ∨ t = 5 ∨ t = 6 by omega) with rfl | rfl | rfl | rfl | rfl | rfl | rfl
          · exact absurd e q0
          · exact absurd e q1
          · exact absurd e q2
          · exact absurd e q3
          · exact absurd e q4
          · exact absurd e q5
          · exact e
        · exact absurd e q6
      rw [if_neg q0, if_neg q1, if_neg q2, if_neg q3, if_neg q4, if_neg q5, if_pos e6, (hq.2 j hj).2]; rfl
  have hg := S.2.2
  refine ⟨fX5_told G V x w, 0, 1, 4, _, _, by decide, by decide, by rw [kc_0 hg (Nat.zero_le _), ks_0 hg (Nat.zero_le _)]; exact hC, hM, fun v w' v2 w2 h1 h2 => ?_⟩
  obtain ⟨e1, e2⟩ := h1
  obtain ⟨e3, H', e4, e5⟩ := h2
  refine ⟨e1, e3, ad, G, V, n, H', U, e2, e4, rfl, ⟨?_, S.2.1.to rfl (e5 24 (by decide) (by decide)) (fun _ _ _ _ _ => rfl) (fun _ _ => rfl), hg⟩, (gw_id hg (Nat.zero_le _)).symm⟩
  exact ⟨nn, nf, bd, rk, p, a.cong (fun p h => e5 p (by omega) (by omega)), u0, u1, u2⟩
set_option maxHeartbeats 800000 in
theorem b_run (S : SIM G V n H U) (x : Int32) : BTH l k ad am G V n H U yX5_run cX5_run 2 yX6_run cX6_run 6 [.int x] := by
  obtain ⟨nn, nf, bd, rk, p, a, u0, u1, u2⟩ := S.1
  have hnn := p.1
  have v1 := p.2.2.2.1
  have hg := S.2.2
  have eN := hasN_eq (by omega) v1 u1 x
  by_cases c : fX1_has V x = 0
  · have hC : CT l k yX5_run cX5_run 2 (some .int) 5 [.ref (ad 0), .int x] (WC k ad G V n) (eqI (-1) (WC k ad G V n)) 0 0 := by
      refine ct_of (own := RX5) (lv0 := [(0, .ref (ad 0)), (1, .int x)]) (by decide) rfl (Nat.le_of_ble_eq_true rfl) rfl ?_
      rintro z rfl rfl hz - E T
      exact qr_a E T hz ⟨Nat.le_refl _, Nat.le_refl _⟩ (Nat.le_refl 5) x (fun q => absurd c q) (fun _ => eqI.mk rfl rfl)
    have hM : CT l k yX6_run cX6_run 6 (some .int) 7 [.ref (am 0), .int x] (WM k am H U) (eqI (-1) (WM k am H U)) 0 0 := by
      refine ct_of (own := RX6) (lv0 := [(0, .ref (am 0)), (1, .int x)]) (by decide) rfl (Nat.le_of_ble_eq_true rfl) rfl ?_
      rintro z rfl rfl hz - E T
      exact r_a E T hz (Nat.le_refl 7) x (fun q => absurd (eN.symm.trans c) q) (fun _ => eqI.mk rfl rfl)
    exact bth_of (by decide) (by decide) hC hM S
  · obtain ⟨j, hj, rfl⟩ := has_nat (by omega) v1 c
    have okp := p.okP a
    have hM := c_run (l := l) (k := k) (ad := am) (G0 := H) (V0 := U) okp u1 (x := nI j) rfl hj
    have hC : CT l k yX5_run cX5_run 2 (some .int) 86 [.ref (ad 0), .int (nI j)] (WC k ad G V n) (fun v w' => v = some (.int (runA (rsL (FM H) (pst (FM H) 60 j [])) j)) ∧ ∃ (ad' : Nat → Nat) (G' : Nat → Nat → Int32) (V' : Nat → Int32) (n' : Nat), w' = WC k ad' G' V' n' ∧ rnC (FM H) ad G V n j (rsU (FM H) (pst (FM H) 60 j [])) (rsL (FM H) (pst (FM H) 60 j [])) ad' G' V' n') (kc n (rsU (FM H) (pst (FM H) 60 j []))) (ks n (rsU (FM H) (pst (FM H) 60 j []))) := by
      refine ct_of (own := RX5) (lv0 := [(0, .ref (ad 0)), (1, .int (nI j))]) (by decide) rfl (Nat.le_of_ble_eq_true rfl) rfl ?_
      rintro z rfl rfl hz - E T
      refine qr_a E T hz ⟨Nat.zero_le _, Nat.zero_le _⟩ (by decide) (nI j) (fun _ => ?_) (fun q => absurd q c)
      refine rV E cvX5_120 T.rr Fr.all 23 wc_23 rfl [.int (nI j)] (c_give (l := zl z) (k := zk z) (ad0 := ad) (G0 := G) (V0 := V) (n0 := n) okp a.agQ rfl hj hg) (by decide) rfl rfl (Nat.le_of_ble_eq_true rfl) ⟨by omega, by omega⟩ dX5_run_18 (fun v w' h => ?_)
      obtain ⟨rfl, h⟩ := h
      rw [Nat.zero_add, Nat.zero_add]
      exact r_iret E T dX5_run_21 ⟨rfl, h⟩
    refine ⟨runA (rsL (FM H) (pst (FM H) 60 j [])) j, rsU (FM H) (pst (FM H) 60 j []), 86, 7, _, _, by decide, by decide, hC, hM, fun v w' v2 w2 h1 h2 => ?_⟩
    obtain ⟨e1, ad', G', V', n', e2, r1, r2, r3, r4, r5, r6, r7, r8, r9, r10⟩ := h1
    obtain ⟨e3, H', U', e4, t1, t2, t3, t4, t5, t6, t7, t8⟩ := h2
    have V9 : ∀ j, j = 0 ∨ j = 1 ∨ j = 9 → V' j = V j := r3
    refine ⟨e1, e3, ad', G', V', n', H', U', e2, e4, r1 0 (by decide), ⟨?_, ?_, by rw [r10]; exact gw_ch hg⟩, r10⟩
    · refine ⟨nn, nf, bd, rk, (p.cong (fun p h => r2 p (by omega) (by omega) (by omega) (by omega) (by omega) (by omega))).v (V9 0 (Or.inl rfl)) (V9 1 (Or.inr (Or.inl rfl))), a.cong2 (fun p h => r2 p (by omega) (by omega) (by omega) (by omega) (by omega) (by omega)) (fun p h => t1 p (by omega) (by omega) (by omega) (by omega) (by omega) (by omega) (by omega) (by omega)), ?_, ?_, ?_⟩
      · rw [t2 0 (by decide) (by decide) (by decide) (by decide) (by decide) (by decide) (by decide) (by decide) (by decide)]; exact u0
      · rw [t2 1 (by decide) (by decide) (by decide) (by decide) (by decide) (by decide) (by decide) (by decide) (by decide)]; exact u1
      · rw [t2 2 (by decide) (by decide) (by decide) (by decide) (by decide) (by decide) (by decide) (by decide) (by decide), V9 9 (Or.inr (Or.inr rfl))]; exact u2
    · generalize rsL (FM H) (pst (FM H) 60 j []) = s at *
      refine ⟨r4.trans t3.symm, r5.trans t4.symm, r6.trans t5.symm, r7.trans t6.symm, ?_⟩
      by_cases f0 : s.2.1 = 0
      · obtain ⟨st, e5, e6, e7, e8⟩ := r9 f0
        rw [if_pos f0] at r8 t7
        exact ⟨(s.1 j).length, e6, r8, t7, fun _ => ⟨st, e5, e8, e7.symm.trans (t8 f0).2⟩⟩
      · rw [if_neg f0] at r8 t7
        exact ⟨0, by omega, r8, t7, fun w => absurd w (Nat.lt_irrefl _)⟩
end TOP2
