theorem news_eq : ∀ r : Nat, r < 18 → r ≠ 7 → nT r = fX6_news (nI r) := by decide +kernel
theorem ite_ap {α β : Type} {c : Prop} [Decidable c] (f g : α → β) (x : α) : (if c then f else g) x = if c then f x else g x := by split <;> rfl
theorem in_lo {x : Int32} {a b : Nat} (ha : a < 2 ^ 31) (hb : b < 2 ^ 31) (h : ¬ fX6_in x.toInt64 (Int64.ofNat a) (Int64.ofNat b) = 0) : ∃ j : Nat, a ≤ j ∧ j ≤ b ∧ x = nI j := by
  have ea : (Int64.ofNat a).toInt = (a : Int) := pk_lT (by omega)
  have eb : (Int64.ofNat b).toInt = (b : Int) := pk_lT (by omega)
  have ex : x.toInt64.toInt = x.toInt := Int32.toInt_toInt64 x
  unfold fX6_in at h
  simp only [lg_lt, lg_gt] at h
  by_cases c1 : x.toInt64.toInt < (Int64.ofNat a).toInt
  · rw [if_pos c1] at h; exact absurd rfl h
  · rw [if_neg c1] at h
    by_cases c2 : (Int64.ofNat b).toInt < x.toInt64.toInt
    · rw [if_pos c2] at h; exact absurd rfl h
    · refine ⟨x.toInt.toNat, by omega, by omega, Int32.toInt_inj.mp ?_⟩
      rw [nI_toInt (by omega)]; omega
theorem news_n (r : Int32) : ∃ w : Nat, w ≤ 3 ∧ fX6_news r = nI w ∧ (¬ (r = 7 ∨ r = 8 ∨ r = 9 ∨ r = 10 ∨ r = 13 ∨ r = 14 ∨ r = 15) → 1 ≤ w) ∧ (r = 4 ∨ r = 11 ∨ r = 12 ∨ r = 16 → 2 ≤ w) ∧ (r = 12 ∨ r = 16 → 3 ≤ w) := by
  unfold fX6_news
  by_cases c4 : r = 4
  · subst c4; exact ⟨2, by omega, rfl, fun _ => by omega, fun _ => by omega, fun w => absurd w (by decide)⟩
  · rw [if_neg c4]
    by_cases c11 : r = 11
    · subst c11; exact ⟨2, by omega, rfl, fun _ => by omega, fun _ => by omega, fun w => absurd w (by decide)⟩
    · rw [if_neg c11]
      by_cases c12 : r = 12
      · rw [if_pos c12]; exact ⟨3, by omega, rfl, fun _ => by omega, fun _ => by omega, fun _ => by omega⟩
      · rw [if_neg c12]
        by_cases c16 : r = 16
        · rw [if_pos c16]; exact ⟨3, by omega, rfl, fun _ => by omega, fun _ => by omega, fun _ => by omega⟩
        · rw [if_neg c16]
          have no : (r = 4 ∨ r = 11 ∨ r = 12 ∨ r = 16) → False := fun w => w.elim c4 (fun w => w.elim c11 (fun w => w.elim c12 c16))
          have no2 : (r = 12 ∨ r = 16) → False := fun w => w.elim c12 c16
          by_cases d : fX6_in r.toInt64 7 10 = 0
          · rw [if_pos d]
            by_cases d2 : fX6_in r.toInt64 13 15 = 0
            · rw [if_pos d2]; exact ⟨1, by omega, rfl, fun _ => by omega, fun w => absurd w no, fun w => absurd w no2⟩
            · rw [if_neg d2]
              obtain ⟨j, j1, j2, rfl⟩ := in_lo (a := 13) (b := 15) (by decide) (by decide) d2
              refine ⟨0, by omega, rfl, fun w => absurd ?_ w, fun w => absurd w no, fun w => absurd w no2⟩
              rcases (show j = 13 ∨ j = 14 ∨ j = 15 by omega) with rfl | rfl | rfl <;> decide
          · rw [if_neg d]
            obtain ⟨j, j1, j2, rfl⟩ := in_lo (a := 7) (b := 10) (by decide) (by decide) d
            refine ⟨0, by omega, rfl, fun w => absurd ?_ w, fun w => absurd w no, fun w => absurd w no2⟩
            rcases (show j = 7 ∨ j = 8 ∨ j = 9 ∨ j = 10 by omega) with rfl | rfl | rfl | rfl <;> decide
/-- what rewrites asks -/
theorem rw_asks {G H : Nat → Nat → Int32} {V U : Nat → Int32} {nn nf : Nat} {bd rk : Nat → Nat} (h : PLC G V nn nf bd rk) (ag : AGR G H nn nf) (u0 : U 0 = nI nf) (u1 : U 1 = nI nn) {x : Nat} (hx : x < nn) (r : Int32) (hs : ¬ fX6_stands H (nI x) r = 0) (h7 : r = 7 → H 10 (ix (nI x)) = 1 ∧ H 10 (ix (H 11 (ix (nI x)))) = 1) :
    (r = 7 → vp_in (H 11 (ix (nI x))) 60 ∧ vp_in (H 14 (ix (H 11 (ix (nI x))))) 40 ∧ vp_in (H 14 (ix (nI x))) 40) ∧ (¬ fX6_hasRoom H U (nI x) r = 0 → (vp_in (H 11 (ix (nI x))) 60) ∧ (¬ (r = 7 ∨ r = 8 ∨ r = 9 ∨ r = 10 ∨ r = 13 ∨ r = 14 ∨ r = 15) → vp_in (U 1) 60) ∧ (r = 4 ∨ r = 11 ∨ r = 12 ∨ r = 16 → vp_in (U 1 + 1) 60) ∧ (r = 12 ∨ r = 16 → vp_in (U 1 + 1 + 1) 60) ∧ (r = 7 → vp_in (H 14 (ix (H 11 (ix (nI x))))) 40 ∧ vp_in (H 14 (ix (nI x))) 40 ∧ vp_in (U 0) 40)) := by
  have hnn := h.1
  have hnf := h.2.1
  obtain ⟨t1, t2, t3, t4, t5⟩ := h.hst ag hx
  have k0 : ¬ H 10 (ix (nI x)) = 0 := fun w => hs (by unfold fX6_stands; rw [if_pos w])
  have s7 : r = 7 → vp_in (H 11 (ix (nI x))) 60 ∧ vp_in (H 14 (ix (H 11 (ix (nI x))))) 40 ∧ vp_in (H 14 (ix (nI x))) 40 := fun e => ⟨t2 k0, t4 k0 (Or.inl (h7 e).2), t3 (Or.inl (h7 e).1)⟩
  refine ⟨s7, fun hr => ?_⟩
  obtain ⟨w, w3, ew, a1, a2, a3⟩ := news_n r
  have rm : ¬ r = 7 → nn + w ≤ 60 := fun r7 => by
    unfold fX6_hasRoom at hr
    rw [if_neg r7, u1, ew, nI_add, show (60 : Int32) = nI 60 from rfl] at hr
    rcases Nat.lt_or_ge 60 (nn + w) with q | q
    · rw [if_pos (nI_lt q (by omega))] at hr; exact absurd rfl hr
    · exact q
  refine ⟨t2 k0, fun e => ?_, fun e => ?_, fun e => ?_, fun e => ⟨(s7 e).2.1, (s7 e).2.2, ?_⟩⟩
  · have := a1 e; have := rm (fun q => e (Or.inl q)); rw [u1]; exact vp_in_nI (by omega) (by decide)
  · have := a2 e; have := rm (fun q => by rw [q] at e; exact absurd e (by decide)); rw [u1, nI_1]; exact vp_in_nI (by omega) (by decide)
  · have := a3 e; have := rm (fun q => by rw [q] at e; exact absurd e (by decide)); rw [u1, nI_1, nI_1]; exact vp_in_nI (by omega) (by decide)
  · unfold fX6_hasRoom at hr
    rw [if_pos e, u0] at hr
    rw [u0]
    rcases Nat.lt_or_ge nf 40 with q | q
    · exact vp_in_nI q (by decide)
    · rw [if_pos (show (40 : Int32) ≤ nI nf from nI_le (a := 40) q (by omega))] at hr; exact absurd rfl hr
theorem std7 {G H : Nat → Nat → Int32} {V : Nat → Int32} {nn nf : Nat} {bd rk : Nat → Nat} (h : PLC G V nn nf bd rk) (ag : AGR G H nn nf) (h16 : ∀ i, i < nn → H 16 i = G 19 i) {x : Nat} (hx : x < nn) {r : Int32} (e : r = 7) (hs : ¬ fX6_stands H (nI x) r = 0) : H 10 (ix (nI x)) = 1 ∧ H 10 (ix (H 11 (ix (nI x)))) = 1 := by
  have hnn := h.1
  rw [e, show (7 : Int32) = nI 7 from rfl, ← suits_eq h ag h16 hx (by decide)] at hs
  obtain ⟨hk, hc⟩ := suits_kinds hs
  have ex : ix (nI x) = x := ix_nI (by omega)
  obtain ⟨a1, a2, -⟩ := ag.2.2.2.2 x hx
  obtain ⟨k9, c, b, m, v, ⟨q1, q2, -⟩, sx, -⟩ := h.node hx
  have hkU : k9 = 1 := (kI sx.1 (by decide : 1 < 2 ^ 31)).mp (by rw [ex, q1] at hk; exact hk.trans (by decide))
  subst hkU
  have hcn : c < nn := (sx.2.2.1 (by decide)).1
  have ec : ix (nI c) = c := ix_nI (by omega)
  obtain ⟨d1, -⟩ := ag.2.2.2.2 c hcn
  rw [ex, q2, ec] at hc
  rw [ex, ← a1, ← a2, q1, q2, ec, ← d1]
  exact ⟨rfl, hc.trans (by decide)⟩
section TOP4
variable {l : Launch} {k : Kt} {ad am : Nat → Nat} {G : Nat → Nat → Int32} {V : Nat → Int32} {n : Nat} {H : Nat → Nat → Int32} {U : Nat → Int32}
theorem room_eq {nn nf : Nat} {bd rk : Nat → Nat} (h : PLC G V nn nf bd rk) (ag : AGR G H nn nf) (u0 : U 0 = nI nf) (u1 : U 1 = nI nn) {x r : Nat} (hx : x < nn) (hr : r < 18) (hs : ¬ fX2_suits G (nI x) (nI r) = 0) : fX2_hasRoom G V (nI x) (nI r) = fX6_hasRoom H U (nI x) (nI r) := by
  unfold fX2_hasRoom fX6_hasRoom
  by_cases r7 : r = 7
  · subst r7
    obtain ⟨hk, hc⟩ := suits_kinds hs
    have hnn := h.1
    have hnf := h.2.1
    obtain ⟨k9, c, b, m, v, ⟨q1, q2, q3, q4, q5⟩, sx, -⟩ := h.node hx
    have ex : ix (nI x) = x := ix_nI (by omega)
    have hkU : k9 = 1 := (kI sx.1 (by decide : 1 < 2 ^ 31)).mp (by rw [ex, q1] at hk; exact hk.trans (by decide))
    subst hkU
    have hcn : c < nn := (sx.2.2.1 (by decide)).1
    obtain ⟨k2, a2, b2, m2, v2, ⟨p1, p2, p3, p4, p5⟩, sc, -⟩ := h.node hcn
    have ec : ix (nI c) = c := ix_nI (by omega)
    have hkL : k2 = 1 := (kI sc.1 (by decide : 1 < 2 ^ 31)).mp (by rw [ex, q2, ec, p1] at hc; exact hc.trans (by decide))
    subst hkL
    obtain ⟨a1, a2', a3, a4, a5⟩ := ag.2.2.2.2 x hx
    obtain ⟨d1, d2, d3, d4, d5⟩ := ag.2.2.2.2 c hcn
    have vl := sx.2.2.2.2.2.2.2.1 (by decide)
    have v2l := sc.2.2.2.2.2.2.2.1 (by decide)
    rw [if_pos (show (nI 7 : Int32) = 7 by decide), if_pos (show (nI 7 : Int32) = 7 by decide), ex, ← a2', ← a5, q2, q5, ec, ← d5, p5]
    unfold fX0_hasRoom fX0_sizeOf fX6_sizeOf
    rw [h.2.2.1, u0, if_neg (show ¬ fX0_takesFirst 9 = 0 by decide), if_neg (show ¬ fX0_takesSecond 9 = 0 by decide), if_neg (show ¬ fX6_hasOne 9 = 0 by decide), if_neg (show ¬ fX6_hasTwo 9 = 0 by decide), ix_nI (by omega), ix_nI (by omega), (ag.2.2.2.1 v vl).2.2.2.1, (ag.2.2.2.1 v2 v2l).2.2.2.1]
  · have n7 : ¬ nI r = 7 := fun e => r7 ((nI_eq (b := 7) (by omega) (by decide)).mp e)
    rw [if_neg n7, if_neg n7, ix_nI (by omega)]
    unfold fX1_hasRoom
    rw [h.2.2.2.1, u1, news_eq r hr r7]
theorem rule_eq (r : Int32) : (∃ j : Nat, j < 18 ∧ r = nI j ∧ fX2_has r = 1 ∧ fX6_in r.toInt64 0 17 = 1) ∨ (fX2_has r = 0 ∧ fX6_in r.toInt64 0 17 = 0) := by
  unfold fX2_has
  rcases inC r 17 (by decide) with ⟨j, hj, rfl, e⟩ | ⟨-, w, e⟩
  · left
    exact ⟨j, by omega, rfl, by rw [if_neg (nI_pos (by omega)), if_neg (show ¬ (18 : Int32) ≤ nI j from nI_ge (b := 18) (by omega) (by decide))], e⟩
  · right
    refine ⟨?_, e⟩
    by_cases c : r < 0
    · rw [if_pos c]
    · rw [if_neg c, if_pos]
      have h1 := Int32.lt_iff_toInt_lt.mp (w.resolve_left c)
      rw [Int32.le_iff_toInt_le]
      have e5 : (nI 17).toInt = 17 := rfl
      have e6 : (18 : Int32).toInt = 18 := rfl
      omega
theorem bool01 {G : Nat → Nat → Int32} {x r : Int32} : fX5_asNumber (fX2_suits G x r) = if fX2_suits G x r = 0 then 0 else 1 := rfl
set_option maxHeartbeats 800000 in
theorem b_fits (S : SIM G V n H U) (x r : Int32) : BTH l k ad am G V n H U yX5_fits cX5_fits 3 yX6_fits cX6_fits 3 [.int x, .int r] := by
  obtain ⟨nn, nf, bd, rk, p, a, u0, u1, u2⟩ := S.1
  have hnn := p.1
  have v1 := p.2.2.2.1
  have eN := hasN_eq (by omega) v1 u1 x
  have hg := S.2.2
  have hC : CT l k yX5_fits cX5_fits 3 (some .int) 6 [.ref (ad 0), .int x, .int r] (WC k ad G V n) (eqI (if fX1_has V x = 0 then -1 else if fX2_has r = 0 then -1 else if fX2_suits G x r = 0 then 0 else 1) (WC k ad G V n)) 0 0 := by
    refine ct_of (own := RX5) (lv0 := [(0, .ref (ad 0)), (1, .int x), (2, .int r)]) (by decide) rfl (Nat.le_of_ble_eq_true rfl) rfl ?_
    rintro z rfl rfl hz - E T
    have nd : ∀ q : ¬ fX1_has V x = 0, ∃ j : Nat, j < nn ∧ x = nI j := fun q => has_nat (by omega) v1 q
    have ru : ¬ fX2_has r = 0 → vp_in r 18 := fun q => by
      rcases rule_eq r with ⟨j, hj, rfl, -, -⟩ | ⟨w, -⟩
      · exact vp_in_nI hj (by decide)
      · exact absurd w q
    refine qt_a E T hz (Nat.le_refl 6) x r (fun q _ => ?_) (fun _ q => ru q) (fun q q2 => ?_) (fun q q2 => ?_) (fun q q2 => ?_) (fun q => eqI.mk (by rw [if_pos q]) rfl) (fun q q2 => eqI.mk (by rw [if_neg q, if_neg q2]; exact bool01) rfl) (fun q q2 => eqI.mk (by rw [if_neg q, if_pos q2]) rfl)
    · obtain ⟨j, hj, rfl⟩ := nd q; exact (p.cst hj r).1
    · obtain ⟨j, hj, rfl⟩ := nd q; exact fun w => (p.cst hj r).2.1 w (ru q2)
    · obtain ⟨j, hj, rfl⟩ := nd q; exact (p.cst hj r).2.2.1 (ru q2)
    · obtain ⟨j, hj, rfl⟩ := nd q; exact (p.cst hj r).2.2.2 (ru q2)
  have hM : CT l k yX6_fits cX6_fits 3 (some .int) 4 [.ref (am 0), .int x, .int r] (WM k am H U) (fun v w' => v = some (.int (if fX1_has V x = 0 then -1 else if fX2_has r = 0 then -1 else if fX2_suits G x r = 0 then 0 else 1)) ∧ ∃ H' : Nat → Nat → Int32, w' = WM k am H' U ∧ ∀ p, p ≠ 15 → p ≠ 16 → H' p = H p) 0 0 := by
    refine ct_of (own := RX6) (lv0 := [(0, .ref (am 0)), (1, .int x), (2, .int r)]) (by decide) rfl (Nat.le_of_ble_eq_true rfl) rfl ?_
    rintro z rfl rfl hz - E T
    have nd : ∀ q : ¬ fX6_isNode U x = 0, ∃ j : Nat, j < nn ∧ x = nI j := fun q => has_nat (by omega) v1 (by rw [eN]; exact q)
    refine pt_fits E T hz (Nat.le_refl 4) x r (fun G' => (∀ p, p ≠ 15 → p ≠ 16 → G' p = H p) ∧ ∀ i, i < nn → G' 15 i = G 18 i ∧ G' 16 i = G 19 i) (c_look (p.lk a) u1) (fun Ga hq q => ?_) (fun q => ⟨by rw [eN, if_pos q], H, rfl, fun _ _ _ => rfl⟩) (fun Ga hq q q2 => ⟨?_, Ga, rfl, hq.1⟩) (fun q q2 => ⟨?_, H, rfl, fun _ _ _ => rfl⟩)
    · obtain ⟨j, hj, rfl⟩ := nd q
      exact p.hst (a.cong (fun p h => hq.1 p (by omega) (by omega))) hj
    · obtain ⟨j, hj, rfl⟩ := nd q
      rcases rule_eq r with ⟨t, ht, rfl, w, -⟩ | ⟨-, w⟩
      · rw [eN, if_neg q, w, if_neg (show ¬ (1 : Int32) = 0 by decide), suits_eq p (a.cong (fun p h => hq.1 p (by omega) (by omega))) (fun i hi => (hq.2 i hi).2) hj ht]
      · exact absurd w q2
    · rcases rule_eq r with ⟨t, ht, rfl, -, w⟩ | ⟨w, -⟩
      · rw [w] at q2; exact absurd q2 (by decide)
      · rw [eN, if_neg q, if_pos w]
  refine ⟨if fX1_has V x = 0 then -1 else if fX2_has r = 0 then -1 else if fX2_suits G x r = 0 then 0 else 1, 0, 6, 4, _, _, by decide, by decide, by rw [kc_0 hg (Nat.zero_le _), ks_0 hg (Nat.zero_le _)]; exact hC, hM, fun v w' v2 w2 h1 h2 => ?_⟩
  obtain ⟨e1, e2⟩ := h1
  obtain ⟨e3, H', e4, e5⟩ := h2
  refine ⟨e1, e3, ad, G, V, n, H', U, e2, e4, rfl, ⟨?_, S.2.1.to rfl (e5 24 (by decide) (by decide)) (fun _ _ _ _ _ => rfl) (fun _ _ => rfl), hg⟩, (gw_id hg (Nat.zero_le _)).symm⟩
  exact ⟨nn, nf, bd, rk, p, a.cong (fun p h => e5 p (by omega) (by omega)), u0, u1, u2⟩
/-- what a rewrite leaves alone -/
theorem ap_keep (x : Int32) (r : Nat) (hr : r < 18) : apG G V x r 24 = G 24 ∧ ∀ j, j ≠ 0 → j ≠ 1 → j ≠ 9 → apV G V x r j = V j := by
  have w24 : ∀ (G : Nat → Nat → Int32) (y k a b m v : Int32), fX1_write_G G y k a b m v 24 = G 24 := fun G y k a b m v => by
    unfold fX1_write_G
    rw [ug_other (by decide), ug_other (by decide), ug_other (by decide), ug_other (by decide), ug_other (by decide), ug_other (by decide), ug_other (by decide)]
  have a24 : ∀ (G : Nat → Nat → Int32) (V : Nat → Int32) (k a b : Int32), fX0_add_G G V k a b 24 = G 24 := fun G V k a b => by
    unfold fX0_add_G
    rw [ite_ap]
    split
    · rfl
    · rw [ug_other (by decide), ug_other (by decide), ug_other (by decide), ug_other (by decide), ug_other (by decide), ug_other (by decide)]
  refine ⟨?_, fun j h0 h1 h9 => ?_⟩
  · unfold apG ap1G ap3G ap4G ap7G ap12G apSG fX2_exchange_G fX2_skip_G fX2_workAbove_G fX2_addLike_G fX1_add_G
    simp only [ite_ap, w24, a24, fX1_add_G, fX2_addLike_G, ite_self]
  · unfold apV ap1V ap3V ap4V ap7V ap12V fX2_addLike_V fX2_workAbove_V fX1_add_V fX0_add_V
    simp only [ite_ap, pk_un h0, pk_un h1, pk_un h9, fX1_add_V, fX2_addLike_V, ite_self]
theorem rw_keep (x r : Int32) : fX6_rewrites_G H U x r 24 = H 24 ∧ ∀ j, j ≠ 0 → j ≠ 1 → j ≠ 2 → fX6_rewrites_V H U x r j = U j := by
  have p24 : ∀ (H : Nat → Nat → Int32) (y k a b m v : Int32), fX6_put_G H y k a b m v 24 = H 24 := fun H y k a b m v => by
    unfold fX6_put_G
    rw [ug_other (by decide), ug_other (by decide), ug_other (by decide), ug_other (by decide), ug_other (by decide)]
  have t24 : ∀ (H : Nat → Nat → Int32) (U : Nat → Int32) (y a b : Int32), fX6_tell_G H U y a b 24 = H 24 := fun H U y a b => by
    unfold fX6_tell_G
    simp only [ite_ap, ite_self, ug_other (show (24 : Nat) ≠ 4 by decide), ug_other (show (24 : Nat) ≠ 5 by decide), ug_other (show (24 : Nat) ≠ 6 by decide), ug_other (show (24 : Nat) ≠ 7 by decide), ug_other (show (24 : Nat) ≠ 8 by decide), ug_other (show (24 : Nat) ≠ 9 by decide)]
  refine ⟨?_, fun j h0 h1 h2 => ?_⟩
  · unfold fX6_rewrites_G
    simp only [ite_ap, fX6_lay_G, p24, t24, ite_self]
  · have tv : ∀ (H : Nat → Nat → Int32) (U : Nat → Int32) (y a b : Int32), fX6_tell_V H U y a b j = U j := fun H U y a b => by
      unfold fX6_tell_V
      simp only [ite_ap, ite_self, pk_un h0]
    unfold fX6_rewrites_V
    simp only [ite_ap, fX6_lay_V, pk_un h1, pk_un h2, tv, ite_self]
set_option maxHeartbeats 800000 in
theorem b_rewrite (S : SIM G V n H U) (x r : Int32) : BTH l k ad am G V n H U yX5_rewrite cX5_rewrite 3 yX6_rewrite cX6_rewrite 3 [.int x, .int r] := by
  obtain ⟨nn, nf, bd, rk, p, a, u0, u1, u2⟩ := S.1
  have hnn := p.1
  have v1 := p.2.2.2.1
  have eN := hasN_eq (by omega) v1 u1 x
  have hg := S.2.2
  obtain ⟨go, hgo⟩ : ∃ go : Prop, go = (¬ fX1_has V x = 0 ∧ ¬ fX2_has r = 0 ∧ ¬ fX2_suits G x r = 0 ∧ ¬ fX2_hasRoom G V x r = 0) := ⟨_, rfl⟩
  obtain ⟨A0, hA0⟩ : ∃ A0 : Int32, A0 = (if fX1_has V x = 0 then -1 else if fX2_has r = 0 then -1 else if fX2_suits G x r = 0 then -3 else -2) := ⟨_, rfl⟩
  have nd : ∀ q : ¬ fX1_has V x = 0, ∃ j : Nat, j < nn ∧ x = nI j := fun q => has_nat (by omega) v1 q
  have ru : ¬ fX2_has r = 0 → ∃ j : Nat, j < 18 ∧ r = nI j := fun q => by
    rcases rule_eq r with ⟨j, hj, e, -, -⟩ | ⟨w, -⟩
    · exact ⟨j, hj, e⟩
    · exact absurd w q
  have h7 : ¬ fX1_has V x = 0 → ¬ fX2_suits G x r = 0 → (r = 7 → vp_in (G 14 (ix x)) 60 ∧ vp_in (G 17 (ix (G 14 (ix x)))) 40 ∧ vp_in (G 17 (ix x)) 40) := fun q qs e => by
    obtain ⟨j, hj, rfl⟩ := nd q
    obtain ⟨c1, c2, c3, c4⟩ := p.cst hj r
    obtain ⟨hk, hc⟩ := suits_kinds qs
    have r18 : vp_in r 18 := by rw [e]; unfold vp_in; decide
    have := c3 r18 hk hc (by rw [e]; decide)
    exact ⟨c2 hk r18, this.2.2.2 e, this.1⟩
  have hC : CT l k yX5_rewrite cX5_rewrite 3 (some .int) 7 [.ref (ad 0), .int x, .int r] (WC k ad G V n) (fun v w' => (go ∧ v = some (.int ((apV G V x (ix r)) 1)) ∧ w' = WC k ad (apG G V x (ix r)) (apV G V x (ix r)) n) ∨ (¬ go ∧ v = some (.int A0) ∧ w' = WC k ad G V n)) 0 0 := by
    refine ct_of (own := RX5) (lv0 := [(0, .ref (ad 0)), (1, .int x), (2, .int r)]) (by decide) rfl (Nat.le_of_ble_eq_true rfl) rfl ?_
    rintro z rfl rfl hz - E T
    refine qw_a E T hz (Nat.le_refl 7) x r (fun q _ => ?_) (fun _ q => ?_) (fun q q2 => ?_) (fun q q2 => ?_) (fun q q2 => ?_) (fun q _ _ => ?_) (fun _ q _ => ?_) (fun q _ qs => h7 q qs) (fun q => Or.inr ⟨?_, by rw [hA0, if_pos q], rfl⟩) (fun q q2 q3 q4 => ?_) (fun q q2 q3 q4 => Or.inr ⟨?_, by rw [hA0, if_neg q, if_neg q2, if_neg q3], rfl⟩) (fun q q2 q3 => Or.inr ⟨?_, by rw [hA0, if_neg q, if_neg q2, if_pos q3], rfl⟩) (fun q q2 => Or.inr ⟨?_, by rw [hA0, if_neg q, if_pos q2], rfl⟩)
    · obtain ⟨j, hj, rfl⟩ := nd q; exact (p.cst hj r).1
    · obtain ⟨t, ht, rfl⟩ := ru q; exact vp_in_nI ht (by decide)
    · obtain ⟨j, hj, rfl⟩ := nd q; obtain ⟨t, ht, rfl⟩ := ru q2; exact fun w => (p.cst hj _).2.1 w (vp_in_nI ht (by decide))
    · obtain ⟨j, hj, rfl⟩ := nd q; obtain ⟨t, ht, rfl⟩ := ru q2; exact (p.cst hj _).2.2.1 (vp_in_nI ht (by decide))
    · obtain ⟨j, hj, rfl⟩ := nd q; obtain ⟨t, ht, rfl⟩ := ru q2; exact (p.cst hj _).2.2.2 (vp_in_nI ht (by decide))
    · obtain ⟨j, hj, rfl⟩ := nd q; exact (p.cst hj r).1
    · obtain ⟨t, ht, rfl⟩ := ru q; exact vp_in_nI ht (by decide)
    · rw [hgo]; exact fun w => w.1 q
    · obtain ⟨j, hj, rfl⟩ := nd q
      obtain ⟨t, ht, rfl⟩ := ru q2
      refine rVv E cvX5_150 T.rr 27 wc_27 rfl [.int (nI j), .int (nI t)] (c_apply (l := zl z) (k := zk z) (ad := ad) (n := n) p hj ht q3 q4) (by decide) rfl rfl (Nat.le_of_ble_eq_true rfl) ⟨Nat.le_refl _, Nat.le_refl _⟩ dX5_rewrite_60 rfl ?_
      rw [ix_nI (show t < 2 ^ 31 by omega)] at T
      refine qw_b E T hz (nI j) (nI t) (Or.inl ⟨?_, rfl, rfl⟩)
      rw [hgo]; exact ⟨q, q2, q3, q4⟩
    · rw [hgo]; exact fun w => w.2.2.2 q4
    · rw [hgo]; exact fun w => w.2.2.1 q3
    · rw [hgo]; exact fun w => w.2.1 q2
  have hM : CT l k yX6_rewrite cX6_rewrite 3 (some .int) 8 [.ref (am 0), .int x, .int r] (WM k am H U) (fun v w' => ∃ Ha : Nat → Nat → Int32, (∀ p, p ≠ 15 → p ≠ 16 → Ha p = H p) ∧ ((go ∧ v = some (.int ((fX6_rewrites_V Ha U x r) 1)) ∧ w' = WM k am (fX6_rewrites_G Ha U x r) (fX6_rewrites_V Ha U x r)) ∨ (¬ go ∧ v = some (.int A0) ∧ w' = WM k am Ha U))) 0 0 := by
    refine ct_of (own := RX6) (lv0 := [(0, .ref (am 0)), (1, .int x), (2, .int r)]) (by decide) rfl (Nat.le_of_ble_eq_true rfl) rfl ?_
    rintro z rfl rfl hz - E T
    have r18 : ¬ fX6_in r.toInt64 0 17 = 0 → ∃ j : Nat, j < 18 ∧ r = nI j ∧ ¬ fX2_has r = 0 := fun q => by
      rcases rule_eq r with ⟨j, hj, e, w, -⟩ | ⟨-, w⟩
      · exact ⟨j, hj, e, by rw [w]; decide⟩
      · exact absurd w q
    have eS : ∀ Ga : Nat → Nat → Int32, ((∀ p, p ≠ 15 → p ≠ 16 → Ga p = H p) ∧ ∀ i, i < nn → Ga 15 i = G 18 i ∧ Ga 16 i = G 19 i) → ¬ fX6_isNode U x = 0 → ∀ t : Nat, t < 18 → r = nI t → fX6_stands Ga x r = fX2_suits G x r := fun Ga hq q t ht e => by
      obtain ⟨j, hj, rfl⟩ := nd (by rw [eN]; exact q)
      rw [e]
      exact (suits_eq p (a.cong (fun p h => hq.1 p (by omega) (by omega))) (fun i hi => (hq.2 i hi).2) hj ht).symm
    have eR : ∀ Ga : Nat → Nat → Int32, ((∀ p, p ≠ 15 → p ≠ 16 → Ga p = H p) ∧ ∀ i, i < nn → Ga 15 i = G 18 i ∧ Ga 16 i = G 19 i) → ¬ fX6_isNode U x = 0 → ∀ t : Nat, t < 18 → r = nI t → ¬ fX2_suits G x r = 0 → fX2_hasRoom G V x r = fX6_hasRoom Ga U x r := fun Ga hq q t ht e qs => by
      obtain ⟨j, hj, rfl⟩ := nd (by rw [eN]; exact q)
      subst e
      exact room_eq p (a.cong (fun p h => hq.1 p (by omega) (by omega))) u0 u1 hj ht qs
    have fr : ∀ Ga : Nat → Nat → Int32, ((∀ p, p ≠ 15 → p ≠ 16 → Ga p = H p) ∧ ∀ i, i < nn → Ga 15 i = G 18 i ∧ Ga 16 i = G 19 i) → ¬ fX6_isNode U x = 0 → ¬ fX6_stands Ga x r = 0 → ¬ fX6_in r.toInt64 0 17 = 0 → ¬ fX2_suits G x r = 0 := fun Ga hq q qs q2 => by
      obtain ⟨t, ht, e, -⟩ := r18 q2
      rw [← eS Ga hq q t ht e]; exact qs
    have k7 : ∀ Ga : Nat → Nat → Int32, ((∀ p, p ≠ 15 → p ≠ 16 → Ga p = H p) ∧ ∀ i, i < nn → Ga 15 i = G 18 i ∧ Ga 16 i = G 19 i) → ∀ j : Nat, j < nn → r = 7 → ¬ fX6_stands Ga (nI j) r = 0 → Ga 10 (ix (nI j)) = 1 ∧ Ga 10 (ix (Ga 11 (ix (nI j)))) = 1 := fun Ga hq j hj e qs => std7 p (a.cong (fun p h => hq.1 p (by omega) (by omega))) (fun i hi => (hq.2 i hi).2) hj e qs
    refine pt_rewrite E T hz (Nat.le_refl 8) x r (fun G' => (∀ p, p ≠ 15 → p ≠ 16 → G' p = H p) ∧ ∀ i, i < nn → G' 15 i = G 18 i ∧ G' 16 i = G 19 i) (c_look (p.lk a) u1) (fun Ga hq q => ?_) (fun Ga hq q qs e => ?_) (fun Ga hq q qs qr => ?_) (fun q => ⟨H, fun _ _ _ => rfl, Or.inr ⟨?_, by rw [hA0, eN, if_pos q], rfl⟩⟩) (fun Ga hq G1 e1 q q2 q3 q4 => ⟨Ga, hq.1, Or.inl ⟨?_, rfl, by rw [e1]⟩⟩) (fun Ga hq q q2 q3 q4 => ⟨Ga, hq.1, Or.inr ⟨?_, ?_, rfl⟩⟩) (fun Ga hq q q2 q3 => ⟨Ga, hq.1, Or.inr ⟨?_, ?_, rfl⟩⟩) (fun q q2 => ⟨H, fun _ _ _ => rfl, Or.inr ⟨?_, ?_, rfl⟩⟩)
    · obtain ⟨j, hj, rfl⟩ := nd (by rw [eN]; exact q)
      exact p.hst (a.cong (fun p h => hq.1 p (by omega) (by omega))) hj
    · obtain ⟨j, hj, rfl⟩ := nd (by rw [eN]; exact q)
      exact (rw_asks p (a.cong (fun p h => hq.1 p (by omega) (by omega))) u0 u1 hj r qs (fun e => k7 Ga hq j hj e qs)).1 e
    · obtain ⟨j, hj, rfl⟩ := nd (by rw [eN]; exact q)
      exact (rw_asks p (a.cong (fun p h => hq.1 p (by omega) (by omega))) u0 u1 hj r qs (fun e => k7 Ga hq j hj e qs)).2 qr
    · rw [hgo]; exact fun w => w.1 (eN.trans q)
    · obtain ⟨t, ht, e, w⟩ := r18 q2
      rw [hgo, eN]
      have qs := fr Ga hq q q3 q2
      exact ⟨q, w, qs, by rw [eR Ga hq q t ht e qs]; exact q4⟩
    · obtain ⟨t, ht, e, w⟩ := r18 q2
      have qs := fr Ga hq q q3 q2
      rw [hgo]
      exact fun z => z.2.2.2 (by rw [eR Ga hq q t ht e qs]; exact q4)
    · obtain ⟨t, ht, e, w⟩ := r18 q2
      have qs := fr Ga hq q q3 q2
      rw [hA0, eN, if_neg q, if_neg w, if_neg qs]
    · obtain ⟨t, ht, e, w⟩ := r18 q2
      rw [eS Ga hq q t ht e] at q3
      rw [hgo]; exact fun z => z.2.2.1 q3
    · obtain ⟨t, ht, e, w⟩ := r18 q2
      rw [eS Ga hq q t ht e] at q3
      rw [hA0, eN, if_neg q, if_neg w, if_pos q3]
    · rcases rule_eq r with ⟨j, hj, e, -, w⟩ | ⟨w, -⟩
      · rw [w] at q2; exact absurd q2 (by decide)
      · rw [hgo]; exact fun z => z.2.1 w
    · rcases rule_eq r with ⟨j, hj, e, -, w⟩ | ⟨w, -⟩
      · rw [w] at q2; exact absurd q2 (by decide)
      · rw [hA0, eN, if_neg q, if_pos w]
  by_cases g : go
  · have g' := g
    rw [hgo] at g'
    obtain ⟨q, q2, q3, q4⟩ := g'
    obtain ⟨j, hj, rfl⟩ := nd q
    obtain ⟨t, ht, rfl⟩ := ru q2
    rw [ix_nI (by omega)] at hC
    refine ⟨(apV G V (nI j) t) 1, 0, 7, 8, _, _, by decide, by decide, by rw [kc_0 hg (Nat.zero_le _), ks_0 hg (Nat.zero_le _)]; exact hC, hM, fun v w' v2 w2 h1 h2 => ?_⟩
    obtain ⟨Ha, ha, h2⟩ := h2
    rcases h1 with ⟨-, e1, e2⟩ | ⟨w, -⟩
    · rcases h2 with ⟨-, e3, e4⟩ | ⟨w, -⟩
      · have S2 := rw_sim p (a.cong (fun p h => ha p (by omega) (by omega))) u0 u1 u2 hj ht q3 q4
        have k1 := ap_keep (G := G) (V := V) (nI j) t ht
        have k2 := rw_keep (H := Ha) (U := U) (nI j) (nI t)
        refine ⟨e1, e3.trans ?_, ad, _, _, n, _, _, e2, e4, rfl, ⟨S2, S.2.1.to k1.1 (k2.1.trans (ha 24 (by decide) (by decide))) (fun j a b c d => k1.2 j a b d) (fun j hj => k2.2 j (by omega) (by omega) (by omega)), hg⟩, (gw_id hg (Nat.zero_le _)).symm⟩
        obtain ⟨nn', nf', bd', rk', p', a', z0, z1, z2⟩ := S2
        rw [z1, p'.2.2.2.1]
      · exact absurd g w
    · exact absurd g w
  · refine ⟨A0, 0, 7, 8, _, _, by decide, by decide, by rw [kc_0 hg (Nat.zero_le _), ks_0 hg (Nat.zero_le _)]; exact hC, hM, fun v w' v2 w2 h1 h2 => ?_⟩
    obtain ⟨Ha, ha, h2⟩ := h2
    rcases h1 with ⟨w, -⟩ | ⟨-, e1, e2⟩
    · exact absurd w g
    · rcases h2 with ⟨w, -⟩ | ⟨-, e3, e4⟩
      · exact absurd w g
      · exact ⟨e1, e3, ad, G, V, n, Ha, U, e2, e4, rfl, ⟨⟨nn, nf, bd, rk, p, a.cong (fun p h => ha p (by omega) (by omega)), u0, u1, u2⟩, S.2.1.to rfl (ha 24 (by decide) (by decide)) (fun _ _ _ _ _ => rfl) (fun _ _ => rfl), hg⟩, (gw_id hg (Nat.zero_le _)).symm⟩
end TOP4
