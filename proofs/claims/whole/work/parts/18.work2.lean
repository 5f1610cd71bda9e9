/-- the stack machine's arrays below a height, and all other arrays, stay -/
def agS (h : Nat) (G G' : Nat → Nat → Int32) : Prop := (∀ p, p ≠ 17 → p ≠ 18 → p ≠ 19 → G' p = G p) ∧ ∀ i, i < h → G' 17 i = G 17 i ∧ G' 18 i = G 18 i ∧ G' 19 i = G 19 i
theorem agS.rf {h : Nat} {G : Nat → Nat → Int32} : agS h G G := ⟨fun _ _ _ _ => rfl, fun _ _ => ⟨rfl, rfl, rfl⟩⟩
theorem agS.tr {h h' : Nat} {G G' G'' : Nat → Nat → Int32} (a : agS h G G') (b : agS h' G' G'') (hh : h ≤ h') : agS h G G'' :=
  ⟨fun p x y q => (b.1 p x y q).trans (a.1 p x y q), fun i hi => ⟨(b.2 i (by omega)).1.trans (a.2 i hi).1, (b.2 i (by omega)).2.1.trans (a.2 i hi).2.1, (b.2 i (by omega)).2.2.trans (a.2 i hi).2.2⟩⟩
theorem agS.put {h i p : Nat} {G : Nat → Nat → Int32} {x : Int32} (hp : p = 17 ∨ p = 18 ∨ p = 19) (hi : h ≤ i) : agS h G (ug G p i x) := by
  refine ⟨fun q h1 h2 h3 => ?_, fun j hj => ⟨?_, ?_, ?_⟩⟩
  · unfold ug va_up; rw [if_neg]; rintro rfl; rcases hp with h | h | h <;> contradiction
  all_goals (rw [ug_if, if_neg]; rintro ⟨-, rfl⟩; omega)
def rsS (V V' : Nat → Int32) (e : Int32 × Int32 × Int32) (h : Nat) (c : Int32) : Prop := V' 5 = e.2.1 ∧ V' 6 = c + e.2.2 ∧ (e.2.1 = 0 → V' 3 = nI h ∧ V' 4 = e.1) ∧ ∀ j, j ≠ 3 → j ≠ 4 → j ≠ 5 → j ≠ 6 → V' j = V j
theorem rsS.gives {V0 V : Nat → Int32} {h : Nat} {c n x : Int32} (h3 : V 3 = nI (h + 1)) (h5 : V 5 = 0) (h6 : V 6 = c + n) (ho : ∀ j, j ≠ 3 → j ≠ 4 → j ≠ 5 → j ≠ 6 → V j = V0 j) : rsS V0 (fX6_gives_V V x) (x, 0, n) h c := by
  unfold fX6_gives_V
  refine ⟨h5, h6, fun _ => ⟨?_, rfl⟩, fun j a b c d => ?_⟩
  · show V 3 - 1 = nI h
    rw [h3]; exact nI_pred h
  · simp only [upd, if_neg a, if_neg b]; exact ho j a b c d
theorem rsS.fails {V0 V : Nat → Int32} {h : Nat} {c n x y : Int32} (hx : ¬ x = 0) (h6 : V 6 = c + n) (ho : ∀ j, j ≠ 3 → j ≠ 4 → j ≠ 5 → j ≠ 6 → V j = V0 j) : rsS V0 (upd V 5 x) (y, x, n) h c :=
  ⟨rfl, h6, fun e => absurd e hx, fun j a b c d => by simp only [upd, if_neg c]; exact ho j a b c d⟩
theorem asks_spec {G : Nat → Nat → Int32} {V : Nat → Int32} {h : Nat} {f : Int32} (hh : h + 1 < 2 ^ 31) (h3 : V 3 = nI (h + 1)) : (fX6_asks_V G V f) 3 = nI (h + 2) ∧ (fX6_asks_V G V f) 6 = V 6 + 1 ∧ (∀ j, j ≠ 3 → j ≠ 6 → (fX6_asks_V G V f) j = V j) ∧ agS h G (fX6_asks_G G V f) ∧ (fX6_asks_G G V f) 17 (h + 1) = f ∧ (fX6_asks_G G V f) 18 (h + 1) = 0 ∧ (fX6_asks_G G V f) 17 h = G 17 h ∧ (fX6_asks_G G V f) 18 h = G 18 h + 1 ∧ (fX6_asks_G G V f) 19 h = G 19 h := by
  have e1 : ix (V 3 - 1) = h := by rw [h3, nI_pred]; exact ix_nI (by omega)
  have e2 : ix (V 3) = h + 1 := by rw [h3]; exact ix_nI hh
  have eG : fX6_asks_G G V f = ug (ug (ug G 18 h (G 18 h + 1)) 17 (h + 1) f) 18 (h + 1) 0 := by
    unfold fX6_asks_G fX6_begins_G; rw [e1, e2]
  have eV : fX6_asks_V G V f = upd (upd V 3 (V 3 + 1)) 6 (V 6 + 1) := rfl
  rw [eG, eV]
  refine ⟨?_, rfl, fun j a b => ?_, ?_, ?_, ?_, ?_, ?_, ?_⟩
  · show V 3 + 1 = nI (h + 2)
    rw [h3]; exact nI_1 (h + 1)
  · simp only [upd, if_neg a, if_neg b]
  · exact ((agS.put (by omega) (Nat.le_refl h)).tr (agS.put (by omega) (Nat.le_succ h)) (Nat.le_refl h)).tr (agS.put (by omega) (Nat.le_succ h)) (Nat.le_refl h)
  · rw [ug_p (by decide), ug_same]
  · rw [ug_same]
  · rw [ug_p (by decide), ug_i (by omega), ug_p (by decide)]
  · rw [ug_i (by omega), ug_p (by decide), ug_same]
  · rw [ug_p (by decide), ug_p (by decide), ug_p (by decide)]
set_option maxHeartbeats 1600000 in
/-- from a formula just begun on the stack machine: it comes to its value, or its failure -/
theorem vis_work {z : Zt} (E : EN z cX6_work RX6) {w0 : va_W} {P : Option Value → va_W → Prop} {lvl : Nat} (T : RT z none lvl w0 P 0 0) (hz : zn z = 3) {ad : Nat → Nat} (hlv : 3 ≤ lvl) (f0 at9 : Int32) {FK F1 F2 IT C : Nat → Int32} {nf r : Nat} (hnf : nf ≤ 40) (hW : FW FK F1 F2 nf) (hr : at9 = nI r) (hrn : r + 6 ≤ 36000) :
    ∀ (d : Nat) (G : Nat → Nat → Int32) (V : Nat → Int32) (f : Int32) (j h : Nat) (c : Int32), G 4 = FK → G 5 = F1 → G 6 = F2 → G 3 = IT → G 20 = C → f = nI j → j < nf → j < d → h + 1 + j ≤ 40 → V 3 = nI (h + 1) → V 5 = 0 → V 6 = c + 1 → G 17 h = f → G 18 h = 0 →
      (∀ (G' : Nat → Nat → Int32) (V' : Nat → Int32), agS h G G' → rsS V V' (evS FK F1 F2 IT (fun m => C (r + m)) d f) h c → WW z 0 0 (WM (zk z) ad G' V') 10 [(0, .ref (ad 0)), (1, .int f0), (2, .int at9)] []) →
      WW z 0 0 (WM (zk z) ad G V) 10 [(0, .ref (ad 0)), (1, .int f0), (2, .int at9)] [] := by
  intro d
  induction d with
  | zero => intro G V f j h c _ _ _ _ _ _ _ hh; exact absurd hh (Nat.not_lt_zero _)
  | succ d ih =>
    intro G V f j h c g4 g5 g6 g3 g20 hf hj hjd hhj h3 h5 h6 h17 h18 k
    have e1 : ix (V 3 - 1) = h := by rw [h3, nI_pred]; exact ix_nI (by omega)
    have e1' : V 3 - 1 = nI h := by rw [h3, nI_pred]
    have eF : G 17 (ix (V 3 - 1)) = f := by rw [e1]; exact h17
    have hij : ix f = j := by rw [hf]; exact ix_nI (by omega)
    obtain ⟨kd, hk1, hk2, hk3, hk4, hk5⟩ := hW j hj
    have eK : G 4 (ix (G 17 (ix (V 3 - 1)))) = FK (ix f) := by rw [eF, g4]
    have eKn : FK (ix f) = nI kd := by rw [hij]; exact hk2
    have n3 : ¬ V 3 ≤ 0 := by rw [h3]; exact nI_nle (by omega) (by omega)
    have ht : vp_in (V 3 - 1) 40 := by rw [e1']; exact vp_in_nI (by omega) (by omega)
    have hff : vp_in (G 17 (ix (V 3 - 1))) 40 := by rw [eF, hf]; exact vp_in_nI (by omega) (by omega)
    have hk0 : ¬ FK (ix f) = 0 → ¬ FK (ix f) = 1 → 2 ≤ kd := by
      intro a b
      rcases Nat.lt_or_ge kd 2 with q | q
      · rcases (show kd = 0 ∨ kd = 1 by omega) with rfl | rfl
        · exact absurd eKn a
        · exact absurd eKn b
      · exact q
    have hz0 : FK (ix f) = 0 → kd = 0 := by
      intro e
      rcases Nat.eq_zero_or_pos kd with q | q
      · exact q
      · exact absurd (eKn.symm.trans e) (nI_ne0 q (by omega))
    have hc : G 4 (ix (G 17 (ix (V 3 - 1)))) = 0 → vp_in (at9 + G 5 (ix (G 17 (ix (V 3 - 1))))) 36000 := by
      intro e
      obtain ⟨m, hm1, hm2⟩ := hk3 (hz0 (eK.symm.trans e))
      rw [eF, g5, hij, hm2, hr, nI_add]
      exact vp_in_nI (by omega) (by omega)
    have hh : ¬ G 4 (ix (G 17 (ix (V 3 - 1)))) = 0 → ¬ G 4 (ix (G 17 (ix (V 3 - 1)))) = 1 → vp_in (V 3) 40 := by
      intro a b
      rw [eK] at a b
      obtain ⟨x, hx1, -⟩ := hk4 (hk0 a b)
      rw [h3]; exact vp_in_nI (by omega) (by omega)
    refine s_work E T hz hlv f0 at9 n3 h5 ht hff hc hh ?_
    by_cases c0 : FK (ix f) = 0
    · obtain ⟨eG, eV⟩ := go0 (at9 := at9) (eK.trans c0)
      rw [eG, eV, eF]
      refine k G _ agS.rf ?_
      obtain ⟨m, hm1, hm2⟩ := hk3 (hz0 c0)
      have ee : evS FK F1 F2 IT (fun m => C (r + m)) (d + 1) f = (G 20 (ix (at9 + G 5 (ix f))), 0, 1) := by
        show (if FK (ix f) = 0 then _ else _ : Int32 × Int32 × Int32) = _
        rw [if_pos c0, g5, g20, hij, hm2, hr, nI_add, ix_nI (by omega), ix_nI (by omega)]
      rw [ee]
      exact rsS.gives h3 h5 h6 (fun _ _ _ _ _ => rfl)
    · by_cases c1 : FK (ix f) = 1
      · obtain ⟨eG, eV⟩ := go1 (at9 := at9) (fun e => c0 (eK.symm.trans e)) (eK.trans c1)
        rw [eG, eV, eF]
        refine k G _ agS.rf ?_
        have ee : evS FK F1 F2 IT (fun m => C (r + m)) (d + 1) f = (G 5 (ix f), 0, 1) := by
          show (if FK (ix f) = 0 then _ else if FK (ix f) = 1 then _ else _ : Int32 × Int32 × Int32) = _
          rw [if_neg c0, if_pos c1, g5]
        rw [ee]
        exact rsS.gives h3 h5 h6 (fun _ _ _ _ _ => rfl)
      · have h2 := hk0 c0 c1
        obtain ⟨x, hx1, hx2⟩ := hk4 h2
        generalize hp : evS FK F1 F2 IT (fun m => C (r + m)) d (F1 (ix f)) = p at *
        generalize hq : evS FK F1 F2 IT (fun m => C (r + m)) d (F2 (ix f)) = q at *
        have ee : evS FK F1 F2 IT (fun m => C (r + m)) (d + 1) f = ((evR IT (FK (ix f)) p q).1, (evR IT (FK (ix f)) p q).2.1, 1 + (evR IT (FK (ix f)) p q).2.2) := by
          show (if FK (ix f) = 0 then _ else if FK (ix f) = 1 then _ else _ : Int32 × Int32 × Int32) = _
          rw [if_neg c0, if_neg c1, hp, hq]
        rw [ee] at k
        obtain ⟨eG, eV⟩ := goA (at9 := at9) (fun e => c0 (eK.symm.trans e)) (fun e => c1 (eK.symm.trans e)) (by rw [e1]; exact h18)
        rw [eG, eV, eF]
        obtain ⟨a1, a2, a3, a4, a5, a6, a7, a8, a9⟩ := asks_spec (G := G) (V := V) (h := h) (f := G 5 (ix f)) (by omega) h3
        refine ih _ _ (G 5 (ix f)) x (h + 1) (c + 1) ((a4.1 4 (by decide) (by decide) (by decide)).trans g4) ((a4.1 5 (by decide) (by decide) (by decide)).trans g5) ((a4.1 6 (by decide) (by decide) (by decide)).trans g6) ((a4.1 3 (by decide) (by decide) (by decide)).trans g3) ((a4.1 20 (by decide) (by decide) (by decide)).trans g20) (by rw [g5, hij]; exact hx2) (by omega) (by omega) (by omega) a1 ((a3 5 (by decide) (by decide)).trans h5) (by rw [a2, h6]) a5 a6 ?_
        intro G2 V2 b1 b2
        rw [g5, hp] at b2
        have B1 : agS h G G2 := a4.tr b1 (Nat.le_succ h)
        have bo : ∀ j, j ≠ 3 → j ≠ 4 → j ≠ 5 → j ≠ 6 → V2 j = V j := fun j p q r s => (b2.2.2.2 j p q r s).trans (a3 j p s)
        have b6 : V2 6 = c + (1 + p.2.2) := by rw [b2.2.1, Int32.add_assoc]
        by_cases hp0 : p.2.1 = 0
        · obtain ⟨v3, v4⟩ := b2.2.2.1 hp0
          have v5 : V2 5 = 0 := b2.1.trans hp0
          have u1 : ix (V2 3 - 1) = h := by rw [v3, nI_pred]; exact ix_nI (by omega)
          have u1' : V2 3 - 1 = nI h := by rw [v3, nI_pred]
          have u17 : G2 17 h = f := ((b1.2 h (by omega)).1.trans a7).trans h17
          have u18 : G2 18 h = 1 := by rw [(b1.2 h (by omega)).2.1, a8, h18]; rfl
          have uF : G2 17 (ix (V2 3 - 1)) = f := by rw [u1]; exact u17
          have q4 : G2 4 = FK := (B1.1 4 (by decide) (by decide) (by decide)).trans g4
          have q5 : G2 5 = F1 := (B1.1 5 (by decide) (by decide) (by decide)).trans g5
          have q6 : G2 6 = F2 := (B1.1 6 (by decide) (by decide) (by decide)).trans g6
          have q3 : G2 3 = IT := (B1.1 3 (by decide) (by decide) (by decide)).trans g3
          have q20 : G2 20 = C := (B1.1 20 (by decide) (by decide) (by decide)).trans g20
          have uK : G2 4 (ix (G2 17 (ix (V2 3 - 1)))) = FK (ix f) := by rw [uF, q4]
          have ub0 : ¬ G2 4 (ix (G2 17 (ix (V2 3 - 1)))) = 0 := fun e => c0 (uK.symm.trans e)
          have ub1 : ¬ G2 4 (ix (G2 17 (ix (V2 3 - 1)))) = 1 := fun e => c1 (uK.symm.trans e)
          have up0 : ¬ G2 18 (ix (V2 3 - 1)) = 0 := by rw [u1, u18]; decide
          have up1 : G2 18 (ix (V2 3 - 1)) = 1 := by rw [u1]; exact u18
          refine s_work E T hz hlv f0 at9 (by rw [v3]; exact nI_nle (by omega) (by omega)) v5 (by rw [u1']; exact vp_in_nI (by omega) (by omega)) (by rw [uF, hf]; exact vp_in_nI (by omega) (by omega)) (fun e => absurd e ub0) (fun _ _ => by rw [v3]; exact vp_in_nI (by omega) (by omega)) ?_
          by_cases h2t : fX6_hasTwo (FK (ix f)) = 0
          · obtain ⟨eG, eV⟩ := goS (at9 := at9) ub0 ub1 up0 (by rw [uK]; exact h2t)
            rw [eG, eV, uK, single_V, v4, q3]
            by_cases k11 : FK (ix f) = 11
            · rw [if_pos k11]
              refine k G2 _ B1 ?_
              have k6 : ¬ FK (ix f) = 6 := by rw [k11]; decide
              have er : evR IT (FK (ix f)) p q = ((if p.1 = 0 then 1 else 0), 0, p.2.2) := by
                unfold evR; rw [if_pos hp0, if_neg k6, if_pos k11]
              rw [er]
              exact rsS.gives v3 v5 b6 bo
            · rw [if_neg k11]
              have k6 : FK (ix f) = 6 := by
                unfold fX6_hasTwo at h2t
                by_cases w1 : FK (ix f) ≤ 1
                · rw [eKn, show (1 : Int32) = nI 1 from rfl, nI_leI (by omega) (by omega)] at w1
                  omega
                · rw [if_neg w1] at h2t
                  by_cases w6 : FK (ix f) = 6
                  · exact w6
                  · rw [if_neg w6, if_neg k11] at h2t
                    exact absurd h2t (by decide)
              by_cases hi : fX4_hasItem p.1 = 0
              · rw [if_pos hi]
                refine k G2 _ B1 ?_
                have er : evR IT (FK (ix f)) p q = (0, 2, p.2.2) := by
                  unfold evR; rw [if_pos hp0, if_pos k6, if_pos hi]
                rw [er]
                exact rsS.fails (by decide) b6 bo
              · rw [if_neg hi]
                refine k G2 _ B1 ?_
                have er : evR IT (FK (ix f)) p q = (IT (ix p.1), 0, p.2.2) := by
                  unfold evR; rw [if_pos hp0, if_pos k6, if_neg hi]
                rw [er]
                exact rsS.gives v3 v5 b6 bo
          · have w6 : ¬ FK (ix f) = 6 := by
              intro e; exact h2t (by rw [e]; decide)
            have w11 : ¬ FK (ix f) = 11 := by
              intro e; exact h2t (by rw [e]; decide)
            obtain ⟨y, hy1, hy2⟩ := hk5 h2 (fun e => w6 (by rw [eKn, e]; rfl)) (fun e => w11 (by rw [eKn, e]; rfl))
            by_cases hs : FK (ix f) = 9 ∧ p.1 = 0 ∨ FK (ix f) = 10 ∧ ¬ p.1 = 0
            · obtain ⟨eG, eV⟩ := goL (at9 := at9) ub0 ub1 up0 (by rw [uK]; exact h2t) up1 (by rw [uK, v4]; exact hs)
              rw [eG, eV, uK]
              refine k _ _ (B1.tr (agS.put (by omega) (by rw [u1]; exact Nat.le_refl h)) (Nat.le_refl h)) ?_
              rcases hs with ⟨k9, hp1⟩ | ⟨k10, hp1⟩
              · have er : evR IT (FK (ix f)) p q = (0, 0, p.2.2) := by
                  unfold evR; rw [if_pos hp0, if_neg w6, if_neg w11, if_pos ⟨k9, hp1⟩]
                rw [er, if_pos k9]
                exact rsS.gives v3 v5 b6 bo
              · have k9 : ¬ FK (ix f) = 9 := by rw [k10]; decide
                have er : evR IT (FK (ix f)) p q = (1, 0, p.2.2) := by
                  unfold evR
                  rw [if_pos hp0, if_neg w6, if_neg w11, if_neg (show ¬ (FK (ix f) = 9 ∧ p.1 = 0) from fun h => hp1 h.2), if_pos (show FK (ix f) = 10 ∧ ¬ p.1 = 0 from ⟨k10, hp1⟩)]
                rw [er, if_neg k9]
                exact rsS.gives v3 v5 b6 bo
            · obtain ⟨eG, eV⟩ := goB (at9 := at9) ub0 ub1 up0 (by rw [uK]; exact h2t) up1 (by rw [uK, v4]; exact hs)
              rw [eG, eV, uF, u1, v4]
              have eR0 : evR IT (FK (ix f)) p q = if q.2.1 = 0 then (evV (FK (ix f)) p.1 q.1, (if FK (ix f) = 5 ∧ q.1 = 0 then 1 else 0), p.2.2 + q.2.2) else (0, q.2.1, p.2.2 + q.2.2) := by
                unfold evR
                rw [if_pos hp0, if_neg w6, if_neg w11, if_neg (show ¬ (FK (ix f) = 9 ∧ p.1 = 0) from fun h => hs (Or.inl h)), if_neg (show ¬ (FK (ix f) = 10 ∧ ¬ p.1 = 0) from fun h => hs (Or.inr h))]
              have eb : (ug G2 19 h p.1) 6 (ix f) = F2 (ix f) := by rw [ug_p (by decide), q6]
              rw [eb]
              obtain ⟨a1, a2, a3, a4', a5, a6, a7, a8, a9⟩ := asks_spec (G := ug G2 19 h p.1) (V := V2) (h := h) (f := F2 (ix f)) (by omega) v3
              have A4 : agS h G2 (fX6_asks_G (ug G2 19 h p.1) V2 (F2 (ix f))) := (agS.put (by omega) (Nat.le_refl h)).tr a4' (Nat.le_refl h)
              refine ih _ _ (F2 (ix f)) y (h + 1) (c + (1 + p.2.2)) ((A4.1 4 (by decide) (by decide) (by decide)).trans q4) ((A4.1 5 (by decide) (by decide) (by decide)).trans q5) ((A4.1 6 (by decide) (by decide) (by decide)).trans q6) ((A4.1 3 (by decide) (by decide) (by decide)).trans q3) ((A4.1 20 (by decide) (by decide) (by decide)).trans q20) (by rw [hij]; exact hy2) (by omega) (by omega) (by omega) a1 ((a3 5 (by decide) (by decide)).trans v5) (by rw [a2, b6]) a5 a6 ?_
              intro G3 V3 d1 d2
              rw [hq] at d2
              have D1 : agS h G G3 := (B1.tr A4 (Nat.le_refl h)).tr d1 (Nat.le_succ h)
              have bo3 : ∀ j, j ≠ 3 → j ≠ 4 → j ≠ 5 → j ≠ 6 → V3 j = V j := fun j p q r s => ((d2.2.2.2 j p q r s).trans (a3 j p s)).trans (bo j p q r s)
              have d6 : V3 6 = c + (1 + (p.2.2 + q.2.2)) := by rw [d2.2.1, Int32.add_assoc, Int32.add_assoc]
              by_cases hq0 : q.2.1 = 0
              · obtain ⟨t3, t4⟩ := d2.2.2.1 hq0
                have t5 : V3 5 = 0 := d2.1.trans hq0
                have s1 : ix (V3 3 - 1) = h := by rw [t3, nI_pred]; exact ix_nI (by omega)
                have s1' : V3 3 - 1 = nI h := by rw [t3, nI_pred]
                have s17 : G3 17 h = f := by rw [(d1.2 h (by omega)).1, a7, ug_p (by decide)]; exact u17
                have s18 : G3 18 h = 2 := by rw [(d1.2 h (by omega)).2.1, a8, ug_p (by decide), u18]; rfl
                have s19 : G3 19 h = p.1 := by rw [(d1.2 h (by omega)).2.2, a9, ug_same]
                have sF : G3 17 (ix (V3 3 - 1)) = f := by rw [s1]; exact s17
                have r4 : G3 4 = FK := (D1.1 4 (by decide) (by decide) (by decide)).trans g4
                have sK : G3 4 (ix (G3 17 (ix (V3 3 - 1)))) = FK (ix f) := by rw [sF, r4]
                have sb0 : ¬ G3 4 (ix (G3 17 (ix (V3 3 - 1)))) = 0 := fun e => c0 (sK.symm.trans e)
                refine s_work E T hz hlv f0 at9 (by rw [t3]; exact nI_nle (by omega) (by omega)) t5 (by rw [s1']; exact vp_in_nI (by omega) (by omega)) (by rw [sF, hf]; exact vp_in_nI (by omega) (by omega)) (fun e => absurd e sb0) (fun _ _ => by rw [t3]; exact vp_in_nI (by omega) (by omega)) ?_
                obtain ⟨eG, eV⟩ := go2 (at9 := at9) sb0 (fun e => c1 (sK.symm.trans e)) (by rw [s1, s18]; decide) (by rw [sK]; exact h2t) (by rw [s1, s18]; decide)
                rw [eG, eV, sK, s1, s19, t4, both_V]
                rw [if_pos hq0] at eR0
                by_cases h50 : FK (ix f) = 5 ∧ q.1 = 0
                · rw [if_pos h50]
                  refine k G3 _ D1 ?_
                  rw [eR0, if_pos h50]
                  exact rsS.fails (by decide) d6 bo3
                · rw [if_neg h50]
                  refine k G3 _ D1 ?_
                  rw [eR0, if_neg h50]
                  exact rsS.gives t3 t5 d6 bo3
              · refine k G3 V3 D1 ?_
                rw [if_neg hq0] at eR0
                rw [eR0]
                exact ⟨d2.1, d6, fun e => absurd e hq0, bo3⟩
        · refine k G2 V2 B1 ?_
          have er : evR IT (FK (ix f)) p q = (0, p.2.1, p.2.2) := by unfold evR; rw [if_neg hp0]
          rw [er]
          exact ⟨b2.1, b6, fun e => absurd e hp0, bo⟩
