/-! ROWS are added: the class's cells -/
def aeP (ad : Nat → Nat) (G : Nat → Nat → Int32) (u : Nat) (R : Nat → Int32) (ad' : Nat → Nat) (G' : Nat → Nat → Int32) : Prop :=
  (∀ p, p ≠ 24 → ad' p = ad p) ∧ (∀ p, p ≠ 24 → G' p = G p) ∧ (∀ j, j < u → G' 24 j = G 24 j) ∧ ∀ m, m < 6 → G' 24 (u + m) = R m
def aeQ (k : Kt) (ad : Nat → Nat) (G : Nat → Nat → Int32) (V : Nat → Int32) (n u : Nat) (R : Nat → Int32) : Option Value → va_W → Prop :=
  fun v w' => v = some (.int (nI u)) ∧ ∃ (ad' : Nat → Nat) (G' : Nat → Nat → Int32), w' = WC k ad' G' (upd V 2 (nI (u + 6))) (gw n (u + 6)) ∧ aeP ad G u R ad' G'
theorem six_zero {G G1 G2 G3 G4 G5 G6 : Nat → Nat → Int32} {t y0 y1 y2 y3 y4 y5 : Int32} {q p : Nat} (hq : t = nI q) (hq6 : q + 6 ≤ 36000) (e1 : G1 = ug G p (ix (t + 0)) y0) (e2 : G2 = ug G1 p (ix (t + 1)) y1) (e3 : G3 = ug G2 p (ix (t + 2)) y2) (e4 : G4 = ug G3 p (ix (t + 3)) y3) (e5 : G5 = ug G4 p (ix (t + 4)) y4) (e6 : G6 = ug G5 p (ix (t + 5)) y5) :
    (∀ p', p' ≠ p → G6 p' = G p') ∧ (∀ j, j < q ∨ q + 6 ≤ j → G6 p j = G p j) ∧ G6 p q = y0 ∧ G6 p (q + 1) = y1 ∧ G6 p (q + 2) = y2 ∧ G6 p (q + 3) = y3 ∧ G6 p (q + 4) = y4 ∧ G6 p (q + 5) = y5 := by
  have A : ∀ mm : Nat, mm < 6 → ix (t + nI mm) = q + mm := fun mm h => by rw [hq]; exact nIadd (by omega)
  rw [show ix (t + 0) = q + 0 from A 0 (by omega)] at e1
  rw [show ix (t + 1) = q + 1 from A 1 (by omega)] at e2
  rw [show ix (t + 2) = q + 2 from A 2 (by omega)] at e3
  rw [show ix (t + 3) = q + 3 from A 3 (by omega)] at e4
  rw [show ix (t + 4) = q + 4 from A 4 (by omega)] at e5
  rw [show ix (t + 5) = q + 5 from A 5 (by omega)] at e6
  refine ⟨fun p hp => ?_, fun j hj => ?_, ?_, ?_, ?_, ?_, ?_, ?_⟩
  · rw [e6, e5, e4, e3, e2, e1, ug_other hp, ug_other hp, ug_other hp, ug_other hp, ug_other hp, ug_other hp]
  · rw [e6, ug_i (by omega), e5, ug_i (by omega), e4, ug_i (by omega), e3, ug_i (by omega), e2, ug_i (by omega), e1, ug_i (by omega)]
  · rw [e6, ug_i (by omega), e5, ug_i (by omega), e4, ug_i (by omega), e3, ug_i (by omega), e2, ug_i (by omega), e1]; exact ug_same
  · rw [e6, ug_i (by omega), e5, ug_i (by omega), e4, ug_i (by omega), e3, ug_i (by omega), e2, ug_same]
  · rw [e6, ug_i (by omega), e5, ug_i (by omega), e4, ug_i (by omega), e3, ug_same]
  · rw [e6, ug_i (by omega), e5, ug_i (by omega), e4, ug_same]
  · rw [e6, ug_i (by omega), e5, ug_same]
  · rw [e6, ug_same]
theorem min2 {n : Nat} (h : n ≤ 36000) : (if (36000 : Int32) < 2 * nI n then 36000 else 2 * nI n : Int32) = nI (if 36000 < 2 * n then 36000 else 2 * n) := by
  rw [show (2 : Int32) = nI 2 from rfl, show (36000 : Int32) = nI 36000 from rfl, pk_mul]
  by_cases c : 36000 < 2 * n
  · rw [if_pos c, if_pos (nI_lt c (by omega))]
  · rw [if_neg c, if_neg (nI_nlt (by omega) (by omega))]
set_option maxRecDepth 100000 in
set_option maxHeartbeats 800000 in
theorem c_addEmpty {l : Launch} {k : Kt} {ad : Nat → Nat} {G : Nat → Nat → Int32} {V : Nat → Int32} {n u : Nat} (h2 : V 2 = nI u) (hu : u ≤ n) (hn : gch n) (h36 : u + 6 ≤ 36000) :
    CT l k yX3_addEmpty cX3_addEmpty 3 (some .int) 2 [.ref (ad 23)] (WC k ad G V n) (aeQ k ad G V n u (fun _ => 0)) (kc n (u + 6)) (ks n (u + 6)) := by
  refine ct_of (own := RX3) (lv0 := [(0, .ref (ad 23))]) (by decide) rfl (Nat.le_of_ble_eq_true rfl) rfl ?_
  rintro z rfl rfl hz - E T
  have hnb := gch_le hn
  -- the clearing of the row
  have clr : ∀ (ad9 : Nat → Nat) (G9 : Nat → Nat → Int32) (N c9 s9 : Nat), N = gw n (u + 6) → (∀ p, p ≠ 24 → ad9 p = ad p) → (∀ p, p ≠ 24 → G9 p = G p) → (∀ j, j < u → G9 24 j = G 24 j) → c9 ≤ kc n (u + 6) → s9 ≤ ks n (u + 6) → WW z c9 s9 (WC (zk z) ad9 G9 V N) 40 [(0, .ref (ad9 23)), (1, .int (V 2))] [] := by
    intro ad9 G9 N c9 s9 eN ha hg hj hc hs
    have hN : u + 6 ≤ N := by rw [eN]; exact gw_ge h36
    have hN2 : N ≤ 36000 := by rw [eN]; exact (gch_le (gw_ch hn)).2
    refine ae_b E T hz ⟨hc, hs⟩ (V 2) ⟨u, h2, hN, by omega⟩ (fun G1 G2 G3 G4 G5 G6 e1 e2 e3 e4 e5 e6 => ?_)
    obtain ⟨o1, o2, z0, z1, z2, z3, z4, z5⟩ := six_zero h2 h36 e1 e2 e3 e4 e5 e6
    refine ⟨by rw [h2], ad9, G6, ?_, ha, fun p hp => (o1 p hp).trans (hg p hp), fun j h => (o2 j (Or.inl h)).trans (hj j h), fun m hm => ?_⟩
    · rw [eN, h2, show (6 : Int32) = nI 6 from rfl, nI_add]
    · rcases (show m = 0 ∨ m = 1 ∨ m = 2 ∨ m = 3 ∨ m = 4 ∨ m = 5 by omega) with rfl | rfl | rfl | rfl | rfl | rfl
      · exact z0
      · exact z1
      · exact z2
      · exact z3
      · exact z4
      · exact z5
  have e6 : V 2 + 6 = nI (u + 6) := by rw [h2, show (6 : Int32) = nI 6 from rfl, nI_add]
  refine ae_a E T hz ⟨Nat.zero_le _, Nat.zero_le _⟩ (fun c => ?_) (fun c => ?_)
  · rw [e6, nI_leI (by omega) (by omega)] at c
    exact clr ad G n 0 0 (gw_id hn c).symm (fun _ _ => rfl) (fun _ _ => rfl) (fun _ _ => rfl) (Nat.zero_le _) (Nat.zero_le _)
  · rw [e6, nI_leI (by omega) (by omega)] at c
    obtain ⟨g1, g2⟩ := gw_up hn hu (by omega) h36
    have gN := (gch_le (gw_ch (u := u + 6) hn)).2
    have hc1 : 1 ≤ kc n (u + 6) := by unfold kc; omega
    have hs1 : gw n (u + 6) ≤ ks n (u + 6) := by
      have := gph_up hn (by omega)
      rw [← g1] at this
      exact this
    refine ae_g E T hz ⟨Nat.zero_le _, Nat.zero_le _⟩ (Nat.le_refl 2) (V 2) ?_
    refine r_v (y := nI (gw n (u + 6))) (by rw [g1]; exact min2 hnb.2) ?_
    refine rS E csX3_159 T.rr Fr.all [.ref (ad 24), .int (nI (gw n (u + 6)))] (c_copyOf24 g2 (by omega)) (by decide) rfl rfl (Nat.le_of_ble_eq_true rfl) ⟨by omega, by omega⟩ dX3_addEmpty_34 (fun v w' h => ?_)
    obtain ⟨b, rfl, rfl⟩ := h
    refine r_put E (q := 40) pX3_13 rfl 23 (a := ad 23) rfl rfl rfl (Nat.le_of_ble_eq_true rfl) rfl dX3_addEmpty_37 rfl ?_
    refine r_keep (w' := WC (zk z) (va_up ad 24 b) (va_up G 24 (va_cpy (G 24) (fun _ => 0) 0 0 n)) V (gw n (u + 6))) [0, 1, 2, 3, 4, 5, 6, 7, 8, 9, 10, 11, 12, 13, 14, 15, 16, 17, 18, 19, 20, 21, 22, 23, 28, 25, 26, 27] rfl rfl rfl ?_
    refine clr (va_up ad 24 b) _ (gw n (u + 6)) _ _ rfl (fun p hp => va_up_ne _ _ hp) (fun p hp => va_up_ne _ _ hp) (fun j hj => ?_) (by omega) (by omega)
    rw [va_up_self, pk_cpy_in (by omega) (by omega)]
    congr 1; omega
/-- a call of addEmpty -/
theorem r_ae {z : Zt} {cc : ByteArray} (E : EN z cc RX3) {d mx sx cells slots : Nat} (hR : RR z d mx sx) (hdl : 2 < d) {ad : Nat → Nat} {G : Nat → Nat → Int32} {V : Nat → Int32} {n u : Nat} (h2 : V 2 = nI u) (hu : u ≤ n) (hn : gch n) (h36 : u + 6 ≤ 36000) (lvf : Nat → Lv) {rest : List Value} (hcat : (rest.map fun v => v.category).sum ≤ 8) (hf : cells + kc n (u + 6) ≤ mx ∧ slots + ks n (u + 6) ≤ sx) {pc q : Nat} (hd : decode cc pc = .ok (.invokevirtual 115, 3)) (hq : pc + 3 = q)
    (k : ∀ (ad' : Nat → Nat) (G' : Nat → Nat → Int32), aeP ad G u (fun _ => 0) ad' G' → WW z (cells + kc n (u + 6)) (slots + ks n (u + 6)) (WC (zk z) ad' G' (upd V 2 (nI (u + 6))) (gw n (u + 6))) q (lvf (ad' 23)) (.int (nI u) :: rest)) :
    WW z cells slots (WC (zk z) ad G V n) pc (lvf (ad 23)) (.ref (ad 23) :: rest) := by
  subst hq
  refine rV E cvX3_115 hR Fr.all 23 wc_23 rfl [] (c_addEmpty h2 hu hn h36) hdl rfl rfl hcat hf hd (fun v w' h => ?_)
  obtain ⟨rfl, ad', G', rfl, hp⟩ := h
  have e := hp.1 23 (by decide)
  rw [← e]
  exact k ad' G' hp
set_option maxHeartbeats 800000 in
theorem c_addCopy {l : Launch} {k : Kt} {ad : Nat → Nat} {G : Nat → Nat → Int32} {V : Nat → Int32} {n u r : Nat} {x : Int32} (hx : x = nI r) (hr : r + 6 ≤ u) (h2 : V 2 = nI u) (hu : u ≤ n) (hn : gch n) (h36 : u + 6 ≤ 36000) :
    CT l k yX3_addCopy cX3_addCopy 3 (some .int) 3 [.ref (ad 23), .int x] (WC k ad G V n) (aeQ k ad G V n u (fun m => G 24 (r + m))) (kc n (u + 6)) (ks n (u + 6)) := by
  refine ct_of (own := RX3) (lv0 := [(0, .ref (ad 23)), (1, .int x)]) (by decide) rfl (Nat.le_of_ble_eq_true rfl) rfl ?_
  rintro z rfl rfl hz - E T
  refine r_aload_n E (q := 1) 0 dX3_addCopy_0 rfl rfl rfl ?_
  refine r_ae E T.rr (by decide) h2 hu hn h36 (fun a => [(0, .ref a), (1, .int x)]) (Nat.le_of_ble_eq_true rfl) ⟨by omega, by omega⟩ dX3_addCopy_1 (q := 4) rfl (fun ad' G' hp => ?_)
  have hN : u + 6 ≤ gw n (u + 6) := gw_ge h36
  have hN2 := (gch_le (gw_ch (u := u + 6) hn)).2
  obtain ⟨p1, p2, p3, p4⟩ := hp
  refine ay_b E T hz ⟨by omega, by omega⟩ (Nat.le_refl 3) x (nI u) hx rfl (by omega) hN (by omega) (fun G1 e1 => ?_)
  refine ⟨rfl, ad', G1, rfl, p1, fun p hp => by rw [e1, va_up_ne _ _ hp]; exact p2 p hp, fun j hj => ?_, fun m hm => ?_⟩
  · rw [e1, va_up_self, pk_cpy_out (by omega)]; exact p3 j hj
  · rw [e1, va_up_self, pk_cpy_in (by omega) (by omega), show r + (u + m - u) = r + m by omega]; exact p3 _ (by omega)
/-- a call of addCopy -/
theorem r_ac {z : Zt} {cc : ByteArray} (E : EN z cc RX3) {d mx sx cells slots : Nat} (hR : RR z d mx sx) (hdl : 3 < d) {ad : Nat → Nat} {G : Nat → Nat → Int32} {V : Nat → Int32} {n u r : Nat} {x : Int32} (hx : x = nI r) (hr : r + 6 ≤ u) (h2 : V 2 = nI u) (hu : u ≤ n) (hn : gch n) (h36 : u + 6 ≤ 36000) (lvf : Nat → Lv) {rest : List Value} (hcat : (rest.map fun v => v.category).sum ≤ 8) (hf : cells + kc n (u + 6) ≤ mx ∧ slots + ks n (u + 6) ≤ sx) {pc q : Nat} (hd : decode cc pc = .ok (.invokevirtual 133, 3)) (hq : pc + 3 = q)
    (k : ∀ (ad' : Nat → Nat) (G' : Nat → Nat → Int32), aeP ad G u (fun m => G 24 (r + m)) ad' G' → WW z (cells + kc n (u + 6)) (slots + ks n (u + 6)) (WC (zk z) ad' G' (upd V 2 (nI (u + 6))) (gw n (u + 6))) q (lvf (ad' 23)) (.int (nI u) :: rest)) :
    WW z cells slots (WC (zk z) ad G V n) pc (lvf (ad 23)) (.int x :: .ref (ad 23) :: rest) := by
  subst hq
  refine rV E cvX3_133 hR Fr.all 23 wc_23 rfl [.int x] (c_addCopy hx hr h2 hu hn h36) hdl rfl rfl hcat hf hd (fun v w' h => ?_)
  obtain ⟨rfl, ad', G', rfl, hp⟩ := h
  have e := hp.1 23 (by decide)
  rw [← e]
  exact k ad' G' hp
