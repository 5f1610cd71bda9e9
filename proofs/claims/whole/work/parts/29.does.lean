def tkL (F : Nat → Nat → Int32) (kind m v : Int32) (bs : List (List Int32)) : Ot → Nat → List (List Int32) → Ot
  | o, _, [] => o
  | o, i, r :: rs => if o.2.1 = 0 then tkL F kind m v bs (tkS F kind m v bs o i r) (i + 1) rs else o
def srcR (S : Nat → Int32) (a i : Nat) : List Int32 := [S (18 * a + 3 * i), S (18 * a + 3 * i + 1), S (18 * a + 3 * i + 2), 0, 0, 0]
def srcS (S : Nat → Int32) (a n : Nat) : List (List Int32) := (List.range n).map (srcR S a)
/-- a node's job on the rows of a and of b -/
def doS (F : Nat → Nat → Int32) (kind m v : Int32) (as bs : List (List Int32)) (c : Int32) : Ot :=
  if kind = 5 then ((tkL F kind m v bs ([], 0, c) 0 as).1 ++ bs, (tkL F kind m v bs ([], 0, c) 0 as).2) else tkL F kind m v bs ([], 0, c) 0 as
theorem tb_drop {C : Nat → Int32} {b n i : Nat} (h : i < n) : (tb C b n).drop i = rd C (b + 6 * i) :: (tb C b n).drop (i + 1) := by
  have hl : i < (tb C b n).length := by rw [tb_len]; exact h
  rw [List.drop_eq_getElem_cons hl]
  congr 1
  have := tb_get (C := C) (b := b) h
  rw [List.getElem?_eq_getElem hl] at this
  exact Option.some.inj this
theorem foldL_len {m k : Nat} {row : List Int32} : ∀ os : List (List Int32), (foldL m k row os).length ≤ os.length + 1
  | [] => by simp [foldL]
  | o :: os => by
    unfold foldL
    by_cases h : o.getD m 0 = row.getD m 0
    · rw [if_pos h]; simp
    · rw [if_neg h]; have := foldL_len (m := m) (k := k) (row := row) os; simp only [List.length_cons]; omega
/-- how many rows there are behind i rows of a -/
def lenOK (kd lb i : Nat) (o : Ot) : Prop := (kd = 4 → o.1.length ≤ i * lb) ∧ (kd ≠ 4 → o.1.length ≤ i) ∧ (kd = 2 ∨ kd = 3 → o.2.1 = 0 → o.1.length = i)
theorem tkS_len {F : Nat → Nat → Int32} {kd lb i : Nat} {m v : Int32} {bs : List (List Int32)} {o : Ot} {row : List Int32} (hk1 : 1 ≤ kd) (hk8 : kd ≤ 8) (hb : bs.length = lb) (h : lenOK kd lb i o) (h0 : o.2.1 = 0) : lenOK kd lb (i + 1) (tkS F (nI kd) m v bs o i row) := by
  obtain ⟨h1, h2, h3⟩ := h
  rcases (show kd = 1 ∨ kd = 2 ∨ kd = 3 ∨ kd = 4 ∨ kd = 5 ∨ kd = 6 ∨ kd = 7 ∨ kd = 8 by omega) with rfl | rfl | rfl | rfl | rfl | rfl | rfl | rfl
  · refine ⟨fun h => absurd h (by decide), fun _ => ?_, fun h => absurd h (by decide)⟩
    have := h2 (by decide)
    unfold tkS; rw [if_pos (by decide)]; dsimp only
    split
    · rw [List.length_append]; show _ + 1 ≤ _; omega
    · omega
  · have e := h3 (by decide) h0
    refine ⟨fun h => absurd h (by decide), fun _ => ?_, fun _ => ?_⟩
    · unfold tkS; rw [if_neg (by decide), if_pos (by decide)]; dsimp only
      split
      · rw [List.length_append]; show _ + 1 ≤ _; omega
      · omega
    · unfold tkS; rw [if_neg (by decide), if_pos (by decide)]; dsimp only
      intro hz; rw [if_pos hz, List.length_append]; show _ + 1 = _; omega
  · have e := h3 (by decide) h0
    refine ⟨fun h => absurd h (by decide), fun _ => ?_, fun _ _ => ?_⟩ <;> (unfold tkS; rw [if_neg (by decide), if_neg (by decide), if_pos (by decide)]; dsimp only; rw [List.length_append])
    · show _ + 1 ≤ _; omega
    · show _ + 1 = _; omega
  · refine ⟨fun _ => ?_, fun h => absurd rfl h, fun h => absurd h (by decide)⟩
    have := h1 rfl
    have hj := joinL_len (ix m) v row bs
    unfold tkS; rw [if_neg (by decide), if_neg (by decide), if_neg (by decide), if_pos (by decide)]; dsimp only
    rw [List.length_append, Nat.succ_mul]; omega
  · refine ⟨fun h => absurd h (by decide), fun _ => ?_, fun h => absurd h (by decide)⟩
    have := h2 (by decide)
    unfold tkS; rw [if_neg (by decide), if_neg (by decide), if_neg (by decide), if_neg (by decide), if_neg (by decide), if_neg (by decide), if_neg (by decide)]; dsimp only
    rw [List.length_append]; show _ + 1 ≤ _; omega
  · refine ⟨fun h => absurd h (by decide), fun _ => ?_, fun h => absurd h (by decide)⟩
    have := h2 (by decide)
    have hf := foldL_len (m := ix m) (k := ix v) (row := row) o.1
    unfold tkS; rw [if_neg (by decide), if_neg (by decide), if_neg (by decide), if_neg (by decide), if_pos (by decide)]; dsimp only
    omega
  · refine ⟨fun h => absurd h (by decide), fun _ => ?_, fun h => absurd h (by decide)⟩
    have := h2 (by decide)
    unfold tkS; rw [if_neg (by decide), if_neg (by decide), if_neg (by decide), if_neg (by decide), if_neg (by decide), if_pos (by decide)]; dsimp only
    split
    · omega
    · rw [List.length_append]; show _ + 1 ≤ _; omega
  · refine ⟨fun h => absurd h (by decide), fun _ => ?_, fun h => absurd h (by decide)⟩
    have := h2 (by decide)
    unfold tkS; rw [if_neg (by decide), if_neg (by decide), if_neg (by decide), if_neg (by decide), if_neg (by decide), if_neg (by decide), if_pos (by decide)]; dsimp only
    split
    · omega
    · rw [List.length_append]; show _ + 1 ≤ _; omega
/-- a node that can be done: its kind, what stands below it and what came of that -/
def okN (G : Nat → Nat → Int32) (n nf kd aN bN la lb m : Nat) (v : Int32) : Prop :=
  n < 60 ∧ G 10 n = nI kd ∧ kd ≤ 8 ∧ m < 6 ∧ G 13 n = nI m ∧ G 14 n = v ∧ nf ≤ 40 ∧ FW (G 4) (G 5) (G 6) nf ∧ G 11 n = nI aN ∧
  (kd = 0 → aN < 4 ∧ G 1 aN = nI la ∧ la ≤ 6) ∧ (kd ≠ 0 → aN < 60 ∧ aN ≠ n ∧ G 21 aN = nI la ∧ la ≤ 100) ∧
  (kd = 1 ∨ kd = 2 → ∃ j : Nat, j < nf ∧ v = nI j) ∧ (kd = 6 → ∃ q : Nat, q < 6 ∧ q ≠ m ∧ v = nI q) ∧ (kd = 4 ∨ kd = 5 → bN < 60 ∧ bN ≠ n ∧ G 12 n = nI bN ∧ G 21 bN = nI lb ∧ lb ≤ 100) ∧ (kd = 4 → la * lb ≤ 100) ∧ (kd = 5 → la + lb ≤ 100)
def dsS (G : Nat → Nat → Int32) (kd aN bN la lb m : Nat) (v c : Int32) : Ot := if kd = 0 then (srcS (G 2) aN la, 0, c) else doS (FM G) (nI kd) (nI m) v (tb (G 20) (600 * aN) la) (tb (G 20) (600 * bN) lb) c
theorem six_stores {G G1 G2 G3 G4 G5 G6 : Nat → Nat → Int32} {t y0 y1 y2 y3 y4 y5 : Int32} {q : Nat} (hq : t = nI q) (hq6 : q + 6 ≤ 36000) (e1 : G1 = ug G 20 (ix (t + 0)) y0) (e2 : G2 = ug G1 20 (ix (t + 1)) y1) (e3 : G3 = ug G2 20 (ix (t + 2)) y2) (e4 : G4 = ug G3 20 (ix (t + 3)) y3) (e5 : G5 = ug G4 20 (ix (t + 4)) y4) (e6 : G6 = ug G5 20 (ix (t + 5)) y5) :
    (∀ p, p ≠ 20 → G6 p = G p) ∧ (∀ j, j < q ∨ q + 6 ≤ j → G6 20 j = G 20 j) ∧ rd (G6 20) q = [y0, y1, y2, y3, y4, y5] := by
  have A : ∀ mm : Nat, mm < 6 → ix (t + nI mm) = q + mm := fun mm h => by rw [hq]; exact nIadd (by omega)
  rw [show ix (t + 0) = q + 0 from A 0 (by omega)] at e1
  rw [show ix (t + 1) = q + 1 from A 1 (by omega)] at e2
  rw [show ix (t + 2) = q + 2 from A 2 (by omega)] at e3
  rw [show ix (t + 3) = q + 3 from A 3 (by omega)] at e4
  rw [show ix (t + 4) = q + 4 from A 4 (by omega)] at e5
  rw [show ix (t + 5) = q + 5 from A 5 (by omega)] at e6
  refine ⟨fun p hp => ?_, fun j hj => ?_, ?_⟩
  · rw [e6, e5, e4, e3, e2, e1, ug_other hp, ug_other hp, ug_other hp, ug_other hp, ug_other hp, ug_other hp]
  · rw [e6, ug_i (by omega), e5, ug_i (by omega), e4, ug_i (by omega), e3, ug_i (by omega), e2, ug_i (by omega), e1, ug_i (by omega)]
  · have z0 : G6 20 q = y0 := by rw [e6, ug_i (by omega), e5, ug_i (by omega), e4, ug_i (by omega), e3, ug_i (by omega), e2, ug_i (by omega), e1]; exact ug_same
    have z1 : G6 20 (q + 1) = y1 := by rw [e6, ug_i (by omega), e5, ug_i (by omega), e4, ug_i (by omega), e3, ug_i (by omega), e2, ug_same]
    have z2 : G6 20 (q + 2) = y2 := by rw [e6, ug_i (by omega), e5, ug_i (by omega), e4, ug_i (by omega), e3, ug_same]
    have z3 : G6 20 (q + 3) = y3 := by rw [e6, ug_i (by omega), e5, ug_i (by omega), e4, ug_same]
    have z4 : G6 20 (q + 4) = y4 := by rw [e6, ug_i (by omega), e5, ug_same]
    have z5 : G6 20 (q + 5) = y5 := by rw [e6, ug_same]
    unfold rd; rw [z0, z1, z2, z3, z4, z5]
set_option maxHeartbeats 1600000 in
theorem c_does {l : Launch} {k : Kt} {ad : Nat → Nat} {G0 : Nat → Nat → Int32} {V0 : Nat → Int32} {n nf kd aN bN la lb m : Nat} {x v : Int32} (hx : x = nI n) (ok : okN G0 n nf kd aN bN la lb m v) (h5 : V0 5 = 0) :
    CT l k yX6_does cX6_does 5 none 6 [.ref (ad 0), .int x] (WM k ad G0 V0) (fun v9 w' => v9 = none ∧ ∃ (G' : Nat → Nat → Int32) (V' : Nat → Int32), w' = WM k ad G' V' ∧ stM G0 V0 n G' V' (dsS G0 kd aN bN la lb m v (V0 6))) 0 0 := by
  obtain ⟨hn, hkd, hk8, hm, hmn, hv, hnf, hW, ha, hA0, hA1, hvf, hvk, hb, hc4, hc5⟩ := ok
  refine ct_of (own := RX6) (lv0 := [(0, .ref (ad 0)), (1, .int x)]) (by decide) rfl (Nat.le_of_ble_eq_true rfl) rfl ?_
  rintro z rfl rfl hz - E T
  have exn : ix x = n := by rw [hx]; exact ix_nI (by omega)
  have hxv : vp_in x 60 := by rw [hx]; exact vp_in_nI hn (by omega)
  have st0 : stM G0 V0 n (ug G0 21 (ix x) 0) V0 ([], 0, V0 6) := by
    rw [exn]
    refine ⟨fun p _ _ _ _ p5 => ug_other p5, fun i hi => ug_i hi, ug_same, fun j _ => ug_p (by decide), rfl, h5, rfl, fun _ _ _ _ _ => rfl⟩
  have q11 : G0 11 (ix x) = nI aN := by rw [exn]; exact ha
  refine d_p E T hz (Nat.le_refl 6) x hxv (fun G1 e1 c1 => ?_) (fun G1 e1 c1 => ?_)
  · -- a job on rows
    rw [q11]
    have hk0 : kd ≠ 0 := fun e => c1 (by rw [e1, ug_other (by decide), exn, hkd, e]; rfl)
    obtain ⟨a1, a2, a3, a4⟩ := hA1 hk0
    have eds : dsS G0 kd aN bN la lb m v (V0 6) = doS (FM G0) (nI kd) (nI m) v (tb (G0 20) (600 * aN) la) (tb (G0 20) (600 * bN) lb) (V0 6) := if_neg hk0
    rw [eds] at T
    generalize hR : tkL (FM G0) (nI kd) (nI m) v (tb (G0 20) (600 * bN) lb) ([], 0, V0 6) 0 (tb (G0 20) (600 * aN) la) = R at *
    have hdo : doS (FM G0) (nI kd) (nI m) v (tb (G0 20) (600 * aN) la) (tb (G0 20) (600 * bN) lb) (V0 6) = if nI kd = 5 then (R.1 ++ tb (G0 20) (600 * bN) lb, R.2) else R := by unfold doS; rw [hR]
    rw [hdo] at T
    -- behind the rows of a
    have fin : ∀ (G : Nat → Nat → Int32) (V : Nat → Int32) (i9 : Int32), stM G0 V0 n G V R → (kd = 5 → R.1.length ≤ la) → WW z 0 0 (WM (zk z) ad G V) 145 [(0, .ref (ad 0)), (1, .int x), (2, .int (nI aN)), (3, .int i9)] [] := by
      intro G V i9 h hlen
      have qk : G 10 (ix x) = nI kd := by rw [exn, h.1 10 (by decide) (by decide) (by decide) (by decide) (by decide)]; exact hkd
      refine d_u E T hz (Nat.le_refl 6) x hxv (nI aN) i9 (fun c => ⟨rfl, G, V, rfl, ?_⟩) (fun c => ?_)
      · rw [qk] at c; rw [if_neg c]; exact h
      · have hk5 : kd = 5 := by
          rw [qk, show (5 : Int32) = nI 5 from rfl, nI_eq (by omega) (by omega)] at c; exact c
        obtain ⟨b1, b2, b3, b4, b5⟩ := hb (Or.inr hk5)
        rw [if_pos (by rw [hk5]; rfl)] at T
        have hl1 := hlen hk5
        have hl2 := hc5 hk5
        have step : ∀ (j : Nat) (j9 : Int32) (G : Nat → Nat → Int32), j9 = nI j → j ≤ lb → stM G0 V0 n G V (R.1 ++ tb (G0 20) (600 * bN) j, R.2) → (j < lb → ∀ G' : Nat → Nat → Int32, stM G0 V0 n G' V (R.1 ++ tb (G0 20) (600 * bN) (j + 1), R.2) → WW z 0 0 (WM (zk z) ad G' V) 157 [(0, .ref (ad 0)), (1, .int x), (2, .int (nI aN)), (3, .int (j9 + 1))] []) → WW z 0 0 (WM (zk z) ad G V) 157 [(0, .ref (ad 0)), (1, .int x), (2, .int (nI aN)), (3, .int j9)] [] := by
          intro j j9 G hj hjl h K
          have q12 : G 12 (ix x) = nI bN := by rw [exn, h.1 12 (by decide) (by decide) (by decide) (by decide) (by decide)]; exact b3
          have q21 : G 21 (ix (G 12 (ix x))) = nI lb := by rw [q12, ix_nI (by omega), h.2.1 bN b2]; exact b4
          have hlt : ¬ G 21 (ix (G 12 (ix x))) ≤ j9 → j < lb := fun c => by
            rcases Nat.lt_or_ge j lb with q | q
            · exact q
            · exact absurd (by rw [q21, hj]; exact nI_le q (by clear hvf hvk; omega)) c
          have hpl : j < lb → fX6_place (G 12 (ix x)) j9 = nI (600 * bN + 6 * j) := fun q => by rw [q12, hj]; exact place_n b1 (by clear hvf hvk; omega)
          have hll : j < lb → (R.1 ++ tb (G0 20) (600 * bN) j).length < 100 := fun q => by rw [List.length_append, tb_len]; clear hvf hvk; omega
          refine d_v E T hz (Nat.le_refl 6) x hxv (nI aN) j9 (by rw [q12]; exact vp_in_nI b1 (by decide)) (fun c => ⟨_, hpl (hlt c), by have := hlt c; clear hvf hvk; omega, by decide⟩) (fun c => h.to hx hn (hll (hlt c))) (fun c => ⟨rfl, G, V, rfl, ?_⟩) (fun G1 e1 c => ?_)
          · have e : j = lb := by
              rw [q21, hj, nI_leI (by clear hvf hvk; omega) (by clear hvf hvk; omega)] at c; clear hvf hvk; omega
            rw [← e]; exact h
          · have q := hlt c
            refine K q G1 ?_
            rw [e1, tb_succ, ← List.append_assoc]
            have ap : 600 * bN + 6 * j + 6 ≤ 600 * n ∨ 600 * n + 600 ≤ 600 * bN + 6 * j := by
              clear hvf hvk
              rcases Nat.lt_or_gt_of_ne b2 with w | w
              · left; omega
              · right; omega
            exact h.add hx hn (hpl q) (by clear hvf hvk; omega) ap (hll q)
        have main : ∀ (N j : Nat) (j9 : Int32) (G : Nat → Nat → Int32), j9 = nI j → j ≤ lb → lb ≤ j + N → stM G0 V0 n G V (R.1 ++ tb (G0 20) (600 * bN) j, R.2) → WW z 0 0 (WM (zk z) ad G V) 157 [(0, .ref (ad 0)), (1, .int x), (2, .int (nI aN)), (3, .int j9)] [] := by
          intro N
          induction N with
          | zero => intro j j9 G hj h1 h2 h; exact step j j9 G hj h1 h (fun q => absurd q (by omega))
          | succ N ih => intro j j9 G hj h1 h2 h; exact step j j9 G hj h1 h (fun q G' h' => ih (j + 1) (j9 + 1) G' (by rw [hj]; exact nI_1 j) (by omega) (by omega) h')
        exact main lb 0 0 G rfl (Nat.zero_le _) (by omega) (by rw [tb_0, List.append_nil]; exact h)
    -- the rows of a
    have step : ∀ (i : Nat) (i9 : Int32) (G : Nat → Nat → Int32) (V : Nat → Int32) (o : Ot), i9 = nI i → i ≤ la → stM G0 V0 n G V o → lenOK kd lb i o → tkL (FM G0) (nI kd) (nI m) v (tb (G0 20) (600 * bN) lb) o i ((tb (G0 20) (600 * aN) la).drop i) = R → (i < la → o.2.1 = 0 → ∀ (G' : Nat → Nat → Int32) (V' : Nat → Int32), stM G0 V0 n G' V' (tkS (FM G0) (nI kd) (nI m) v (tb (G0 20) (600 * bN) lb) o i (rd (G0 20) (600 * aN + 6 * i))) → WW z 0 0 (WM (zk z) ad G' V') 111 [(0, .ref (ad 0)), (1, .int x), (2, .int (nI aN)), (3, .int (i9 + 1))] []) → WW z 0 0 (WM (zk z) ad G V) 111 [(0, .ref (ad 0)), (1, .int x), (2, .int (nI aN)), (3, .int i9)] [] := by
      intro i i9 G V o hi hil h hL hT K
      have q21 : G 21 (ix (nI aN)) = nI la := by rw [ix_nI (by clear hvf hvk; omega), h.2.1 aN a2]; exact a3
      have hlt : ¬ G 21 (ix (nI aN)) ≤ i9 → i < la := fun c => by
        rcases Nat.lt_or_ge i la with q | q
        · exact q
        · exact absurd (by rw [q21, hi]; exact nI_le q (by clear hvf hvk; omega)) c
      have hV5 : V 5 = o.2.1 := h.2.2.2.2.2.1
      have hRl : kd = 5 → o.1.length ≤ la := fun e => by have := hL.2.1 (by rw [e]; decide); clear hvf hvk; omega
      refine d_t E T hz (Nat.le_refl 6) x hxv (nI aN) i9 (vp_in_nI a1 (by decide)) (fun G' V' => stM G0 V0 n G' V' (tkS (FM G0) (nI kd) (nI m) v (tb (G0 20) (600 * bN) lb) o i (rd (G0 20) (600 * aN + 6 * i)))) (fun c c5 => ?_) (fun c => ?_) (fun c c5 => ?_) (fun Ga Va hq c c5 => ?_)
      · have q := hlt c
        rw [hV5] at c5
        have hk1 : 1 ≤ kd := Nat.one_le_iff_ne_zero.mpr hk0
        have ap : 600 * aN + 6 * i + 6 ≤ 600 * n ∨ 600 * n + 600 ≤ 600 * aN + 6 * i := by
          clear hvf hvk
          rcases Nat.lt_or_gt_of_ne a2 with w | w
          · left; omega
          · right; omega
        have cap4 : kd = 4 → o.1.length + lb ≤ 100 := fun e => by
          have h1 := hL.1 e
          have h2 := hc4 e
          have h3 : (i + 1) * lb ≤ la * lb := Nat.mul_le_mul_right lb q
          rw [Nat.succ_mul] at h3
          clear hvf hvk; omega
        have cap : o.1.length < 100 := by
          by_cases e : kd = 4
          · have h1 := cap4 e
            have h2 := hL.1 e
            rcases Nat.eq_zero_or_pos lb with w | w
            · rw [w, Nat.mul_zero] at h2; clear hvf hvk; omega
            · clear hvf hvk; omega
          · have := hL.2.1 e; clear hvf hvk; omega
        exact c_takes hx hn hi (by clear hvf hvk; omega) (by rw [hi]; exact place_n a1 (by clear hvf hvk; omega)) (by clear hvf hvk; omega) ap hkd hk1 hk8 hm hmn hv hnf hW hvf hvk (fun e => by obtain ⟨b1, b2, b3, b4, b5⟩ := hb (Or.inl e); exact ⟨b1, b2, b3, b4⟩) h c5 cap cap4 (fun e => hL.2.2 e c5)
      · have e : i = la := by
          rw [q21, hi, nI_leI (by clear hvf hvk; omega) (by clear hvf hvk; omega)] at c; clear hvf hvk; omega
        rw [e, List.drop_eq_nil_of_le (by rw [tb_len]; exact Nat.le_refl _)] at hT
        have hT : o = R := hT
        rw [hT] at h
        exact fin G V i9 h (fun e => by have := hRl e; rw [hT] at this; exact this)
      · have q := hlt c
        rw [hV5] at c5
        rw [tb_drop q] at hT
        have hT : (if o.2.1 = 0 then _ else o) = R := hT
        rw [if_neg c5] at hT
        rw [hT] at h
        exact fin G V i9 h (fun e => by have := hRl e; rw [hT] at this; exact this)
      · exact K (hlt c) (hV5.symm.trans c5) Ga Va hq
    have main : ∀ (N i : Nat) (i9 : Int32) (G : Nat → Nat → Int32) (V : Nat → Int32) (o : Ot), i9 = nI i → i ≤ la → la ≤ i + N → stM G0 V0 n G V o → lenOK kd lb i o → tkL (FM G0) (nI kd) (nI m) v (tb (G0 20) (600 * bN) lb) o i ((tb (G0 20) (600 * aN) la).drop i) = R → WW z 0 0 (WM (zk z) ad G V) 111 [(0, .ref (ad 0)), (1, .int x), (2, .int (nI aN)), (3, .int i9)] [] := by
      intro N
      induction N with
      | zero => intro i i9 G V o hi h1 h2 h hL hT; exact step i i9 G V o hi h1 h hL hT (fun q => absurd q (by omega))
      | succ N ih =>
        intro i i9 G V o hi h1 h2 h hL hT
        refine step i i9 G V o hi h1 h hL hT (fun q q0 G' V' h' => ?_)
        refine ih (i + 1) (i9 + 1) G' V' _ (by rw [hi]; exact nI_1 i) (by omega) (by omega) h' (tkS_len (Nat.one_le_iff_ne_zero.mpr hk0) hk8 (tb_len _ _ _) hL q0) ?_
        rw [tb_drop q] at hT
        have hT : (if o.2.1 = 0 then _ else o) = R := hT
        rw [if_pos q0] at hT
        exact hT
    refine main la 0 0 G1 V0 ([], 0, V0 6) rfl (Nat.zero_le _) (by omega) (by rw [e1]; exact st0) ⟨fun _ => Nat.zero_le _, fun _ => Nat.le_refl 0, fun _ _ => rfl⟩ ?_
    rw [List.drop_zero]; exact hR
  · -- a source
    rw [q11]
    have hk0 : kd = 0 := by
      rw [e1, ug_other (by decide), exn, hkd, show (0 : Int32) = nI 0 from rfl, nI_eq (by clear hvf hvk; omega) (by omega)] at c1; exact c1
    obtain ⟨a1, a2, a3⟩ := hA0 hk0
    have eds : dsS G0 kd aN bN la lb m v (V0 6) = (srcS (G0 2) aN la, 0, V0 6) := if_pos hk0
    rw [eds] at T
    have inv : ∀ (N i : Nat) (i9 : Int32) (G : Nat → Nat → Int32), i9 = nI i → i ≤ la → la ≤ i + N → (∀ p, p ≠ 20 → p ≠ 21 → G p = G0 p) → (∀ t, t ≠ n → G 21 t = G0 21 t) → (∀ q, q < 600 * n ∨ 600 * n + 600 ≤ q → G 20 q = G0 20 q) → tb (G 20) (600 * n) i = srcS (G0 2) aN i → WW z 0 0 (WM (zk z) ad G V0) 25 [(0, .ref (ad 0)), (1, .int x), (2, .int (nI aN)), (3, .int i9)] [] := by
      clear hvf hvk
      intro N
      induction N with
      | zero =>
        intro i i9 G hi hil hN g1 g2 g3 g4
        have e : i = la := by omega
        have q1 : G 1 (ix (nI aN)) = nI la := by rw [ix_nI (by omega), g1 1 (by decide) (by decide)]; exact a2
        have ab : G 1 (ix (nI aN)) ≤ i9 := by rw [q1, hi, e]; exact Int32.le_refl _
        refine d_s E T hz (Nat.le_refl 6) x hxv (nI aN) i9 (vp_in_nI a1 (by decide)) (fun c => absurd ab c) (fun c => absurd ab c) (fun G1 e1 c => ⟨rfl, G1, V0, rfl, ?_⟩) (fun G1 G2 G3 G4 G5 G6 _ _ _ _ _ _ c => absurd ab c)
        rw [e1, q1, exn]
        have hl : (srcS (G0 2) aN la).length = la := by unfold srcS; simp
        refine ⟨fun p _ _ _ p4 p5 => by rw [ug_other p5]; exact g1 p p4 p5, fun t ht => by rw [ug_i ht]; exact g2 t ht, ?_, fun q hq => by rw [ug_p (by decide)]; exact g3 q hq, ?_, h5, rfl, fun _ _ _ _ _ => rfl⟩
        · dsimp only; rw [ug_same, hl]
        · dsimp only; rw [ug_other (by decide), hl, ← e]; exact g4.symm
      | succ N ih =>
        intro i i9 G hi hil hN g1 g2 g3 g4
        have q1 : G 1 (ix (nI aN)) = nI la := by rw [ix_nI (by omega), g1 1 (by decide) (by decide)]; exact a2
        have hlt : ¬ G 1 (ix (nI aN)) ≤ i9 → i < la := fun c => by
          rcases Nat.lt_or_ge i la with q | q
          · exact q
          · exact absurd (by rw [q1, hi]; exact nI_le q (by omega)) c
        have hpl : i < la → fX6_place x i9 = nI (600 * n + 6 * i) := fun q => by rw [hx, hi]; exact place_n hn (by omega)
        have hgv : i < la → ∀ t : Nat, t < 3 → 18 * nI aN + 3 * i9 + nI t = nI (18 * aN + 3 * i + t) := fun q t ht => by
          rw [hi, show (18 : Int32) = nI 18 from rfl, show (3 : Int32) = nI 3 from rfl, pk_mul, pk_mul, nI_add, nI_add]
        refine d_s E T hz (Nat.le_refl 6) x hxv (nI aN) i9 (vp_in_nI a1 (by decide)) (fun c => ⟨_, hpl (hlt c), by have := hlt c; omega, by decide⟩) (fun c t ht => by rw [hgv (hlt c) t ht]; have := hlt c; exact vp_in_nI (by omega) (by omega)) (fun G1 e1 c => ⟨rfl, G1, V0, rfl, ?_⟩) (fun G1 G2 G3 G4 G5 G6 e1 e2 e3 e4 e5 e6 c => ?_)
        · have e : i = la := by
            rw [q1, hi, nI_leI (by omega) (by omega)] at c; omega
          rw [e1, q1, exn]
          have hl : (srcS (G0 2) aN la).length = la := by unfold srcS; simp
          refine ⟨fun p _ _ _ p4 p5 => by rw [ug_other p5]; exact g1 p p4 p5, fun t ht => by rw [ug_i ht]; exact g2 t ht, ?_, fun q hq => by rw [ug_p (by decide)]; exact g3 q hq, ?_, h5, rfl, fun _ _ _ _ _ => rfl⟩
          · dsimp only; rw [ug_same, hl]
          · dsimp only; rw [ug_other (by decide), hl, ← e]; exact g4.symm
        · have q := hlt c
          obtain ⟨s1, s2, s3⟩ := six_stores (hpl q) (by omega) e1 e2 e3 e4 e5 e6
          refine ih (i + 1) (i9 + 1) G6 (by rw [hi]; exact nI_1 i) (by omega) (by omega) (fun p p1 p2 => (s1 p p1).trans (g1 p p1 p2)) (fun t ht => by rw [s1 21 (by decide)]; exact g2 t ht) (fun r hr => by rw [s2 r (by omega)]; exact g3 r hr) ?_
          have e2' : G1 2 = G0 2 := by rw [e1, ug_other (by decide)]; exact g1 2 (by decide) (by decide)
          have e3' : G2 2 = G0 2 := by rw [e2, ug_other (by decide)]; exact e2'
          have es : srcS (G0 2) aN (i + 1) = srcS (G0 2) aN i ++ [srcR (G0 2) aN i] := by
            unfold srcS; rw [List.range_succ, List.map_append]; rfl
          rw [tb_succ, es, ← g4, s3]
          congr 1
          · exact tb_congr fun t ht => s2 _ (by omega)
          · rw [e2', e3', g1 2 (by decide) (by decide)]
            rw [show (18 * nI aN + 3 * i9 + 0) = _ from hgv q 0 (by omega), show (18 * nI aN + 3 * i9 + 1) = _ from hgv q 1 (by omega), show (18 * nI aN + 3 * i9 + 2) = _ from hgv q 2 (by omega), ix_nI (by omega), ix_nI (by omega), ix_nI (by omega)]
            rfl
    refine inv la 0 0 G1 rfl (Nat.zero_le _) (by omega) (fun p _ p2 => by rw [e1, ug_other p2]) (fun t ht => by rw [e1, exn, ug_i ht]) (fun q _ => by rw [e1, ug_p (by decide)]) rfl
