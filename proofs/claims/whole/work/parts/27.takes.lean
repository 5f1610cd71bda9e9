theorem addG_other {G : Nat → Nat → Int32} {x y : Int32} {p : Nat} (h1 : p ≠ 20) (h2 : p ≠ 21) : fX6_add_G G x y p = G p := by
  unfold fX6_add_G fX6_copy_G
  rw [ug_other h2, ug_other h1, ug_other h1, ug_other h1, ug_other h1, ug_other h1, ug_other h1]
/-- the reference's arrays under common numbers: formulas' kind, a, b; the table; nodes' kind, a, b, m, v; the sources' sizes, their cells -/
def FM (G : Nat → Nat → Int32) : Nat → Nat → Int32 := fun t => G (([4, 5, 6, 3, 10, 11, 12, 13, 14, 1, 2] : List Nat).getD t 0)
theorem stM.work {G0 : Nat → Nat → Int32} {V0 : Nat → Int32} {n : Nat} {G Ga : Nat → Nat → Int32} {V Va : Nat → Int32} {os : List (List Int32)} {f c : Int32} {e : Int32 × Int32 × Int32} (h : stM G0 V0 n G V (os, f, c)) (ag : agS 0 G Ga) (rs : rsW V Va e) : stM G0 V0 n Ga Va (os, e.2.1, c + e.2.2) := by
  obtain ⟨h1, h2, h3, h4, h5, h6, h7, h8⟩ := h
  have e20 : Ga 20 = G 20 := ag.1 20 (by decide) (by decide) (by decide)
  have e21 : Ga 21 = G 21 := ag.1 21 (by decide) (by decide) (by decide)
  refine ⟨fun p a b c d e => (ag.1 p a b c).trans (h1 p a b c d e), fun i hi => by rw [e21]; exact h2 i hi, by rw [e21]; exact h3, fun j hj => by rw [e20]; exact h4 j hj, by rw [e20]; exact h5, rs.1, ?_, fun j a b c d => (rs.2.2.2 j a b c d).trans (h8 j a b c d)⟩
  rw [rs.2.1, h7]
theorem kp1 {G0 : Nat → Nat → Int32} {V0 : Nat → Int32} {n : Nat} {G G' : Nat → Nat → Int32} {V : Nat → Int32} {os : List (List Int32)} {r : List Int32} {e : Int32 × Int32} (h : stM G0 V0 n G V (os ++ [r], e)) {x t ot sh s : Int32} {m p : Nat} (hm : m < 6) (ht : ix t = 600 * n + 6 * os.length + m) (ho : ix ot = p + m) (hl : os.length < 100) (hp : p + 6 ≤ 600 * n ∨ 600 * n + 600 ≤ p) (hs : G0 14 (ix x) = s)
    (e1 : G' = ug G 20 (ix t) (if (G 14 (ix x) >>> sh) &&& 1 = 1 then G 20 (ix ot) else 0)) : stM G0 V0 n G' V (os ++ [r.set m (if (s >>> sh) &&& 1 = 1 then G0 20 (p + m) else 0)], e) := by
  have e14 : G 14 (ix x) = s := by rw [h.1 14 (by decide) (by decide) (by decide) (by decide) (by decide)]; exact hs
  have eo : G 20 (ix ot) = G0 20 (p + m) := by rw [ho]; exact h.2.2.2.1 (p + m) (by omega)
  rw [e1, e14, eo, ht]
  exact h.put hm rfl hl
set_option maxHeartbeats 1600000 in
theorem c_takes {l : Launch} {k : Kt} {ad : Nat → Nat} {G0 : Nat → Nat → Int32} {V0 : Nat → Int32} {n a i m nf kd bN lb : Nat} {x i9 at9 v : Int32} (hx : x = nI n) (hn : n < 60) (hi : i9 = nI i) (hi1 : i < 100) (ha : at9 = nI a) (ha6 : a + 6 ≤ 36000) (hap : a + 6 ≤ 600 * n ∨ 600 * n + 600 ≤ a) (hkd : G0 10 n = nI kd) (hk1 : 1 ≤ kd) (hk8 : kd ≤ 8) (hm : m < 6) (hmn : G0 13 n = nI m) (hv : G0 14 n = v) (hnf : nf ≤ 40) (hW : FW (G0 4) (G0 5) (G0 6) nf) (hvf : kd = 1 ∨ kd = 2 → ∃ j : Nat, j < nf ∧ v = nI j) (hvk : kd = 6 → ∃ q : Nat, q < 6 ∧ q ≠ m ∧ v = nI q) (hb : kd = 4 → bN < 60 ∧ bN ≠ n ∧ G0 12 n = nI bN ∧ G0 21 bN = nI lb)
    {G : Nat → Nat → Int32} {V : Nat → Int32} {o : Ot} (hst : stM G0 V0 n G V o) (hf0 : o.2.1 = 0) (hcap : o.1.length < 100) (hcap4 : kd = 4 → o.1.length + lb ≤ 100) (hlen : kd = 2 ∨ kd = 3 → o.1.length = i) :
    CT l k yX6_takes cX6_takes 5 none 5 [.ref (ad 0), .int x, .int i9, .int at9] (WM k ad G V) (fun v9 w' => v9 = none ∧ ∃ (G' : Nat → Nat → Int32) (V' : Nat → Int32), w' = WM k ad G' V' ∧ stM G0 V0 n G' V' (tkS (FM G0) (nI kd) (nI m) v (tb (G0 20) (600 * bN) lb) o i (rd (G0 20) a))) 0 0 := by
  refine ct_of (own := RX6) (lv0 := [(0, .ref (ad 0)), (1, .int x), (2, .int i9), (3, .int at9)]) (by decide) rfl (Nat.le_of_ble_eq_true rfl) rfl ?_
  rintro z rfl rfl hz - E T
  obtain ⟨os, f, c⟩ := o
  dsimp only at hf0 hcap hlen hcap4
  subst hf0
  have exn : ix x = n := by rw [hx]; exact ix_nI (by omega)
  have hxv : vp_in x 60 := by rw [hx]; exact vp_in_nI hn (by omega)
  have hrow : ∀ t, t < 6 → G 20 (a + t) = G0 20 (a + t) := fun t ht => hst.2.2.2.1 _ (by clear hvf hvk hW; omega)
  have hat : ∃ a : Nat, at9 = nI a ∧ a + 6 ≤ 36000 ∧ 36000 < 2 ^ 31 := ⟨a, ha, ha6, by decide⟩
  have old : ∀ p, p ≠ 17 → p ≠ 18 → p ≠ 19 → p ≠ 20 → p ≠ 21 → G p = G0 p := hst.1
  have hto := hst.to hx hn hcap
  have qk : G 10 (ix x) = nI kd := by rw [exn, old 10 (by decide) (by decide) (by decide) (by decide) (by decide)]; exact hkd
  have qv : G 14 (ix x) = v := by rw [exn, old 14 (by decide) (by decide) (by decide) (by decide) (by decide)]; exact hv
  have radd : ∀ {H : Nat → Nat → Int32} {U : Nat → Int32} {e : Int32 × Int32}, stM G0 V0 n H U (os, e) → stM G0 V0 n (fX6_add_G H x at9) U (os ++ [rd (G0 20) a], e) := fun h => h.add hx hn ha ha6 hap hcap
  -- the formula's worth
  have wk : (kd = 1 ∨ kd = 2) → CT (zl z) (zk z) yX6_work cX6_work 3 none 3 [.ref (ad 0), .int (G 14 (ix x)), .int at9] (WM (zk z) ad G V) (pW (zk z) ad G V (ev (FM G0) v (rd (G0 20) a))) 0 0 := by
    intro h
    obtain ⟨j, hj, ej⟩ := hvf h
    have e4 : G 4 = G0 4 := old 4 (by decide) (by decide) (by decide) (by decide) (by decide)
    have e5 : G 5 = G0 5 := old 5 (by decide) (by decide) (by decide) (by decide) (by decide)
    have e6 : G 6 = G0 6 := old 6 (by decide) (by decide) (by decide) (by decide) (by decide)
    have e3 : G 3 = G0 3 := old 3 (by decide) (by decide) (by decide) (by decide) (by decide)
    have h9 := c_work (l := zl z) (k := zk z) (ad := ad) (G := G) (V := V) hnf (by rw [e4, e5, e6]; exact hW) ha ha6 (show G 14 (ix x) = nI j by rw [qv, ej]) hj hst.2.2.2.2.2.1
    have ee : evS (G 4) (G 5) (G 6) (G 3) (fun t => G 20 (a + t)) 40 (G 14 (ix x)) = ev (FM G0) v (rd (G0 20) a) := by
      rw [e4, e5, e6, e3, qv]
      exact evS_congr hnf hW (fun t ht => by rw [rd_get ht]; exact hrow t ht) 40 v j ej hj
    rw [ee] at h9
    exact h9
  have hta : ∀ Ga : Nat → Nat → Int32, agS 0 G Ga → ∃ a : Nat, fX6_place x (Ga 21 (ix x)) = nI a ∧ a + 6 ≤ 36000 ∧ 36000 < 2 ^ 31 := fun Ga ag => by
    rw [ag.1 21 (by decide) (by decide) (by decide)]; exact hto
  rcases (show kd = 1 ∨ kd = 2 ∨ kd = 3 ∨ kd = 4 ∨ kd = 5 ∨ kd = 6 ∨ kd = 7 ∨ kd = 8 by omega) with rfl | rfl | rfl | rfl | rfl | rfl | rfl | rfl
  · generalize hev : ev (FM G0) v (rd (G0 20) a) = e at wk
    have et : ∀ bs, tkS (FM G0) (nI 1) (nI m) v bs (os, 0, c) i (rd (G0 20) a) = ((if e.2.1 = 0 ∧ ¬ e.1 = 0 then os ++ [rd (G0 20) a] else os), e.2.1, c + e.2.2) := fun bs => by
      unfold tkS; rw [if_pos (by decide), hev]
    rw [et] at T
    refine tk_1 E T hz (Nat.le_refl 5) x i9 at9 hxv hat qk e (wk (Or.inl rfl)) hta (fun Ga Va ag rs c1 => ?_) (fun Ga Va ag rs c1 c2 => ?_) (fun Ga Va ag rs G1 e1 c1 c2 => ?_)
    · refine ⟨rfl, Ga, Va, rfl, ?_⟩
      rw [rs.1] at c1
      rw [if_neg (fun h => c1 h.1)]; exact hst.work ag rs
    · refine ⟨rfl, Ga, Va, rfl, ?_⟩
      rw [rs.1] at c1
      rw [rs.2.2.1 c1] at c2
      rw [if_neg (fun h => h.2 c2)]; exact hst.work ag rs
    · refine ⟨rfl, G1, Va, rfl, ?_⟩
      rw [rs.1] at c1
      rw [rs.2.2.1 c1] at c2
      rw [if_pos ⟨c1, c2⟩, e1]; exact radd (hst.work ag rs)
  · generalize hev : ev (FM G0) v (rd (G0 20) a) = e at wk
    have et : ∀ bs, tkS (FM G0) (nI 2) (nI m) v bs (os, 0, c) i (rd (G0 20) a) = ((if e.2.1 = 0 then os ++ [(rd (G0 20) a).set m e.1] else os), e.2.1, c + e.2.2) := fun bs => by
      unfold tkS; rw [if_neg (by decide), if_pos (by decide), hev, ix_nI (by omega)]
    rw [et] at T
    have hli := hlen (Or.inl rfl)
    have pl : fX6_place x i9 = nI (600 * n + 6 * os.length) := by rw [hx, hi, hli]; exact place_n hn hi1
    have q13 : ∀ Ga : Nat → Nat → Int32, agS 0 G Ga → ∀ G1 : Nat → Nat → Int32, G1 = fX6_add_G Ga x at9 → G1 13 (ix x) = nI m := fun Ga ag G1 e1 => by
      rw [e1, addG_other (by decide) (by decide), ag.1 13 (by decide) (by decide) (by decide), exn, old 13 (by decide) (by decide) (by decide) (by decide) (by decide)]; exact hmn
    refine tk_2 E T hz (Nat.le_refl 5) x i9 at9 hxv hat qk e (wk (Or.inr rfl)) hta (fun Ga ag G1 e1 => by rw [q13 Ga ag G1 e1, pl, nI_add]; exact vp_in_nI (by omega) (by omega)) (fun Ga Va ag rs c1 => ?_) (fun Ga Va ag rs G1 G2 e1 e2 c1 => ?_)
    · refine ⟨rfl, Ga, Va, rfl, ?_⟩
      rw [rs.1] at c1
      rw [if_neg c1]; exact hst.work ag rs
    · refine ⟨rfl, G2, Va, rfl, ?_⟩
      rw [rs.1] at c1
      have s1 : stM G0 V0 n G1 Va (os ++ [rd (G0 20) a], e.2.1, c + e.2.2) := by rw [e1]; exact radd (hst.work ag rs)
      rw [if_pos c1, e2, rs.2.2.1 c1, q13 Ga ag G1 e1, pl, nIadd (by omega)]
      exact s1.put hm rfl hcap
  · have et : ∀ bs, tkS (FM G0) (nI 3) (nI m) v bs (os, 0, c) i (rd (G0 20) a) = (os ++ [keepR v (rd (G0 20) a)], 0, c) := fun bs => by
      unfold tkS; rw [if_neg (by decide), if_neg (by decide), if_pos (by decide)]
    rw [et] at T
    have hli := hlen (Or.inr rfl)
    have pl : fX6_place x i9 = nI (600 * n + 6 * os.length) := by rw [hx, hi, hli]; exact place_n hn hi1
    have tt : ∀ t : Nat, t < 6 → ix (fX6_place x i9 + nI t) = 600 * n + 6 * os.length + t := fun t ht => by rw [pl]; exact nIadd (by omega)
    have oo : ∀ t : Nat, t < 6 → ix (at9 + nI t) = a + t := fun t ht => by rw [ha]; exact nIadd (by omega)
    have hs' : G0 14 (ix x) = v := by rw [exn]; exact hv
    refine tk_3 E T hz (Nat.le_refl 5) x i9 at9 hxv hat qk hto ⟨_, pl, by omega, by decide⟩ (fun G1 G2 G3 G4 G5 G6 G7 e1 e2 e3 e4 e5 e6 e7 => ⟨rfl, G7, V, rfl, ?_⟩)
    have s1 : stM G0 V0 n G1 V (os ++ [rd (G0 20) a], 0, c) := by rw [e1]; exact radd hst
    have s2 := kp1 (m := 0) s1 (by omega) (tt 0 (by omega)) (oo 0 (by omega)) hcap hap hs' e2
    have s3 := kp1 (m := 1) s2 (by omega) (tt 1 (by omega)) (oo 1 (by omega)) hcap hap hs' e3
    have s4 := kp1 (m := 2) s3 (by omega) (tt 2 (by omega)) (oo 2 (by omega)) hcap hap hs' e4
    have s5 := kp1 (m := 3) s4 (by omega) (tt 3 (by omega)) (oo 3 (by omega)) hcap hap hs' e5
    have s6 := kp1 (m := 4) s5 (by omega) (tt 4 (by omega)) (oo 4 (by omega)) hcap hap hs' e6
    have s7 := kp1 (m := 5) s6 (by omega) (tt 5 (by omega)) (oo 5 (by omega)) hcap hap hs' e7
    exact s7
  · have et : tkS (FM G0) (nI 4) (nI m) v (tb (G0 20) (600 * bN) lb) (os, 0, c) i (rd (G0 20) a) = (os ++ joinL m v (rd (G0 20) a) (tb (G0 20) (600 * bN) lb), 0, c) := by
      unfold tkS; rw [if_neg (by decide), if_neg (by decide), if_neg (by decide), if_pos (by decide), ix_nI (by omega)]
    rw [et] at T
    obtain ⟨b1, b2, b3, b4⟩ := hb rfl
    refine tk_4 E T hz (Nat.le_refl 5) x i9 at9 hxv hat qk _ (c_joins hx hn b1 b2 ha ha6 hap b3 b4 hm hmn hv hst (hcap4 rfl)) (fun Ga hq => ⟨rfl, Ga, V, rfl, hq⟩)
  · have et : ∀ bs, tkS (FM G0) (nI 5) (nI m) v bs (os, 0, c) i (rd (G0 20) a) = (os ++ [rd (G0 20) a], 0, c) := fun bs => by
      unfold tkS; rw [if_neg (by decide), if_neg (by decide), if_neg (by decide), if_neg (by decide), if_neg (by decide), if_neg (by decide), if_neg (by decide)]
    rw [et] at T
    exact tk_5 E T hz (Nat.le_refl 5) x i9 at9 hxv hat qk hto (fun G1 e1 => ⟨rfl, G1, V, rfl, by rw [e1]; exact radd hst⟩)
  · obtain ⟨q, hq1, hq2, hq3⟩ := hvk rfl
    have et : ∀ bs, tkS (FM G0) (nI 6) (nI m) v bs (os, 0, c) i (rd (G0 20) a) = (foldL m q (rd (G0 20) a) os, 0, c) := fun bs => by
      unfold tkS; rw [if_neg (by decide), if_neg (by decide), if_neg (by decide), if_neg (by decide), if_pos (by decide), hq3, ix_nI (by omega), ix_nI (by omega)]
    rw [et] at T
    refine tk_6 E T hz (Nat.le_refl 5) x i9 at9 hxv hat qk _ (c_folds hx hn ha ha6 hap hm hmn hq1 hq2 (hv.trans hq3) hst hcap) (fun Ga hq => ⟨rfl, Ga, V, rfl, hq⟩)
  · have et : ∀ bs, tkS (FM G0) (nI 7) (nI m) v bs (os, 0, c) i (rd (G0 20) a) = ((if rd (G0 20) a ∈ os then os else os ++ [rd (G0 20) a]), 0, c) := fun bs => by
      unfold tkS; rw [if_neg (by decide), if_neg (by decide), if_neg (by decide), if_neg (by decide), if_neg (by decide), if_pos (by decide)]
    rw [et] at T
    have hos : os = tb (G 20) (600 * n) os.length := hst.2.2.2.2.1
    have hrd : rd (G 20) a = rd (G0 20) a := rd_congr fun t ht => hrow t ht
    have hh := c_has (l := zl z) (k := zk z) (ad := ad) (G := G) (V := V) hx hn ha ha6 (show G 21 n = nI os.length from hst.2.2.1) (by omega)
    rw [← hos, hrd] at hh
    refine tk_7 E T hz (Nat.le_refl 5) x i9 at9 hxv hat qk hto _ hh (fun c1 => ?_) (fun G1 e1 c1 => ?_)
    · refine ⟨rfl, G, V, rfl, ?_⟩
      by_cases hm : rd (G0 20) a ∈ os
      · rw [if_pos hm]; exact hst
      · rw [if_neg hm] at c1; exact absurd rfl c1
    · refine ⟨rfl, G1, V, rfl, ?_⟩
      by_cases hm : rd (G0 20) a ∈ os
      · rw [if_pos hm] at c1; exact absurd c1 (by decide)
      · rw [if_neg hm, e1]; exact radd hst
  · have et : ∀ bs, tkS (FM G0) (nI 8) (nI m) v bs (os, 0, c) i (rd (G0 20) a) = ((if v ≤ nI i then os else os ++ [rd (G0 20) a]), 0, c) := fun bs => by
      unfold tkS; rw [if_neg (by decide), if_neg (by decide), if_neg (by decide), if_neg (by decide), if_neg (by decide), if_neg (by decide), if_pos (by decide)]
    rw [et] at T
    refine tk_8 E T hz (Nat.le_refl 5) x i9 at9 hxv hat qk hto (fun c1 => ?_) (fun G1 e1 c1 => ?_)
    · refine ⟨rfl, G, V, rfl, ?_⟩
      rw [qv, hi] at c1
      rw [if_pos c1]; exact hst
    · refine ⟨rfl, G1, V, rfl, ?_⟩
      rw [qv, hi] at c1
      rw [if_neg c1, e1]; exact radd hst
