/-- the rows of node j lie from s on -/
def stoR (G : Nat → Nat → Int32) (u j s : Nat) (rows : List (List Int32)) : Prop :=
  j < 60 ∧ G 25 j = nI s ∧ G 26 j = nI (s + 6 * rows.length) ∧ s + 6 * rows.length ≤ u ∧ rows = tb (G 24) s rows.length
/-- the class's plan is the plan Q -/
def agQ (G Q : Nat → Nat → Int32) (nn nf : Nat) : Prop :=
  agF G Q nf ∧ (∀ i, i < nn → G 13 i = Q 4 i ∧ G 14 i = Q 5 i ∧ G 15 i = Q 6 i ∧ G 16 i = Q 7 i ∧ G 17 i = Q 8 i) ∧ (∀ i, i < 4 → G 3 i = Q 9 i) ∧ ∀ i, i < 72 → G 2 i = Q 10 i
theorem agQ.to {G G0 Q : Nat → Nat → Int32} {nn nf : Nat} (h : ∀ p, p ≠ 20 → p ≠ 21 → p ≠ 22 → p ≠ 24 → p ≠ 25 → p ≠ 26 → G p = G0 p) (ag : agQ G0 Q nn nf) : agQ G Q nn nf := by
  unfold agQ agF
  rw [h 6 (by decide) (by decide) (by decide) (by decide) (by decide) (by decide), h 7 (by decide) (by decide) (by decide) (by decide) (by decide) (by decide), h 8 (by decide) (by decide) (by decide) (by decide) (by decide) (by decide), h 4 (by decide) (by decide) (by decide) (by decide) (by decide) (by decide), h 13 (by decide) (by decide) (by decide) (by decide) (by decide) (by decide), h 14 (by decide) (by decide) (by decide) (by decide) (by decide) (by decide), h 15 (by decide) (by decide) (by decide) (by decide) (by decide) (by decide), h 16 (by decide) (by decide) (by decide) (by decide) (by decide) (by decide), h 17 (by decide) (by decide) (by decide) (by decide) (by decide) (by decide), h 3 (by decide) (by decide) (by decide) (by decide) (by decide) (by decide), h 2 (by decide) (by decide) (by decide) (by decide) (by decide) (by decide)]
  exact ag
theorem s_gv {z : Zt} {cc : ByteArray} (E : EN z cc RX3) {idx maxL nA d d' mx sx cells slots mc ms : Nat} {y : MethodName} {bytes : ByteArray} (cw : CV RX3 RX3 idx y bytes maxL none nA) (hR : RR z d mx sx) (hdl : d' < d) {ad0 : Nat → Nat} {G0 : Nat → Nat → Int32} {V0 : Nat → Int32} {n0 u0 : Nat} {O : Ot} (As : List Value) (hC : CT (zl z) (zk z) y bytes maxL none d' (.ref (ad0 23) :: As) (WC (zk z) ad0 G0 V0 n0) (gvQ (zk z) ad0 G0 V0 n0 u0 O) mc ms) (hn : As.length = nA) (lvf : Nat → Lv) {rest st : List Value} (hst : st = As.reverse ++ .ref (ad0 23) :: rest) (hcat : (rest.map fun v => v.category).sum ≤ 8) (hf : cells + mc ≤ mx ∧ slots + ms ≤ sx) {pc q : Nat} (hd : decode cc pc = .ok (.invokevirtual idx, 3)) (hq : pc + 3 = q)
    (k : ∀ (ad' : Nat → Nat) (G' : Nat → Nat → Int32) (V' : Nat → Int32) (n' : Nat), stC ad0 G0 V0 n0 u0 ad' G' V' n' O → WW z (cells + mc) (slots + ms) (WC (zk z) ad' G' V' n') q (lvf (ad' 23)) rest) :
    WW z cells slots (WC (zk z) ad0 G0 V0 n0) pc (lvf (ad0 23)) st := by
  subst hq
  refine rV E cw hR Fr.all 23 wc_23 rfl As hC hdl hn hst hcat hf hd (fun v w' h => ?_)
  obtain ⟨rfl, ad', G', V', n', rfl, hp⟩ := h
  have e := hp.1 23 (by decide)
  rw [← e]
  exact k ad' G' V' n' hp
theorem tb_app {C : Nat → Int32} {b n m : Nat} : tb C b (n + m) = tb C b n ++ tb C (b + 6 * n) m := by
  induction m with
  | zero => rw [tb_0, List.append_nil]; rfl
  | succ m ih => rw [← Nat.add_assoc, tb_succ, ih, tb_succ, List.append_assoc, show b + 6 * (n + m) = b + 6 * n + 6 * m by omega]
theorem stC.comp {ad0 : Nat → Nat} {G0 : Nat → Nat → Int32} {V0 : Nat → Int32} {n0 u0 : Nat} {ad : Nat → Nat} {G : Nat → Nat → Int32} {V : Nat → Int32} {n : Nat} {ad2 : Nat → Nat} {G2 : Nat → Nat → Int32} {V2 : Nat → Int32} {n2 : Nat} {os o2 : List (List Int32)} {e e2 : Int32 × Int32} (h : stC ad0 G0 V0 n0 u0 ad G V n (os, e)) (h' : stC ad G V n (u0 + 6 * os.length) ad2 G2 V2 n2 (o2, e2)) : stC ad0 G0 V0 n0 u0 ad2 G2 V2 n2 (os ++ o2, e2) := by
  obtain ⟨h1, h2, h3, h4, h5, h6, h7, h8, h9⟩ := h
  obtain ⟨g1, g2, g3, g4, g5, g6, g7, g8, g9⟩ := h'
  dsimp only at *
  refine ⟨fun p hp => (g1 p hp).trans (h1 p hp), fun p hp => (g2 p hp).trans (h2 p hp), fun j hj => (g3 j (by omega)).trans (h3 j hj), ?_, ?_, g6, g7, fun j a b c => (g8 j a b c).trans (h8 j a b c), ?_⟩
  · dsimp only
    rw [List.length_append, tb_app, ← g4]
    congr 1
    exact h4.trans (tb_congr fun j hj => (g3 _ (by omega)).symm)
  · dsimp only; rw [List.length_append, g5]; congr 1; omega
  · dsimp only; rw [List.length_append, g9, h9, gw_gw (by omega)]; congr 1; omega
theorem tkL_8 {F : Nat → Nat → Int32} {m : Int32} {bs : List (List Int32)} {q : Nat} (hq : q ≤ 100) : ∀ (R os : List (List Int32)) (i : Nat) (c : Int32), i + R.length ≤ 100 → tkL F 8 m (nI q) bs (os, 0, c) i R = (os ++ R.take (q - i), 0, c)
  | [], os, i, c, _ => by rw [List.take_nil, List.append_nil]; rfl
  | r :: R, os, i, c, h => by
    simp only [List.length_cons] at h
    show (if (0 : Int32) = 0 then tkL F 8 m (nI q) bs (tkS F 8 m (nI q) bs (os, 0, c) i r) (i + 1) R else _) = _
    have et : tkS F 8 m (nI q) bs (os, 0, c) i r = ((if nI q ≤ nI i then os else os ++ [r]), 0, c) := by
      unfold tkS; rw [if_neg (by decide), if_neg (by decide), if_neg (by decide), if_neg (by decide), if_neg (by decide), if_neg (by decide), if_pos rfl]
    rw [if_pos rfl, et, tkL_8 hq R _ (i + 1) c (by omega)]
    by_cases w : nI q ≤ nI i
    · rw [if_pos w]
      rw [nI_leI (by omega) (by omega)] at w
      rw [show q - (i + 1) = 0 by omega, show q - i = 0 by omega, List.take_zero, List.take_zero]
    · rw [if_neg w]
      rw [nI_leI (by omega) (by omega)] at w
      rw [show q - i = (q - (i + 1)) + 1 by omega, List.take_succ_cons, List.append_assoc]; rfl
theorem tb_take {C : Nat → Int32} {b n q : Nat} : (tb C b n).take q = tb C b (if q < n then q else n) := by
  by_cases h : q < n
  · rw [if_pos h, show n = q + (n - q) by omega, tb_app]
    rw [List.take_append_of_le_length (by rw [tb_len]; exact Nat.le_refl _), List.take_of_length_le (by rw [tb_len]; exact Nat.le_refl _)]
  · rw [if_neg h, List.take_of_length_le (by rw [tb_len]; omega)]
theorem srcS_ag {S S' : Nat → Int32} {a n : Nat} (ha : a < 4) (hn : n ≤ 6) (h : ∀ i, i < 72 → S i = S' i) : srcS S a n = srcS S' a n := by
  unfold srcS
  apply List.map_congr_left
  intro i hi
  have hi := List.mem_range.mp hi
  unfold srcR
  rw [h _ (by omega), h _ (by omega), h _ (by omega)]
set_option maxHeartbeats 3200000 in
theorem c_workC {l : Launch} {k : Kt} {ad0 : Nat → Nat} {G0 Q : Nat → Nat → Int32} {V0 : Nat → Int32} {n0 u0 nn nf nN kd m aN bN : Nat} {bd rk : Nat → Nat} {res : Nat → List (List Int32)} {x : Int32} {O : Ot} (hnn : nn ≤ 60) (hnf : nf ≤ 40) (hW : FW (Q 0) (Q 1) (Q 2) nf) (hS : ∀ i, i < 4 → ∃ j : Nat, j ≤ 6 ∧ Q 9 i = nI j) (ag : agQ G0 Q nn nf) (hx : x = nI nN) (hN : nN < nn) (ok : okI Q nn nf bd rk nN kd m aN bN)
    (hn : gch n0) (hu : u0 ≤ n0) (h2 : V0 2 = nI u0) (h5 : V0 5 = 0) (hA : kd ≠ 0 → ∃ s, stoR G0 u0 aN s (res aN) ∧ (res aN).length ≤ 100) (hB : kd = 4 ∨ kd = 5 → ∃ s, stoR G0 u0 bN s (res bN) ∧ (res bN).length ≤ 100) (hO : jobS Q res nN (V0 6) = O) (hcap : u0 + 6 * O.1.length ≤ 36000) :
    CT l k yX3_work cX3_work 3 none 84 [.ref (ad0 23), .int x] (WC k ad0 G0 V0 n0) (gvQ k ad0 G0 V0 n0 u0 O) (kC n0 u0 O) (kS n0 u0 O) := by
  refine ct_of (own := RX3) (lv0 := [(0, .ref (ad0 23)), (1, .int x)]) (by decide) rfl (Nat.le_of_ble_eq_true rfl) rfl ?_
  rintro z rfl rfl hz - E T
  obtain ⟨k8, hk, hm6, hm, hbd, ha, ha0, ha1, hb, hvf, hv6, hv8, hj, hu', ho⟩ := ok
  obtain ⟨agf, agn, ag3, ag2⟩ := ag
  obtain ⟨n13, n14, n15, n16, n17⟩ := agn nN hN
  have exn : ix x = nN := by rw [hx]; exact ix_nI (by omega)
  have hxv : vp_in x 60 := by rw [hx]; exact vp_in_nI (by omega) (by omega)
  have q13 : G0 13 (ix x) = nI kd := by rw [exn, n13, hk]
  have q14 : G0 14 (ix x) = nI aN := by rw [exn, n14, ha]
  have q15 : kd = 4 ∨ kd = 5 → G0 15 (ix x) = nI bN := fun e => by rw [exn, n15, (hb e).2.1]
  have q16 : G0 16 (ix x) = nI m := by rw [exn, n16, hm]
  have q17 : G0 17 (ix x) = Q 8 nN := by rw [exn, n17]
  have c0 : 0 ≤ kC n0 u0 O ∧ 0 ≤ kS n0 u0 O := ⟨Nat.zero_le _, Nat.zero_le _⟩
  have cz : 0 + kC n0 u0 O ≤ kC n0 u0 O ∧ 0 + kS n0 u0 O ≤ kS n0 u0 O := ⟨by omega, by omega⟩
  have ce : 0 + kC n0 u0 O ≤ kC n0 u0 O ∧ 0 + kS n0 u0 O ≤ kS n0 u0 O := cz
  have jb : kd ≠ 0 → ∃ sa, jbP G0 V0 n0 u0 aN sa (res aN).length ∧ res aN = tb (G0 24) sa (res aN).length := fun e => by
    obtain ⟨s, ⟨a1, a2, a3, a4, a5⟩, -⟩ := hA e
    exact ⟨s, ⟨hn, hu, h2, h5, a1, a2, a3, a4⟩, a5⟩
  have ejb : kd ≠ 0 → jobS Q res nN (V0 6) = doS Q (nI kd) (nI m) (Q 8 nN) (res aN) (res (ix (Q 6 nN))) (V0 6) := fun e => by
    unfold jobS
    rw [if_neg (fun w => e (by rw [hk, show (0 : Int32) = nI 0 from rfl, nI_eq (by omega) (by omega)] at w; exact w)), hk, hm, ha, ix_nI (by have := (ha1 e).1; omega)]
  let lvf : Nat → Lv := fun a => [(0, .ref a), (1, .int x), (2, .int (nI aN))]
  rcases (show kd = 0 ∨ kd = 1 ∨ kd = 2 ∨ kd = 3 ∨ kd = 4 ∨ kd = 5 ∨ kd = 6 ∨ kd = 7 ∨ kd = 8 by omega) with rfl | rfl | rfl | rfl | rfl | rfl | rfl | rfl | rfl
  · obtain ⟨a4, -⟩ := ha0 rfl
    obtain ⟨la, hla6, hla⟩ := hS aN a4
    refine wk_0 E T hz c0 x q13 hxv ?_
    rw [q14]
    have eO : (srcS (G0 2) aN la, 0, V0 6) = O := by
      rw [← hO]; unfold jobS
      rw [if_pos (by rw [hk]; rfl), ha, ix_nI (by omega), hla, ix_nI (by omega), srcS_ag a4 hla6 ag2]
    refine s_gv E cvX3_74 T.rr (by decide) [.int (nI aN)] (c_giveSource hn hu h2 h5 a4 ((ag3 aN a4).trans hla) hla6 rfl eO hcap) rfl lvf rfl (Nat.le_of_ble_eq_true rfl) cz dX3_work_66 (q := 69) rfl (fun ad' G' V' n' st => ?_)
    exact wr_69 E T hz ce x _ ⟨rfl, ad', G', V', n', rfl, st⟩
  · obtain ⟨sa, jbp, er⟩ := jb (by decide)
    obtain ⟨j, hj1, hj2⟩ := hvf (Or.inl rfl)
    refine wk_1 E T hz c0 x q13 hxv ?_
    rw [q14, q17]
    have eO : tkL Q 1 (nI m) (Q 8 nN) (res (ix (Q 6 nN))) ([], 0, V0 6) 0 (tb (G0 24) sa (res aN).length) = O := by
      rw [← hO, ejb (by decide), ← er]; rfl
    refine s_gv E cvX3_80 T.rr (by decide) [.int (nI aN), .int (Q 8 nN)] (c_giveFiltered hnf hW agf jbp rfl hj2 hj1 eO hcap) rfl lvf rfl (Nat.le_of_ble_eq_true rfl) cz dX3_work_83 (q := 86) rfl (fun ad' G' V' n' st => ?_)
    exact wr_86 E T hz ce x _ ⟨rfl, ad', G', V', n', rfl, st⟩
  · obtain ⟨sa, jbp, er⟩ := jb (by decide)
    obtain ⟨j, hj1, hj2⟩ := hvf (Or.inr rfl)
    refine wk_2 E T hz c0 x q13 hxv ?_
    rw [q14, q17, q16]
    have eO : tkL Q 2 (nI m) (Q 8 nN) (res (ix (Q 6 nN))) ([], 0, V0 6) 0 (tb (G0 24) sa (res aN).length) = O := by
      rw [← hO, ejb (by decide), ← er]; rfl
    refine s_gv E cvX3_87 T.rr (by decide) [.int (nI aN), .int (nI m), .int (Q 8 nN)] (c_giveSet hnf hW agf jbp rfl rfl hm6 hj2 hj1 eO hcap) rfl lvf rfl (Nat.le_of_ble_eq_true rfl) cz dX3_work_109 (q := 112) rfl (fun ad' G' V' n' st => ?_)
    exact wr_112 E T hz ce x _ ⟨rfl, ad', G', V', n', rfl, st⟩
  · obtain ⟨sa, jbp, er⟩ := jb (by decide)
    refine wk_3 E T hz c0 x q13 hxv ?_
    rw [q14, q17]
    have eO : tkL Q 3 (nI m) (Q 8 nN) (res (ix (Q 6 nN))) ([], 0, V0 6) 0 (tb (G0 24) sa (res aN).length) = O := by
      rw [← hO, ejb (by decide), ← er]; rfl
    refine s_gv E cvX3_91 T.rr (by decide) [.int (nI aN), .int (Q 8 nN)] (c_giveKept jbp rfl eO hcap) rfl lvf rfl (Nat.le_of_ble_eq_true rfl) cz dX3_work_126 (q := 129) rfl (fun ad' G' V' n' st => ?_)
    exact wr_129 E T hz ce x _ ⟨rfl, ad', G', V', n', rfl, st⟩
  · obtain ⟨sa, jbp, er⟩ := jb (by decide)
    obtain ⟨sb, ⟨b1, b2, b3, b4, b5⟩, -⟩ := hB (Or.inl rfl)
    refine wk_4 E T hz c0 x q13 hxv ?_
    rw [q14, q17, q16, q15 (Or.inl rfl)]
    have eO : tkL Q 4 (nI m) (Q 8 nN) (tb (G0 24) sb (res bN).length) ([], 0, V0 6) 0 (tb (G0 24) sa (res aN).length) = O := by
      rw [← hO, ejb (by decide), (hb (Or.inl rfl)).2.1, ix_nI (by omega), ← er, ← b5]; rfl
    refine s_gv E cvX3_97 T.rr (by decide) [.int (nI aN), .int (nI bN), .int (nI m), .int (Q 8 nN)] (c_giveJoined jbp rfl rfl b1 b2 b3 b4 rfl hm6 eO hcap) rfl lvf rfl (Nat.le_of_ble_eq_true rfl) cz dX3_work_161 (q := 164) rfl (fun ad' G' V' n' st => ?_)
    exact wr_164 E T hz ce x _ ⟨rfl, ad', G', V', n', rfl, st⟩
  · obtain ⟨sa, jbp, er⟩ := jb (by decide)
    obtain ⟨sb, ⟨b1, b2, b3, b4, b5⟩, bl⟩ := hB (Or.inr rfl)
    obtain ⟨sa', -, al⟩ := hA (by decide)
    have eO : (res aN ++ res bN, 0, V0 6) = O := by
      rw [← hO, ejb (by decide), (hb (Or.inr rfl)).2.1, ix_nI (by omega)]
      unfold doS
      rw [if_pos (show (nI 5 : Int32) = 5 from rfl), show (nI 5 : Int32) = 5 from rfl, tkL_5]; rfl
    have hOl : O.1.length = (res aN).length + (res bN).length := by rw [← eO]; exact List.length_append
    refine wk_5 E T hz c0 x q13 hxv ?_
    rw [q14]
    have ea : (tb (G0 24) sa (if 100 < (res aN).length then 100 else (res aN).length), (0 : Int32), V0 6) = (res aN, 0, V0 6) := by
      rw [if_neg (by omega), ← er]
    have k1 : kC n0 u0 (res aN, 0, V0 6) ≤ kC n0 u0 O ∧ kS n0 u0 (res aN, 0, V0 6) ≤ kS n0 u0 O := kcost hn (by dsimp only; omega)
    refine s_gv E cvX3_101 T.rr (by decide) [.int (nI aN), .int 100] (c_giveFirst jbp rfl (q := 100) rfl (Nat.le_refl _) ea (by dsimp only; omega)) rfl lvf rfl (Nat.le_of_ble_eq_true rfl) ⟨by omega, by omega⟩ dX3_work_171 (q := 174) rfl (fun ad' G' V' n' st => ?_)
    have st' := st
    obtain ⟨rn, ru, r36⟩ := st.room hn (by dsimp only; omega)
    dsimp only at ru
    obtain ⟨s1, s2, s3, s4, s5, s6, s7, s8, s9⟩ := st'
    have ex15 : G' 15 (ix x) = nI bN := by rw [s2 15 (by decide)]; exact q15 (Or.inr rfl)
    refine wk_u E T hz ⟨by omega, by omega⟩ x _ hxv ?_
    rw [ex15]
    have jb2 : jbP G' V' n' (u0 + 6 * (res aN).length) bN sb (res bN).length := ⟨rn, ru, s5, s6, b1, by rw [s2 25 (by decide)]; exact b2, by rw [s2 26 (by decide)]; exact b3, by omega⟩
    have eb : (tb (G' 24) sb (if 100 < (res bN).length then 100 else (res bN).length), (0 : Int32), V' 6) = (res bN, 0, V' 6) := by
      rw [if_neg (by omega)]
      congr 1
      rw [show tb (G' 24) sb (res bN).length = tb (G0 24) sb (res bN).length from tb_congr fun j hj => s3 _ (by omega), ← b5]
    have s9' : n' = gw n0 (u0 + 6 * (res aN).length) := s9
    have kk1 : kC n0 u0 (res aN, 0, V0 6) + kC n' (u0 + 6 * (res aN).length) (res bN, 0, V' 6) = kC n0 u0 O := by
      show kc n0 (u0 + 6 * (res aN).length) + kc n' (u0 + 6 * (res aN).length + 6 * (res bN).length) = kc n0 (u0 + 6 * O.1.length)
      rw [hOl, show u0 + 6 * ((res aN).length + (res bN).length) = u0 + 6 * (res aN).length + 6 * (res bN).length by omega, s9']
      exact kc_add (by omega)
    have kk2 : kS n0 u0 (res aN, 0, V0 6) + kS n' (u0 + 6 * (res aN).length) (res bN, 0, V' 6) = kS n0 u0 O := by
      show ks n0 (u0 + 6 * (res aN).length) + ks n' (u0 + 6 * (res aN).length + 6 * (res bN).length) = ks n0 (u0 + 6 * O.1.length)
      rw [hOl, show u0 + 6 * ((res aN).length + (res bN).length) = u0 + 6 * (res aN).length + 6 * (res bN).length by omega, s9']
      exact ks_add hn (by omega)
    refine s_gv E cvX3_101 T.rr (by decide) [.int (nI bN), .int 100] (c_giveFirst jb2 rfl (q := 100) rfl (Nat.le_refl _) eb (by dsimp only; omega)) rfl lvf rfl (Nat.le_of_ble_eq_true rfl) ⟨by omega, by omega⟩ dX3_work_186 (q := 189) rfl (fun ad2 G2 V2 n2 st2 => ?_)
    refine wr_189 E T hz ⟨by omega, by omega⟩ x _ ⟨rfl, ad2, G2, V2, n2, rfl, ?_⟩
    have sc := st.comp st2
    rw [s7] at sc
    rw [← eO]; exact sc
  · obtain ⟨sa, jbp, er⟩ := jb (by decide)
    obtain ⟨q, hq1, hq2, hq3⟩ := hv6 rfl
    refine wk_6 E T hz c0 x q13 hxv ?_
    rw [q14, q17, q16]
    have eO : tkL Q 6 (nI m) (Q 8 nN) (res (ix (Q 6 nN))) ([], 0, V0 6) 0 (tb (G0 24) sa (res aN).length) = O := by
      rw [← hO, ejb (by decide), ← er]; rfl
    refine s_gv E cvX3_104 T.rr (by decide) [.int (nI aN), .int (nI m), .int (Q 8 nN)] (c_giveFolded jbp rfl rfl hm6 hq3 hq1 hq2 eO hcap) rfl lvf rfl (Nat.le_of_ble_eq_true rfl) cz dX3_work_212 (q := 215) rfl (fun ad' G' V' n' st => ?_)
    exact wr_215 E T hz ce x _ ⟨rfl, ad', G', V', n', rfl, st⟩
  · obtain ⟨sa, jbp, er⟩ := jb (by decide)
    refine wk_7 E T hz c0 x q13 hxv ?_
    rw [q14]
    have eO : tkL Q 7 (nI m) (Q 8 nN) (res (ix (Q 6 nN))) ([], 0, V0 6) 0 (tb (G0 24) sa (res aN).length) = O := by
      rw [← hO, ejb (by decide), ← er]; rfl
    refine s_gv E cvX3_107 T.rr (by decide) [.int (nI aN)] (c_giveOnce jbp rfl eO hcap) rfl lvf rfl (Nat.le_of_ble_eq_true rfl) cz dX3_work_220 (q := 223) rfl (fun ad' G' V' n' st => ?_)
    exact wr_223 E T hz ce x _ ⟨rfl, ad', G', V', n', rfl, st⟩
  · obtain ⟨sa, jbp, er⟩ := jb (by decide)
    obtain ⟨sa', -, al⟩ := hA (by decide)
    obtain ⟨q, hq1, hq2, -⟩ := hv8 rfl
    refine wk_8 E T hz c0 x q13 hxv ?_
    rw [q14, q17]
    have eO : (tb (G0 24) sa (if q < (res aN).length then q else (res aN).length), 0, V0 6) = O := by
      rw [← hO, ejb (by decide)]
      unfold doS
      rw [if_neg (show ¬ (nI 8 : Int32) = 5 by decide), hq2, show (nI 8 : Int32) = 8 from rfl, tkL_8 hq1 _ _ _ _ (by omega), List.nil_append, Nat.sub_zero]
      congr 1
      conv => rhs; rw [er]
      rw [tb_take]
    refine s_gv E cvX3_101 T.rr (by decide) [.int (nI aN), .int (Q 8 nN)] (c_giveFirst jbp rfl hq2 hq1 eO hcap) rfl lvf rfl (Nat.le_of_ble_eq_true rfl) cz dX3_work_237 (q := 240) rfl (fun ad' G' V' n' st => ?_)
    exact wr_240 E T hz ce x _ ⟨rfl, ad', G', V', n', rfl, st⟩
