/-! THE CLASS while it works a node: rows are laid behind u0 -/
def stC (ad0 : Nat → Nat) (G0 : Nat → Nat → Int32) (V0 : Nat → Int32) (n0 u0 : Nat) (ad : Nat → Nat) (G : Nat → Nat → Int32) (V : Nat → Int32) (n : Nat) (o : Ot) : Prop :=
  (∀ p, p ≠ 24 → ad p = ad0 p) ∧ (∀ p, p ≠ 24 → G p = G0 p) ∧ (∀ j, j < u0 → G 24 j = G0 24 j) ∧ o.1 = tb (G 24) u0 o.1.length ∧ V 2 = nI (u0 + 6 * o.1.length) ∧ V 5 = o.2.1 ∧ V 6 = o.2.2 ∧ (∀ j, j ≠ 2 → j ≠ 5 → j ≠ 6 → V j = V0 j) ∧ n = gw n0 (u0 + 6 * o.1.length)
def rw6 (R : Nat → Int32) : List Int32 := [R 0, R 1, R 2, R 3, R 4, R 5]
section STC
variable {ad0 : Nat → Nat} {G0 : Nat → Nat → Int32} {V0 : Nat → Int32} {n0 u0 : Nat} {ad : Nat → Nat} {G : Nat → Nat → Int32} {V : Nat → Int32} {n : Nat}
theorem stC.add {os : List (List Int32)} {e : Int32 × Int32} (h : stC ad0 G0 V0 n0 u0 ad G V n (os, e)) {R : Nat → Int32} {ad' : Nat → Nat} {G' : Nat → Nat → Int32} {u : Nat} (hu : u = u0 + 6 * os.length) (hp : aeP ad G u R ad' G') : stC ad0 G0 V0 n0 u0 ad' G' (upd V 2 (nI (u + 6))) (gw n (u + 6)) (os ++ [rw6 R], e) := by
  obtain ⟨h1, h2, h3, h4, h5, h6, h7, h8, h9⟩ := h
  obtain ⟨p1, p2, p3, p4⟩ := hp
  dsimp only at h4 h5 h6 h7 h9
  have eL : (os ++ [rw6 R]).length = os.length + 1 := by rw [List.length_append]; rfl
  have e6 : u + 6 = u0 + 6 * (os.length + 1) := by omega
  refine ⟨fun p hp => (p1 p hp).trans (h1 p hp), fun p hp => (p2 p hp).trans (h2 p hp), fun j hj => (p3 j (by omega)).trans (h3 j hj), ?_, ?_, h6, h7, fun j a b c => ?_, ?_⟩
  · dsimp only
    rw [eL, tb_succ]
    congr 1
    · refine h4.trans (tb_congr fun j hj => (p3 _ (by omega)).symm)
    · congr 1
      rw [← hu]
      unfold rw6 rd
      rw [show G' 24 u = R 0 from p4 0 (by omega), p4 1 (by omega), p4 2 (by omega), p4 3 (by omega), p4 4 (by omega), p4 5 (by omega)]
  · show upd V 2 _ 2 = _
    rw [eL, ← e6]; rfl
  · rw [pk_un a]; exact h8 j a b c
  · dsimp only
    rw [eL, ← e6, h9, gw_gw (by omega)]
theorem stC.ve {os : List (List Int32)} {f c : Int32} (h : stC ad0 G0 V0 n0 u0 ad G V n (os, f, c)) (p : Int32 × Int32) : stC ad0 G0 V0 n0 u0 ad G (VE V p) n (os, p.1, c + p.2) := by
  obtain ⟨h1, h2, h3, h4, h5, h6, h7, h8, h9⟩ := h
  refine ⟨h1, h2, h3, h4, h5, rfl, ?_, fun j a b c => ?_, h9⟩
  · show V 6 + p.2 = c + p.2
    rw [h7]
  · unfold VE; rw [pk_un c, pk_un b]; exact h8 j a b c
/-- one member of the last row -/
theorem stC.put {os : List (List Int32)} {r : List Int32} {e : Int32 × Int32} (h : stC ad0 G0 V0 n0 u0 ad G V n (os ++ [r], e)) {m q : Nat} {y : Int32} (hm : m < 6) (hq : q = u0 + 6 * os.length + m) : stC ad0 G0 V0 n0 u0 ad (ug G 24 q y) V n (os ++ [r.set m y], e) := by
  obtain ⟨h1, h2, h3, h4, h5, h6, h7, h8, h9⟩ := h
  have eL : (os ++ [r]).length = os.length + 1 := by rw [List.length_append]; rfl
  have eL2 : (os ++ [r.set m y]).length = os.length + 1 := by rw [List.length_append]; rfl
  dsimp only at h4 h5 h9
  rw [eL, tb_succ] at h4
  have h4a : os = tb (G 24) u0 os.length := (List.append_inj h4 (by rw [tb_len])).1
  have h4b : r = rd (G 24) (u0 + 6 * os.length) := by
    have := (List.append_inj h4 (by rw [tb_len])).2
    simpa using this
  refine ⟨h1, fun p hp => by rw [ug_other hp]; exact h2 p hp, fun j hj => by rw [ug_i (by omega)]; exact h3 j hj, ?_, ?_, h6, h7, h8, ?_⟩
  · dsimp only
    rw [eL2, tb_succ]
    congr 1
    · refine h4a.trans (tb_congr fun j hj => ?_)
      rw [ug_i (by omega)]
    · congr 1
      have : ug G 24 q y 24 = fun j => if j = u0 + 6 * os.length + m then y else G 24 j := by
        funext j; rw [ug_if2, hq]
      rw [this, rd_set hm, ← h4b]
  · dsimp only; rw [eL2, ← eL]; exact h5
  · dsimp only; rw [eL2, ← eL]; exact h9
theorem stC.old {o : Ot} (h : stC ad0 G0 V0 n0 u0 ad G V n o) {r : Nat} (hr : r + 6 ≤ u0) : rd (G 24) r = rd (G0 24) r := rd_congr fun m hm => h.2.2.1 _ (by omega)
theorem stC.room {o : Ot} (h : stC ad0 G0 V0 n0 u0 ad G V n o) (hn : gch n0) (hc : u0 + 6 * o.1.length ≤ 36000) : gch n ∧ u0 + 6 * o.1.length ≤ n ∧ n ≤ 36000 := by
  obtain ⟨_, _, _, _, _, _, _, _, h9⟩ := h
  rw [h9]
  exact ⟨gw_ch hn, gw_ge hc, (gch_le (gw_ch hn)).2⟩
theorem stC.begin (hn : gch n0) (hu : u0 ≤ n0) (h2 : V0 2 = nI u0) (h5 : V0 5 = 0) : stC ad0 G0 V0 n0 u0 ad0 G0 V0 n0 ([], 0, V0 6) :=
  ⟨fun _ _ => rfl, fun _ _ => rfl, fun _ _ => rfl, rfl, h2, h5, rfl, fun _ _ _ _ => rfl, (gw_id hn hu).symm⟩
end STC
theorem foldL_ge {m k : Nat} {row : List Int32} : ∀ os : List (List Int32), os.length ≤ (foldL m k row os).length
  | [] => by simp
  | o :: os => by
    unfold foldL
    by_cases h : o.getD m 0 = row.getD m 0
    · rw [if_pos h]; simp
    · rw [if_neg h]; have := foldL_ge (m := m) (k := k) (row := row) os; simp only [List.length_cons]; omega
theorem tkS_ge {F : Nat → Nat → Int32} {kind m v : Int32} {bs : List (List Int32)} {o : Ot} {i : Nat} {row : List Int32} : o.1.length ≤ (tkS F kind m v bs o i row).1.length := by
  have hf := foldL_ge (m := ix m) (k := ix v) (row := row) o.1
  unfold tkS
  repeat' split
  all_goals (try dsimp only)
  all_goals (try split)
  all_goals (first | exact Nat.le_refl _ | exact hf | (rw [List.length_append]; exact Nat.le_add_right _ _))
theorem tkL_ge {F : Nat → Nat → Int32} {kind m v : Int32} {bs : List (List Int32)} : ∀ (rs : List (List Int32)) (o : Ot) (i : Nat), o.1.length ≤ (tkL F kind m v bs o i rs).1.length
  | [], o, i => Nat.le_refl _
  | r :: rs, o, i => by
    show _ ≤ (if o.2.1 = 0 then tkL F kind m v bs (tkS F kind m v bs o i r) (i + 1) rs else o).1.length
    by_cases c : o.2.1 = 0
    · rw [if_pos c]; exact Nat.le_trans tkS_ge (tkL_ge rs _ _)
    · rw [if_neg c]; exact Nat.le_refl _
abbrev kC (n0 u0 : Nat) (o : Ot) : Nat := kc n0 (u0 + 6 * o.1.length)
abbrev kS (n0 u0 : Nat) (o : Ot) : Nat := ks n0 (u0 + 6 * o.1.length)
/-- a loop over the rows of a: each turn takes one row more -/
theorem gv_loop {z : Zt} {ad0 : Nat → Nat} {G0 : Nat → Nat → Int32} {V0 : Nat → Int32} {n0 u0 : Nat} {F : Nat → Nat → Int32} {kind m v : Int32} {bs rows : List (List Int32)} {O : Ot} {PC sa : Nat} {lvf : Nat → Int32 → Lv}
    (body : ∀ (i : Nat) (row : List Int32) (ad : Nat → Nat) (G : Nat → Nat → Int32) (V : Nat → Int32) (n : Nat) (o : Ot), rows[i]? = some row → stC ad0 G0 V0 n0 u0 ad G V n o → o.2.1 = 0 → (tkS F kind m v bs o i row).1.length ≤ O.1.length → o.1.length ≤ O.1.length →
      (∀ (ad' : Nat → Nat) (G' : Nat → Nat → Int32) (V' : Nat → Int32) (n' : Nat), stC ad0 G0 V0 n0 u0 ad' G' V' n' (tkS F kind m v bs o i row) → (tkS F kind m v bs o i row).2.1 = 0 → WW z (kC n0 u0 (tkS F kind m v bs o i row)) (kS n0 u0 (tkS F kind m v bs o i row)) (WC (zk z) ad' G' V' n') PC (lvf (ad' 23) (nI (sa + 6 * (i + 1)))) []) →
      (¬ (tkS F kind m v bs o i row).2.1 = 0 → tkS F kind m v bs o i row = O) → WW z (kC n0 u0 o) (kS n0 u0 o) (WC (zk z) ad G V n) PC (lvf (ad 23) (nI (sa + 6 * i))) [])
    (exit : ∀ (ad : Nat → Nat) (G : Nat → Nat → Int32) (V : Nat → Int32) (n : Nat), stC ad0 G0 V0 n0 u0 ad G V n O → WW z (kC n0 u0 O) (kS n0 u0 O) (WC (zk z) ad G V n) PC (lvf (ad 23) (nI (sa + 6 * rows.length))) []) :
    ∀ (N i : Nat) (ad : Nat → Nat) (G : Nat → Nat → Int32) (V : Nat → Int32) (n : Nat) (o : Ot), rows.length ≤ i + N → i ≤ rows.length → stC ad0 G0 V0 n0 u0 ad G V n o → o.2.1 = 0 → tkL F kind m v bs o i (rows.drop i) = O → WW z (kC n0 u0 o) (kS n0 u0 o) (WC (zk z) ad G V n) PC (lvf (ad 23) (nI (sa + 6 * i))) [] := by
  intro N
  induction N with
  | zero =>
    intro i ad G V n o h1 h2 st h0 hO
    have e : i = rows.length := by omega
    subst e
    rw [List.drop_length] at hO
    have hO : o = O := hO
    subst hO
    exact exit ad G V n st
  | succ N ih =>
    intro i ad G V n o h1 h2 st h0 hO
    rcases Nat.lt_or_ge i rows.length with q | q
    · have hg : rows[i]? = some rows[i] := List.getElem?_eq_getElem q
      rw [List.drop_eq_getElem_cons q] at hO
      have hO2 : tkL F kind m v bs (tkS F kind m v bs o i rows[i]) (i + 1) (rows.drop (i + 1)) = O := by
        rw [← hO]
        show _ = if o.2.1 = 0 then _ else o
        rw [if_pos h0]
      have l2 := tkL_ge (F := F) (kind := kind) (m := m) (v := v) (bs := bs) (rows.drop (i + 1)) (tkS F kind m v bs o i rows[i]) (i + 1)
      rw [hO2] at l2
      refine body i rows[i] ad G V n o hg st h0 l2 (Nat.le_trans tkS_ge l2) (fun ad' G' V' n' st' h0' => ih (i + 1) ad' G' V' n' _ (by omega) (by omega) st' h0' hO2) (fun hf => ?_)
      rw [← hO2]
      cases hd : rows.drop (i + 1) with
      | nil => rfl
      | cons r rs => show _ = if _ = 0 then _ else _; rw [if_neg hf]
    · have e : i = rows.length := by omega
      subst e
      rw [List.drop_length] at hO
      have hO : o = O := hO
      subst hO
      exact exit ad G V n st
/-! formulas under two sets of arrays -/
def agF (G Q : Nat → Nat → Int32) (nf : Nat) : Prop := (∀ i, i < nf → G 6 i = Q 0 i ∧ G 7 i = Q 1 i ∧ (∀ kd : Nat, Q 0 i = nI kd → 2 ≤ kd → kd < 12 → kd ≠ 6 → kd ≠ 11 → G 8 i = Q 2 i)) ∧ ∀ i, i < 8 → G 4 i = Q 3 i
theorem agF.fw {G Q : Nat → Nat → Int32} {nf : Nat} (ag : agF G Q nf) (hW : FW (Q 0) (Q 1) (Q 2) nf) : FW (G 6) (G 7) (G 8) nf := by
  intro i hi
  obtain ⟨kd, h1, h2, h3, h4, h5⟩ := hW i hi
  obtain ⟨a1, a2, a3⟩ := ag.1 i hi
  exact ⟨kd, h1, a1.trans h2, fun e => by rw [a2]; exact h3 e, fun e => by rw [a2]; exact h4 e, fun e e6 e11 => by rw [a3 kd h2 e h1 e6 e11]; exact h5 e e6 e11⟩
theorem evS_ag {G Q : Nat → Nat → Int32} {nf : Nat} {ro ro' : Nat → Int32} (hnf : nf ≤ 40) (ag : agF G Q nf) (hW : FW (Q 0) (Q 1) (Q 2) nf) (h : ∀ m, m < 6 → ro m = ro' m) : ∀ (d : Nat) (f : Int32) (j : Nat), f = nI j → j < nf → evS (G 6) (G 7) (G 8) (G 4) ro d f = evS (Q 0) (Q 1) (Q 2) (Q 3) ro' d f := by
  intro d
  induction d with
  | zero => intros; rfl
  | succ d ih =>
    intro f j hf hj
    have hij : ix f = j := by rw [hf]; exact ix_nI (by omega)
    obtain ⟨kd, hk1, hk2, hk3, hk4, hk5⟩ := hW j hj
    obtain ⟨a1, a2, a3⟩ := ag.1 j hj
    have eI : ∀ (kind : Int32) (p q : Int32 × Int32 × Int32), evR (G 4) kind p q = evR (Q 3) kind p q := by
      intro kind p q
      unfold evR
      by_cases hp : p.2.1 = 0
      · rw [if_pos hp, if_pos hp]
        by_cases h6 : kind = 6
        · rw [if_pos h6, if_pos h6]
          by_cases hi : fX4_hasItem p.1 = 0
          · rw [if_pos hi, if_pos hi]
          · rw [if_neg hi, if_neg hi]
            have hlt : ix p.1 < 8 := by
              unfold fX4_hasItem at hi
              by_cases c1 : p.1 < 0
              · rw [if_pos c1] at hi; exact absurd rfl hi
              · rw [if_neg c1] at hi
                by_cases c2 : 8 ≤ p.1
                · rw [if_pos c2] at hi; exact absurd rfl hi
                · obtain ⟨t, ht, e⟩ := nI_of c1
                  rw [e, show (8 : Int32) = nI 8 from rfl, nI_leI (by omega) ht] at c2
                  rw [e, ix_nI ht]; omega
            rw [ag.2 _ hlt]
        · rw [if_neg h6, if_neg h6]
      · rw [if_neg hp, if_neg hp]
    have eK : Q 0 (ix f) = nI kd := by rw [hij]; exact hk2
    show (if G 6 (ix f) = 0 then _ else if G 6 (ix f) = 1 then _ else _ : Int32 × Int32 × Int32) = (if Q 0 (ix f) = 0 then _ else if Q 0 (ix f) = 1 then _ else _ : Int32 × Int32 × Int32)
    rw [show G 6 (ix f) = Q 0 (ix f) by rw [hij]; exact a1, show G 7 (ix f) = Q 1 (ix f) by rw [hij]; exact a2]
    by_cases c0 : Q 0 (ix f) = 0
    · rw [if_pos c0, if_pos c0]
      have k0 : kd = 0 := by
        rcases Nat.eq_zero_or_pos kd with q | q
        · exact q
        · exact absurd (eK.symm.trans c0) (nI_ne0 q (by omega))
      obtain ⟨m, hm1, hm2⟩ := hk3 k0
      rw [hij, hm2, ix_nI (by omega), h m hm1]
    · rw [if_neg c0, if_neg c0]
      by_cases c1 : Q 0 (ix f) = 1
      · rw [if_pos c1, if_pos c1]
      · rw [if_neg c1, if_neg c1]
        have h2 : 2 ≤ kd := by
          rcases Nat.lt_or_ge kd 2 with q | q
          · rcases (show kd = 0 ∨ kd = 1 by omega) with rfl | rfl
            · exact absurd eK c0
            · exact absurd eK c1
          · exact q
        obtain ⟨x, hx1, hx2⟩ := hk4 h2
        have e1 := ih (Q 1 (ix f)) x (by rw [hij]; exact hx2) (by omega)
        rw [e1, eI]
        by_cases t : kd ≠ 6 ∧ kd ≠ 11
        · obtain ⟨y, hy1, hy2⟩ := hk5 h2 t.1 t.2
          rw [show G 8 (ix f) = Q 2 (ix f) by rw [hij]; exact a3 kd hk2 h2 hk1 t.1 t.2]
          have e2 := ih (Q 2 (ix f)) y (by rw [hij]; exact hy2) (by omega)
          rw [e2]
        · have e3 : ∀ p q q', evR (Q 3) (Q 0 (ix f)) p q = evR (Q 3) (Q 0 (ix f)) p q' := by
            intro p q q'
            unfold evR
            by_cases hp : p.2.1 = 0
            · rw [if_pos hp, if_pos hp]
              by_cases h6 : Q 0 (ix f) = 6
              · rw [if_pos h6, if_pos h6]
              · have h11 : Q 0 (ix f) = 11 := by
                  rcases Nat.decEq kd 11 with q | q
                  · have : kd = 6 := by
                      rcases Nat.decEq kd 6 with q2 | q2
                      · exact absurd ⟨q2, q⟩ t
                      · exact q2
                    exact absurd (by rw [eK, this]; rfl) h6
                  · rw [eK, q]; rfl
                rw [if_neg h6, if_neg h6, if_pos h11, if_pos h11]
            · rw [if_neg hp, if_neg hp]
          rw [e3 _ (evS (G 6) (G 7) (G 8) (G 4) ro d (G 8 (ix f))) (evS (Q 0) (Q 1) (Q 2) (Q 3) ro' d (Q 2 (ix f)))]
/-- a call of valueOf -/
theorem r_vo {z : Zt} {cc : ByteArray} (E : EN z cc RX3) {d mx sx cells slots : Nat} (hR : RR z d mx sx) (hdl : 82 < d) {ad : Nat → Nat} {G Q : Nat → Nat → Int32} {V : Nat → Int32} {n nf r j : Nat} (hnf : nf ≤ 40) (hW : FW (Q 0) (Q 1) (Q 2) nf) (ag : agF G Q nf) {x f : Int32} (hx : x = nI r) (hr : r + 6 ≤ n) (hn : n < 2 ^ 31) (hf : f = nI j) (hj : j < nf) (h5 : V 5 = 0) {lv : Lv} {rest : List Value} (hcat : (rest.map fun v => v.category).sum ≤ 8) (hcs : cells ≤ mx ∧ slots ≤ sx) {pc q : Nat} (hd : decode cc pc = .ok (.invokevirtual 130, 3)) (hq : pc + 3 = q)
    (k : WW z cells slots (WC (zk z) ad G (VE V (ev Q f (rd (G 24) r)).2) n) q lv (.int (ev Q f (rd (G 24) r)).1 :: rest)) :
    WW z cells slots (WC (zk z) ad G V n) pc lv (.int x :: .int f :: .ref (ad 23) :: rest) := by
  have h := c_valueOf (l := zl z) (k := zk z) (ad := ad) (G := G) (n := n) hnf (ag.fw hW) hx hr hn 40 V f j hf hj (by omega) h5
  have e : evS (G 6) (G 7) (G 8) (G 4) (fun m => G 24 (r + m)) 40 f = ev Q f (rd (G 24) r) := evS_ag hnf ag hW (fun m hm => (rd_get hm).symm) 40 f j hf hj
  rw [e] at h
  exact rVi E cvX3_130 hR 23 wc_23 rfl [.int f, .int x] h hdl rfl rfl hcat hcs hd hq k
