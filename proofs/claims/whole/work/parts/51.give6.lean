theorem nI_sub6 {s L : Nat} : nI (s + 6 * L) - nI s = nI (6 * L) := by
  rw [Nat.add_comm, ← nI_add]
  exact Int32.add_sub_cancel _ _
theorem nI_div6 {L : Nat} (h : 6 * L < 2 ^ 31) : nI (6 * L) / 6 = nI L := by
  apply Int32.toInt_inj.mp
  rw [Int32.toInt_div, nI_toInt h, nI_toInt (by omega)]
  have e : ((6 * L : Nat) : Int).tdiv (6 : Int32).toInt = (L : Int) := by
    rw [show (6 : Int32).toInt = 6 from rfl, Int.tdiv_eq_ediv_of_nonneg (by omega)]; omega
  rw [e]
  exact Int.bmod_eq_of_le (by omega) (by omega)
/-! GIVE: a run of the class -/
def wkU (Q : Nat → Nat → Int32) (p : RSt × Nat) (n : Nat) : RSt × Nat := (wkN Q p.1 n, if p.1.2.1 = 0 then p.2 + 6 * (jobS Q p.1.1 n p.1.2.2.1).1.length else p.2)
def rsU (Q : Nat → Nat → Int32) (D : List Nat) : Nat := (D.foldl (wkU Q) ((fun _ => [], 0, 0, 0, -1), 0)).2
theorem wkU_fst (Q : Nat → Nat → Int32) : ∀ (D : List Nat) (p : RSt × Nat), (D.foldl (wkU Q) p).1 = D.foldl (wkN Q) p.1
  | [], _ => rfl
  | n :: D, p => by
    show (D.foldl (wkU Q) (wkU Q p n)).1 = D.foldl (wkN Q) (wkN Q p.1 n)
    rw [wkU_fst Q D]; rfl
theorem rsU_snoc (Q : Nat → Nat → Int32) (D : List Nat) (n : Nat) : rsU Q (D ++ [n]) = if (rsL Q D).2.1 = 0 then rsU Q D + 6 * (jobS Q (rsL Q D).1 n (rsL Q D).2.2.1).1.length else rsU Q D := by
  have e : (D.foldl (wkU Q) ((fun _ => [], 0, 0, 0, -1), 0)).1 = rsL Q D := wkU_fst Q D _
  unfold rsU
  rw [List.foldl_append]
  show (wkU Q (D.foldl (wkU Q) ((fun _ => [], 0, 0, 0, -1), 0)) n).2 = _
  unfold wkU
  dsimp only
  unfold wkU at e
  rw [e]
theorem rsU_le (Q : Nat → Nat → Int32) : ∀ (E D : List Nat), rsU Q D ≤ rsU Q (D ++ E)
  | [], D => by rw [List.append_nil]; exact Nat.le_refl _
  | e :: E, D => by
    have h1 : rsU Q D ≤ rsU Q (D ++ [e]) := by
      rw [rsU_snoc]; split <;> omega
    have h2 := rsU_le Q E (D ++ [e])
    rw [List.append_assoc] at h2
    exact Nat.le_trans h1 h2
theorem rsU_stop {Q : Nat → Nat → Int32} : ∀ (E D : List Nat), ¬ (rsL Q D).2.1 = 0 → rsU Q (D ++ E) = rsU Q D
  | [], D, _ => by rw [List.append_nil]
  | e :: E, D, h => by
    have h1 : rsU Q (D ++ [e]) = rsU Q D := by rw [rsU_snoc, if_neg h]
    have h2 := rsU_stop E (D ++ [e]) (by rw [rsL_stop h]; exact h)
    rw [List.append_assoc] at h2
    exact h2.trans h1
/-- what stands below a node of the order stands before it -/
def ODr (Q : Nat → Nat → Int32) (D : List Nat) : Prop := ∀ i n, D[i]? = some n → (¬ Q 4 n = 0 → ix (Q 5 n) ∈ D.take i) ∧ (Q 4 n = 4 ∨ Q 4 n = 5 → ix (Q 6 n) ∈ D.take i)
theorem ODr.snoc {Q : Nat → Nat → Int32} {D : List Nat} {n : Nat} (h : ODr Q D) (h1 : ¬ Q 4 n = 0 → ix (Q 5 n) ∈ D) (h2 : Q 4 n = 4 ∨ Q 4 n = 5 → ix (Q 6 n) ∈ D) : ODr Q (D ++ [n]) := by
  intro i y hy
  have hi := (List.getElem?_eq_some_iff.mp hy).1
  rw [List.length_append] at hi
  have hi : i < D.length + 1 := hi
  rcases Nat.lt_or_ge i D.length with q | q
  · rw [List.getElem?_append_left q] at hy
    rw [List.take_append_of_le_length (by omega)]
    exact h i y hy
  · have e : i = D.length := by omega
    subst e
    rw [List.getElem?_append_right (Nat.le_refl _), Nat.sub_self] at hy
    have : n = y := by simpa using hy
    subst this
    rw [List.take_append_of_le_length (Nat.le_refl _), List.take_of_length_le (Nat.le_refl _)]
    exact ⟨h1, h2⟩
theorem pst_od {Q : Nat → Nat → Int32} {nn nf : Nat} {bd rk : Nat → Nat} (okp : okP Q nn nf bd rk) : ∀ (d n : Nat) (D : List Nat), ODr Q D → n < nn → rk n < d → ODr Q (pst Q d n D) := by
  intro d
  induction d with
  | zero => intro n D _ _ h; exact absurd h (Nat.not_lt_zero _)
  | succ d ih =>
    intro n D hD hn hr
    have hnn := okp.1
    obtain ⟨kd, m, aN, bN, ok⟩ := okp.2.2.2.2.2 n hn
    obtain ⟨k8, hk, hm6, hm, hbd, ha, ha0, ha1, hb, -⟩ := ok
    have kz : nI kd = 0 ↔ kd = 0 := by rw [show (0 : Int32) = nI 0 from rfl, nI_eq (by omega) (by omega)]
    have k4 : nI kd = 4 ↔ kd = 4 := by rw [show (4 : Int32) = nI 4 from rfl, nI_eq (by omega) (by omega)]
    have k5 : nI kd = 5 ↔ kd = 5 := by rw [show (5 : Int32) = nI 5 from rfl, nI_eq (by omega) (by omega)]
    show ODr Q (if n ∈ D then D else _ ++ [n])
    by_cases c : n ∈ D
    · rw [if_pos c]; exact hD
    · rw [if_neg c, hk]
      simp only [kz, k4, k5]
      have g1 : ODr Q (if kd = 0 then D else pst Q d (ix (Q 5 n)) D) := by
        by_cases c0 : kd = 0
        · rw [if_pos c0]; exact hD
        · rw [if_neg c0, ha, ix_nI (by have := (ha1 c0).1; omega)]
          exact ih aN D hD (ha1 c0).1 (by have := (ha1 c0).2; omega)
      have m1 : kd ≠ 0 → ix (Q 5 n) ∈ (if kd = 0 then D else pst Q d (ix (Q 5 n)) D) := fun e => by
        have := (ha1 e).2
        obtain ⟨f, rfl⟩ : ∃ f, d = f + 1 := ⟨d - 1, by omega⟩
        rw [if_neg e]; exact pst_mem _ _ _ _
      generalize (if kd = 0 then D else pst Q d (ix (Q 5 n)) D) = D1 at g1 m1
      by_cases c4 : kd = 4 ∨ kd = 5
      · rw [if_pos c4]
        have br := (hb c4).2.2
        refine ODr.snoc ?_ (fun e => ?_) (fun _ => ?_)
        · rw [(hb c4).2.1, ix_nI (by have := (hb c4).1; omega)]
          exact ih bN D1 g1 (hb c4).1 (by omega)
        · obtain ⟨E, hE⟩ := pst_ext Q d (ix (Q 6 n)) D1
          rw [hE]; exact List.mem_append_left _ (m1 (by omega))
        · obtain ⟨f, rfl⟩ : ∃ f, d = f + 1 := ⟨d - 1, by omega⟩
          exact pst_mem _ _ _ _
      · rw [if_neg c4]
        refine g1.snoc (fun e => m1 (fun w => e (by rw [hk, w]; rfl))) (fun e => absurd ?_ c4)
        rw [hk] at e
        exact e.elim (fun w => Or.inl (k4.mp w)) (fun w => Or.inr (k5.mp w))
/-- the class in the midst of a run: the nodes D are worked -/
def mmC (Q : Nat → Nat → Int32) (bd : Nat → Nat) (ad0 : Nat → Nat) (G0 : Nat → Nat → Int32) (V0 : Nat → Int32) (n0 : Nat) (D : List Nat) (ad : Nat → Nat) (G : Nat → Nat → Int32) (V : Nat → Int32) (n : Nat) : Prop :=
  (∀ p, p ≠ 24 → ad p = ad0 p) ∧ (∀ p, p ≠ 24 → p ≠ 25 → p ≠ 26 → G p = G0 p) ∧ (∀ j, j = 0 ∨ j = 1 ∨ j = 9 → V j = V0 j) ∧ V 2 = nI (rsU Q D) ∧ V 5 = (rsL Q D).2.1 ∧ V 6 = (rsL Q D).2.2.1 ∧ V 7 = (rsL Q D).2.2.2.1 ∧ V 8 = (rsL Q D).2.2.2.2 ∧ n = gw n0 (rsU Q D) ∧ rsU Q D ≤ 600 * D.length ∧ ((rsL Q D).2.1 = 0 → (rsL Q D).2.2.2.2 = -1) ∧ ∀ j, j ∈ D → ∃ s, stoR G (rsU Q D) j s ((rsL Q D).1 j) ∧ ((rsL Q D).1 j).length ≤ bd j
/-- what a run of the class leaves -/
def rnC (Q : Nat → Nat → Int32) (ad0 : Nat → Nat) (G0 : Nat → Nat → Int32) (V0 : Nat → Int32) (n0 n u : Nat) (s : RSt) (ad' : Nat → Nat) (G' : Nat → Nat → Int32) (V' : Nat → Int32) (n' : Nat) : Prop :=
  (∀ p, p ≠ 24 → ad' p = ad0 p) ∧ (∀ p, p ≠ 20 → p ≠ 21 → p ≠ 22 → p ≠ 24 → p ≠ 25 → p ≠ 26 → G' p = G0 p) ∧ (∀ j, j = 0 ∨ j = 1 ∨ j = 9 → V' j = V0 j) ∧ V' 5 = s.2.1 ∧ V' 6 = s.2.2.1 ∧ V' 7 = s.2.2.2.1 ∧ V' 8 = s.2.2.2.2 ∧ V' 4 = (if s.2.1 = 0 then nI (s.1 n).length else 0) ∧ (s.2.1 = 0 → ∃ st : Nat, V' 3 = nI st ∧ (s.1 n).length ≤ 100 ∧ s.1 n = tb (G' 24) st (s.1 n).length ∧ st + 6 * (s.1 n).length ≤ n') ∧ n' = gw n0 u
set_option maxHeartbeats 1600000 in
theorem c_give {l : Launch} {k : Kt} {ad0 : Nat → Nat} {G0 Q : Nat → Nat → Int32} {V0 : Nat → Int32} {n0 nn nf n : Nat} {bd rk : Nat → Nat} {x : Int32} (okp : okP Q nn nf bd rk) (ag : agQ G0 Q nn nf) (hx : x = nI n) (hn : n < nn) (hg : gch n0) :
    CT l k yX3_give cX3_give 5 (some .int) 85 [.ref (ad0 23), .int x] (WC k ad0 G0 V0 n0) (fun v w' => v = some (.int (runA (rsL Q (pst Q 60 n [])) n)) ∧ ∃ (ad' : Nat → Nat) (G' : Nat → Nat → Int32) (V' : Nat → Int32) (n' : Nat), w' = WC k ad' G' V' n' ∧ rnC Q ad0 G0 V0 n0 n (rsU Q (pst Q 60 n [])) (rsL Q (pst Q 60 n [])) ad' G' V' n') (kc n0 (rsU Q (pst Q 60 n []))) (ks n0 (rsU Q (pst Q 60 n []))) := by
  refine ct_of (own := RX3) (lv0 := [(0, .ref (ad0 23)), (1, .int x)]) (by decide) rfl (Nat.le_of_ble_eq_true rfl) rfl ?_
  rintro z rfl rfl hz - E T
  have hnn := okp.1
  have exn : ix x = n := by rw [hx]; exact ix_nI (by omega)
  have hxv : vp_in x 60 := by rw [hx]; exact vp_in_nI (by omega) (by omega)
  have od : ODr Q (pst Q 60 n []) := pst_od okp 60 n [] (fun i y h => by simp at h) hn (okp.2.2.2.2.1 n hn)
  have hmem : n ∈ pst Q 60 n [] := pst_mem _ 59 n []
  generalize hD : pst Q 60 n [] = D at *
  obtain ⟨PP, hPP⟩ : ∃ PP : Option Value → va_W → Prop, PP = (fun v w' => v = some (.int (runA (rsL Q D) n)) ∧ ∃ (ad' : Nat → Nat) (G' : Nat → Nat → Int32) (V' : Nat → Int32) (n' : Nat), w' = WC (zk z) ad' G' V' n' ∧ rnC Q ad0 G0 V0 n0 n (rsU Q D) (rsL Q D) ad' G' V' n') := ⟨_, rfl⟩
  rw [← hPP] at T
  have k0 : 0 ≤ kc n0 (rsU Q D) ∧ 0 ≤ ks n0 (rsU Q D) := ⟨Nat.zero_le _, Nat.zero_le _⟩
  refine ga_a E T hz k0 x ?_
  generalize hV1 : upd (upd (upd (upd (upd V0 2 0) 5 0) 6 0) 7 0) 8 (-1) = V1
  have agn : ∀ i, i < nn → G0 13 i = Q 4 i ∧ G0 14 i = Q 5 i ∧ G0 15 i = Q 6 i := fun i hi => ⟨(ag.2.1 i hi).1, (ag.2.1 i hi).2.1, (ag.2.1 i hi).2.2.1⟩
  refine rV E cvX3_51 T.rr Fr.all 12 wc_12 rfl [.int x] (c_listFrom (l := zl z) (k := zk z) (ad := ad0) (G0 := G0) (V := V1) (n9 := n0) okp agn hx hn) (by decide) rfl rfl (Nat.le_of_ble_eq_true rfl) ⟨by omega, by omega⟩ dX3_give_30 (fun v w' h => ?_)
  obtain ⟨rfl, G1, rfl, li, nd, al⟩ := h
  rw [hD] at li nd al
  rw [hD]
  obtain ⟨l1, l2, l3⟩ := li
  have hl60 := nodup_len nn D nd al
  have ag1 : agQ G1 Q nn nf := ag.to (fun p a b c _ _ _ => l1 p a b c)
  -- behind the loop
  have fin : ∀ (ad : Nat → Nat) (G : Nat → Nat → Int32) (V : Nat → Int32) (nL : Nat), (∀ p, p ≠ 24 → ad p = ad0 p) → (∀ p, p ≠ 24 → p ≠ 25 → p ≠ 26 → G p = G1 p) → (∀ j, j = 0 ∨ j = 1 ∨ j = 9 → V j = V1 j) → V 5 = (rsL Q D).2.1 → V 6 = (rsL Q D).2.2.1 → V 7 = (rsL Q D).2.2.2.1 → V 8 = (rsL Q D).2.2.2.2 → nL = gw n0 (rsU Q D) → rsU Q D ≤ 36000 → ((rsL Q D).2.1 = 0 → ∃ s, stoR G (rsU Q D) n s ((rsL Q D).1 n) ∧ ((rsL Q D).1 n).length ≤ bd n) → WW z (kc n0 (rsU Q D)) (ks n0 (rsU Q D)) (WC (zk z) ad G V nL) 120 [(0, .ref (ad 23)), (1, .int x)] [] := by
    intro ad G V nL a1 g1 v1 v5 v6 v7 v8 en hU hs
    refine ga_e E T hz ⟨Nat.le_refl _, Nat.le_refl _⟩ x hxv (fun _ => hxv) ?_
    have w5 : (upd V 3 (G 25 (ix x))) 5 = V 5 := rfl
    rw [w5]
    generalize hr : (if V 5 = 0 then (G 26 (ix x) - G 25 (ix x)) / 6 else 0 : Int32) = r9
    have hans : (if (upd (upd V 3 (G 25 (ix x))) 4 r9) 5 = 0 then (upd (upd V 3 (G 25 (ix x))) 4 r9) 4 else (-10) - (upd (upd V 3 (G 25 (ix x))) 4 r9) 5 : Int32) = if V 5 = 0 then r9 else (-10) - V 5 := rfl
    rw [hans, hPP]
    have hV' : ∀ j, j ≠ 3 → j ≠ 4 → (upd (upd V 3 (G 25 (ix x))) 4 r9) j = V j := fun j a b => by simp only [upd, if_neg a, if_neg b]
    have hvo : ∀ j, j = 0 ∨ j = 1 ∨ j = 9 → (upd (upd V 3 (G 25 (ix x))) 4 r9) j = V0 j := fun j hj => by
      rw [hV' j (by omega) (by omega), v1 j hj, ← hV1]
      rcases hj with rfl | rfl | rfl <;> rfl
    have hgo : ∀ p, p ≠ 20 → p ≠ 21 → p ≠ 22 → p ≠ 24 → p ≠ 25 → p ≠ 26 → G p = G0 p := fun p a b c d e f => (g1 p d e f).trans (l1 p a b c)
    by_cases hf : (rsL Q D).2.1 = 0
    · obtain ⟨s, ⟨s1, s2, s3, s4, s5⟩, hb⟩ := hs hf
      obtain ⟨_, _, _, _, okn⟩ := okp.2.2.2.2.2 n hn
      have l100 : ((rsL Q D).1 n).length ≤ 100 := by have := okn.2.2.2.2.1; omega
      have er : r9 = nI ((rsL Q D).1 n).length := by
        rw [← hr, if_pos (v5.trans hf), exn, s2, s3, nI_sub6, nI_div6 (by omega)]
      refine ⟨?_, ad, G, _, nL, rfl, a1, hgo, hvo, (hV' 5 (by decide) (by decide)).trans v5, (hV' 6 (by decide) (by decide)).trans v6, (hV' 7 (by decide) (by decide)).trans v7, (hV' 8 (by decide) (by decide)).trans v8, ?_, fun _ => ⟨s, ?_, l100, s5, ?_⟩, en⟩
      · unfold runA; rw [if_pos hf, if_pos (v5.trans hf), er]
      · rw [if_pos hf]; exact er
      · show G 25 (ix x) = _
        rw [exn]; exact s2
      · rw [en]; exact Nat.le_trans s4 (gw_ge hU)
    · have er : r9 = 0 := by rw [← hr, if_neg (by rw [v5]; exact hf)]
      refine ⟨?_, ad, G, _, nL, rfl, a1, hgo, hvo, (hV' 5 (by decide) (by decide)).trans v5, (hV' 6 (by decide) (by decide)).trans v6, (hV' 7 (by decide) (by decide)).trans v7, (hV' 8 (by decide) (by decide)).trans v8, ?_, fun e => absurd e hf, en⟩
      · unfold runA; rw [if_neg hf, if_neg (by rw [v5]; exact hf), v5]
      · rw [if_neg hf]; exact er
  -- the loop
  have main : ∀ (N i : Nat) (ad : Nat → Nat) (G : Nat → Nat → Int32) (V : Nat → Int32) (nL : Nat), D.length ≤ i + N → i ≤ D.length → mmC Q bd ad0 G1 V1 n0 (D.take i) ad G V nL → WW z (kc n0 (rsU Q (D.take i))) (ks n0 (rsU Q (D.take i))) (WC (zk z) ad G V nL) 36 [(0, .ref (ad 23)), (1, .int x), (2, .int (nI D.length)), (3, .int (nI i))] [] := by
    have exit : ∀ (i : Nat) (ad : Nat → Nat) (G : Nat → Nat → Int32) (V : Nat → Int32) (nL : Nat), i ≤ D.length → mmC Q bd ad0 G1 V1 n0 (D.take i) ad G V nL → (i = D.length ∨ ¬ (rsL Q (D.take i)).2.1 = 0) → WW z (kc n0 (rsU Q (D.take i))) (ks n0 (rsU Q (D.take i))) (WC (zk z) ad G V nL) 120 [(0, .ref (ad 23)), (1, .int x)] [] := by
      intro i ad G V nL hi mm hc
      obtain ⟨m1, m2, m3, m4, m5, m6, m7, m8, m9, m10, m11, m12⟩ := mm
      have eD : D = D.take i ++ D.drop i := (List.take_append_drop i D).symm
      have eR : rsL Q D = rsL Q (D.take i) := by
        rcases hc with q | q
        · rw [q, List.take_of_length_le (Nat.le_refl _)]
        · conv => lhs; rw [eD]
          exact rsL_stop q _
      have eU : rsU Q D = rsU Q (D.take i) := by
        rcases hc with q | q
        · rw [q, List.take_of_length_le (Nat.le_refl _)]
        · conv => lhs; rw [eD]
          exact rsU_stop _ _ q
      have ht : (D.take i).length ≤ D.length := by rw [List.length_take]; omega
      rw [← eU]
      refine fin ad G V nL m1 m2 m3 (by rw [eR]; exact m5) (by rw [eR]; exact m6) (by rw [eR]; exact m7) (by rw [eR]; exact m8) (by rw [eU]; exact m9) (by rw [eU]; omega) (fun hf => ?_)
      rw [eR] at hf
      have ei : i = D.length := hc.resolve_right (fun w => w hf)
      have := m12 n (by rw [ei, List.take_of_length_le (Nat.le_refl _)]; exact hmem)
      rw [eR, eU]; exact this
    have step : ∀ (i : Nat) (ad : Nat → Nat) (G : Nat → Nat → Int32) (V : Nat → Int32) (nL : Nat), i ≤ D.length → mmC Q bd ad0 G1 V1 n0 (D.take i) ad G V nL → (i < D.length → ∀ (ad' : Nat → Nat) (G' : Nat → Nat → Int32) (V' : Nat → Int32) (n' : Nat), mmC Q bd ad0 G1 V1 n0 (D.take (i + 1)) ad' G' V' n' → WW z (kc n0 (rsU Q (D.take (i + 1)))) (ks n0 (rsU Q (D.take (i + 1)))) (WC (zk z) ad' G' V' n') 36 [(0, .ref (ad' 23)), (1, .int x), (2, .int (nI D.length)), (3, .int (nI (i + 1)))] []) → WW z (kc n0 (rsU Q (D.take i))) (ks n0 (rsU Q (D.take i))) (WC (zk z) ad G V nL) 36 [(0, .ref (ad 23)), (1, .int x), (2, .int (nI D.length)), (3, .int (nI i))] [] := by
      intro i ad G V nL hi mm K
      have mmc := mm
      obtain ⟨m1, m2, m3, m4, m5, m6, m7, m8, m9, m10, m11, m12⟩ := mm
      have cost : kc n0 (rsU Q (D.take i)) ≤ kc n0 (rsU Q D) ∧ ks n0 (rsU Q (D.take i)) ≤ ks n0 (rsU Q D) := by
        have := rsU_le Q (D.drop i) (D.take i)
        rw [List.take_append_drop] at this
        exact ⟨kc_mono this, ks_mono hg this⟩
      have hlt : ¬ nI D.length ≤ nI i → i < D.length := fun c => by
        rcases Nat.lt_or_ge i D.length with q | q
        · exact q
        · exact absurd (nI_le q (by omega)) c
      have g20 : i < D.length → G 20 (ix (nI i)) = nI (D.getD i 0) := fun q => by
        rw [ix_nI (by omega), m2 20 (by decide) (by decide) (by decide)]; exact l2 i q
      have gat : ∀ q : i < D.length, D.getD i 0 = D[i] := fun q => by rw [List.getD_eq_getElem?_getD, List.getElem?_eq_getElem q]; rfl
      have gnn : i < D.length → D.getD i 0 < nn := fun q => by rw [gat q]; exact al _ (List.getElem_mem q)
      refine ga_c E T hz cost x (nI D.length) (nI i) (fun c _ => by have := hlt c; exact vp_in_nI (by omega) (by omega)) (fun c _ => by have := hlt c; rw [g20 this]; exact vp_in_nI (by have := gnn this; omega) (by omega)) (fun c => ?_) (fun c c5 => ?_) (fun G2 e2 c c5 => ?_)
      · rw [nI_leI (by omega) (by omega)] at c
        exact exit i ad G V nL hi mmc (Or.inl (by omega))
      · exact exit i ad G V nL hi mmc (Or.inr (by rw [← m5]; exact c5))
      · have q := hlt c
        have K := K q
        have ha := gnn q
        have hget : D[i]? = some (D.getD i 0) := by rw [gat q, List.getElem?_eq_getElem q]
        have et : D.take (i + 1) = D.take i ++ [D.getD i 0] := by rw [List.take_add_one, hget]; rfl
        obtain ⟨o1, o2⟩ := od i _ hget
        have hnot : D.getD i 0 ∉ D.take i := fun w => by
          have h2 : (D.take i ++ D.drop i).Nodup := by rw [List.take_append_drop]; exact nd
          have h3 := (List.nodup_append.mp h2).2.2 _ w (D.getD i 0) (by rw [List.drop_eq_getElem_cons q, gat q]; exact List.mem_cons_self)
          exact h3 rfl
        rw [g20 q] at e2 ⊢
        rw [et] at K
        have htl : (D.take i).length = i := by rw [List.length_take]; omega
        generalize D.take i = Di at *
        generalize hat : D.getD i 0 = at9 at *
        generalize hu : rsU Q Di = u at *
        have hf : (rsL Q Di).2.1 = 0 := by rw [← m5]; exact c5
        rw [ix_nI (by omega), show (upd V 7 (V 7 + 1)) 2 = V 2 from rfl, m4] at e2
        obtain ⟨kd, m, aN, bN, ok⟩ := okp.2.2.2.2.2 at9 ha
        have okc := ok
        obtain ⟨k8, hk, hm6, hm, hbd, hla, ha0, ha1, hb, -⟩ := ok
        have kz : nI kd = 0 ↔ kd = 0 := by rw [show (0 : Int32) = nI 0 from rfl, nI_eq (by omega) (by omega)]
        have bd100 : ∀ y, y < nn → bd y ≤ 100 := fun y hy => by
          obtain ⟨_, _, _, _, hh⟩ := okp.2.2.2.2.2 y hy; exact hh.2.2.2.2.1
        have aD : kd ≠ 0 → aN ∈ Di := fun e => by
          have := o1 (fun w => e (kz.mp (hk.symm.trans w)))
          rw [hla, ix_nI (by have := (ha1 e).1; omega)] at this; exact this
        have bD : kd = 4 ∨ kd = 5 → bN ∈ Di := fun e => by
          have := o2 (by rw [hk]; exact e.elim (fun w => Or.inl (by rw [w]; rfl)) (fun w => Or.inr (by rw [w]; rfl)))
          rw [(hb e).2.1, ix_nI (by have := (hb e).1; omega)] at this; exact this
        have stK : ∀ y, y ∈ Di → ∃ s, stoR G2 u y s ((rsL Q Di).1 y) ∧ ((rsL Q Di).1 y).length ≤ bd y := fun y hy => by
          obtain ⟨s, ⟨s1, s2, s3, s4, s5⟩, s6⟩ := m12 y hy
          have hne : y ≠ at9 := fun e => hnot (by rw [← e]; exact hy)
          exact ⟨s, ⟨s1, by rw [e2, ug_i hne]; exact s2, by rw [e2, ug_p (by decide)]; exact s3, s4, by rw [e2, ug_other (by decide)]; exact s5⟩, s6⟩
        have hA : kd ≠ 0 → ∃ s, stoR G2 u aN s ((rsL Q Di).1 aN) ∧ ((rsL Q Di).1 aN).length ≤ 100 := fun e => by
          obtain ⟨s, h1, h2⟩ := stK aN (aD e)
          have := bd100 aN (ha1 e).1
          exact ⟨s, h1, by omega⟩
        have hB : kd = 4 ∨ kd = 5 → ∃ s, stoR G2 u bN s ((rsL Q Di).1 bN) ∧ ((rsL Q Di).1 bN).length ≤ 100 := fun e => by
          obtain ⟨s, h1, h2⟩ := stK bN (bD e)
          have := bd100 bN (hb e).1
          exact ⟨s, h1, by omega⟩
        have hlen := job_len okc okp.2.2.2.1 hnn (res := (rsL Q Di).1) (fun e => by
          obtain ⟨s, h1, h2⟩ := stK aN (aD e)
          have := bd100 aN (ha1 e).1
          exact ⟨h2, by omega⟩) (fun e => by
          obtain ⟨s, h1, h2⟩ := stK bN (bD e)
          exact h2) (rsL Q Di).2.2.1
        have hUs : rsU Q (Di ++ [at9]) = u + 6 * (jobS Q (rsL Q Di).1 at9 (rsL Q Di).2.2.1).1.length := by rw [rsU_snoc, if_pos hf, hu]
        have hRs : rsL Q (Di ++ [at9]) = (va_up (rsL Q Di).1 at9 (jobS Q (rsL Q Di).1 at9 (rsL Q Di).2.2.1).1, (jobS Q (rsL Q Di).1 at9 (rsL Q Di).2.2.1).2.1, (jobS Q (rsL Q Di).1 at9 (rsL Q Di).2.2.1).2.2, (rsL Q Di).2.2.2.1 + 1, (if (jobS Q (rsL Q Di).1 at9 (rsL Q Di).2.2.1).2.1 = 0 then (rsL Q Di).2.2.2.2 else nI at9)) := by
          rw [rsL_snoc]; unfold wkN; rw [if_pos hf]
        generalize hO : jobS Q (rsL Q Di).1 at9 (rsL Q Di).2.2.1 = O at hlen hUs hRs
        have hcap : u + 6 * O.1.length ≤ 36000 := by have := bd100 at9 ha; omega
        have ag2 : agQ G2 Q nn nf := ag1.to (fun p a b c d e f => by rw [e2, ug_other e]; exact m2 p d e f)
        have hO' : jobS Q (rsL Q Di).1 at9 ((upd V 7 (V 7 + 1)) 6) = O := by
          rw [show (upd V 7 (V 7 + 1)) 6 = V 6 from rfl, m6]; exact hO
        have hgn : gch nL := by rw [m9]; exact gw_ch hg
        have hun : u ≤ nL := by rw [m9]; exact gw_ge (by omega)
        have cadd : kc n0 u + kC nL u O = kc n0 (rsU Q (Di ++ [at9])) := by rw [hUs, m9]; exact kc_add (by omega)
        have sadd : ks n0 u + kS nL u O = ks n0 (rsU Q (Di ++ [at9])) := by rw [hUs, m9]; exact ks_add hg (by omega)
        have cost2 : kc n0 (rsU Q (Di ++ [at9])) ≤ kc n0 (rsU Q D) ∧ ks n0 (rsU Q (Di ++ [at9])) ≤ ks n0 (rsU Q D) := by
          have := rsU_le Q (D.drop (i + 1)) (D.take (i + 1))
          rw [List.take_append_drop, et] at this
          exact ⟨kc_mono this, ks_mono hg this⟩
        refine s_gv E cvX3_58 T.rr (by decide) [.int (nI at9)] (c_workC (l := zl z) (k := zk z) hnn okp.2.1 okp.2.2.1 okp.2.2.2.1 ag2 rfl ha okc hgn hun (show (upd V 7 (V 7 + 1)) 2 = nI u from m4) (show (upd V 7 (V 7 + 1)) 5 = 0 from c5) hA hB hO' hcap) rfl (fun a => [(0, .ref a), (1, .int x), (2, .int (nI D.length)), (3, .int (nI i)), (4, .int (nI at9))]) rfl (Nat.le_of_ble_eq_true rfl) ⟨by rw [cadd]; exact cost2.1, by rw [sadd]; exact cost2.2⟩ dX3_give_83 (q := 86) rfl (fun ad' G' V' n' st => ?_)
        rw [cadd, sadd]
        obtain ⟨t1, t2, t3, t4, t5, t6, t7, t8, t9⟩ := st
        refine ga_d E T hz cost2 x (nI D.length) (nI i) (nI at9) (vp_in_nI (by omega) (by omega)) (fun G3 e3 => ?_)
        rw [nI_1]
        rw [ix_nI (by omega), t5] at e3
        refine K ad' G3 _ n' ⟨fun p hp => (t1 p hp).trans (m1 p hp), fun p a b c => ?_, fun j hj => ?_, ?_, ?_, ?_, ?_, ?_, ?_, ?_, fun h0 => ?_, fun y hy => ?_⟩
        · rw [e3, ug_other c, t2 p a, e2, ug_other b]; exact m2 p a b c
        · show (upd V' 8 _) j = _
          rw [pk_un (by omega), t8 j (by omega) (by omega) (by omega), pk_un (by omega)]; exact m3 j hj
        · rw [hUs]; exact t5
        · rw [hRs]; exact t6
        · rw [hRs]; exact t7
        · rw [hRs]
          show V' 7 = _
          rw [t8 7 (by decide) (by decide) (by decide)]
          show V 7 + 1 = _
          rw [m7]
        · rw [hRs]
          show (if V' 5 = 0 then -1 else nI at9 : Int32) = _
          rw [t6]
          by_cases w : O.2.1 = 0
          · rw [if_pos w, if_pos w]; exact (m11 hf).symm
          · rw [if_neg w, if_neg w]
        · rw [hUs, t9, m9, gw_gw (by omega)]
        · rw [hUs, List.length_append, show ([at9] : List Nat).length = 1 from rfl]; have := bd100 at9 ha; omega
        · rw [hRs] at h0 ⊢
          dsimp only at h0 ⊢
          rw [if_pos h0]; exact m11 hf
        · rw [hUs, hRs]
          dsimp only
          by_cases e : y = at9
          · subst e
            have eu : va_up (rsL Q Di).1 y O.1 y = O.1 := va_up_self _ _ _
            rw [eu]
            refine ⟨u, ⟨by omega, ?_, ?_, Nat.le_refl _, ?_⟩, hlen⟩
            · rw [e3, ug_p (by decide), t2 25 (by decide), e2, ug_same]
            · rw [e3, ug_same]
            · rw [e3, ug_other (by decide)]; exact t4
          · have eu : va_up (rsL Q Di).1 at9 O.1 y = (rsL Q Di).1 y := va_up_ne _ _ e
            rw [eu]
            have hyD : y ∈ Di := (List.mem_append.mp hy).elim id (fun w => absurd (List.mem_singleton.mp w) e)
            obtain ⟨s, ⟨s1, s2, s3, s4, s5⟩, s6⟩ := stK y hyD
            refine ⟨s, ⟨s1, ?_, ?_, by omega, ?_⟩, s6⟩
            · rw [e3, ug_p (by decide), t2 25 (by decide)]; exact s2
            · rw [e3, ug_i e, t2 26 (by decide)]; exact s3
            · rw [e3, ug_other (by decide)]
              exact s5.trans (tb_congr fun j hj => (t3 _ (by omega)).symm)
    intro N
    induction N with
    | zero => intro i ad G V nL h1 h2 mm; exact step i ad G V nL h2 mm (fun q => absurd q (by omega))
    | succ N ih => intro i ad G V nL h1 h2 mm; exact step i ad G V nL h2 mm (fun q ad' G' V' n' mm' => ih (i + 1) ad' G' V' n' (by omega) (by omega) mm')
  refine ga_b E T hz k0 x (nI D.length) ?_
  have M0 := main D.length 0 ad0 G1 V1 n0 (by omega) (Nat.zero_le _)
  rw [List.take_zero] at M0
  have kz0 : kc n0 (rsU Q []) = 0 ∧ ks n0 (rsU Q []) = 0 := ⟨kc_0 hg (Nat.zero_le _), ks_0 hg (Nat.zero_le _)⟩
  rw [kz0.1, kz0.2] at M0
  refine M0 ⟨fun _ _ => rfl, fun _ _ _ _ => rfl, fun _ _ => rfl, by rw [← hV1]; rfl, by rw [← hV1]; rfl, by rw [← hV1]; rfl, by rw [← hV1]; rfl, by rw [← hV1]; rfl, (gw_id hg (Nat.zero_le _)).symm, Nat.zero_le _, fun _ => rfl, fun j hj => absurd hj List.not_mem_nil⟩
