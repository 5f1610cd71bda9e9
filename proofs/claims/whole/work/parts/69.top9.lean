def QC (G : Nat → Nat → Int32) : Nat → Nat → Int32 := fun t => if t = 4 then G 13 else if t = 5 then G 14 else G 15
theorem pst_congr {Q Q' : Nat → Nat → Int32} {nn nf : Nat} {bd rk : Nat → Nat} (okp : okP Q nn nf bd rk) (h : ∀ i, i < nn → Q' 4 i = Q 4 i ∧ Q' 5 i = Q 5 i ∧ Q' 6 i = Q 6 i) : ∀ (d n : Nat) (D : List Nat), n < nn → pst Q' d n D = pst Q d n D := by
  intro d
  induction d with
  | zero => intros; rfl
  | succ d ih =>
    intro n D hn
    have hnn := okp.1
    obtain ⟨kd, m, aN, bN, ok⟩ := okp.2.2.2.2.2 n hn
    obtain ⟨k8, hk, hm6, hm, hbd, ha, ha0, ha1, hb, -⟩ := ok
    obtain ⟨e4, e5, e6⟩ := h n hn
    have kz : nI kd = 0 ↔ kd = 0 := by rw [show (0 : Int32) = nI 0 from rfl, nI_eq (by omega) (by omega)]
    have k4 : nI kd = 4 ↔ kd = 4 := by rw [show (4 : Int32) = nI 4 from rfl, nI_eq (by omega) (by omega)]
    have k5 : nI kd = 5 ↔ kd = 5 := by rw [show (5 : Int32) = nI 5 from rfl, nI_eq (by omega) (by omega)]
    show (if n ∈ D then D else (if Q' 4 n = 4 ∨ Q' 4 n = 5 then pst Q' d (ix (Q' 6 n)) (if Q' 4 n = 0 then D else pst Q' d (ix (Q' 5 n)) D) else (if Q' 4 n = 0 then D else pst Q' d (ix (Q' 5 n)) D)) ++ [n]) = (if n ∈ D then D else (if Q 4 n = 4 ∨ Q 4 n = 5 then pst Q d (ix (Q 6 n)) (if Q 4 n = 0 then D else pst Q d (ix (Q 5 n)) D) else (if Q 4 n = 0 then D else pst Q d (ix (Q 5 n)) D)) ++ [n])
    rw [e4, e5, e6, hk, ha]
    simp only [kz, k4, k5]
    by_cases c : n ∈ D
    · rw [if_pos c, if_pos c]
    · rw [if_neg c, if_neg c]
      have E1 : (if kd = 0 then D else pst Q' d (ix (nI aN)) D) = (if kd = 0 then D else pst Q d (ix (nI aN)) D) := by
        by_cases c0 : kd = 0
        · rw [if_pos c0, if_pos c0]
        · have l := (ha1 c0).1
          rw [if_neg c0, if_neg c0, ix_nI (by omega), ih aN D l]
      rw [E1]
      by_cases c4 : kd = 4 ∨ kd = 5
      · have l := (hb c4).1
        rw [if_pos c4, if_pos c4, (hb c4).2.1, ix_nI (by omega), ih bN _ l]
      · rw [if_neg c4, if_neg c4]
theorem QC_pst {G H : Nat → Nat → Int32} {V : Nat → Int32} {nn nf : Nat} {bd rk : Nat → Nat} (h : PLC G V nn nf bd rk) (ag : AGR G H nn nf) {x : Nat} (hx : x < nn) : pst (QC G) 60 x [] = pst (FM H) 60 x [] := by
  refine pst_congr (h.okP ag) (fun i hi => ?_) 60 x [] hx
  obtain ⟨a1, a2, a3, -⟩ := ag.2.2.2.2 i hi
  exact ⟨a1, a2, a3⟩
/-- the ghost of a reference beside a class -/
def ghH (G : Nat → Nat → Int32) : Nat → Nat → Int32 := fun p => G (([0, 3, 2, 4, 6, 7, 8, 10, 11, 9, 13, 14, 15, 16, 17] : List Nat).getD p 0)
theorem ghA (G : Nat → Nat → Int32) (nn nf : Nat) : AGR G (ghH G) nn nf := ⟨fun _ _ => rfl, fun _ _ => rfl, fun _ _ => rfl, fun _ _ => ⟨rfl, rfl, fun _ _ _ _ _ _ => rfl, rfl, rfl, rfl⟩, fun _ _ => ⟨rfl, rfl, rfl, rfl, rfl⟩⟩
theorem PLC.ap {G : Nat → Nat → Int32} {V : Nat → Int32} {nn nf : Nat} {bd rk : Nat → Nat} (h : PLC G V nn nf bd rk) {x r : Nat} (hx : x < nn) (hr : r < 18) (hs : ¬ fX2_suits G (nI x) (nI r) = 0) (hm : ¬ fX2_hasRoom G V (nI x) (nI r) = 0) : ∃ nn' nf' bd' rk', PLC (apG G V (nI x) r) (apV G V (nI x) r) nn' nf' bd' rk' ∧ nn ≤ nn' := by
  obtain ⟨nn', nf', bd', rk', p, -⟩ := rw_sim h (ghA G nn nf) (U := fun j => if j = 0 then nI nf else if j = 1 then nI nn else V 9) rfl rfl rfl hx hr hs hm
  refine ⟨nn', nf', bd', rk', p, ?_⟩
  have e := p.2.2.2.1
  have h1 := h.2.2.2.1
  have hnn := h.1
  have hnn' := p.1
  have key : ∃ w : Nat, w ≤ 3 ∧ apV G V (nI x) r 1 = nI (nn + w) := by
    unfold apV ap1V ap3V ap4V ap7V ap12V
    have b1 : (upd V 9 (V 9 + 1)) 1 = nI nn := h1
    simp only [fX2_addLike_V, fX1_add_V, fX2_workAbove_V, fX0_add_V, ite_ap, pk_us, b1, nI_1]
    have t7 : ∀ c : Prop, ∀ _ : Decidable c, (if c then nI nn else (upd (upd V 9 (V 9 + 1)) 0 ((upd V 9 (V 9 + 1)) 0 + 1)) 1) = nI nn := fun c _ => by
      by_cases w : c
      · rw [if_pos w]
      · rw [if_neg w]; exact h1
    repeat' split
    all_goals first | exact ⟨0, by omega, rfl⟩ | exact ⟨1, by omega, rfl⟩ | exact ⟨2, by omega, rfl⟩ | exact ⟨3, by omega, rfl⟩ | exact ⟨0, by omega, h1⟩
  obtain ⟨w, w3, ew⟩ := key
  rw [ew, nI_eq (by omega) (by omega)] at e
  omega
/-- where the next rewrite of a sweep stands -/
def stp (G : Nat → Nat → Int32) (V : Nat → Int32) (x i r : Nat) : Prop := ∃ nn : Nat, V 1 = nI nn ∧ nn ≤ 60 ∧ i < nn ∧ i ∈ pst (QC G) 60 x [] ∧ fX2_leastRule G (nI i) = nI r ∧ ∀ t, t < i → t ∈ pst (QC G) 60 x [] → fX2_leastRule G (nI t) < 0
def SWR (x : Nat) : Nat → (Nat → Nat → Int32) → (Nat → Int32) → Nat → (Nat → Nat → Int32) → (Nat → Int32) → Prop
  | 0, G, V, c, G', V' => c = 0 ∧ G' = G ∧ V' = V
  | m + 1, G, V, c, G', V' => ((∀ i r : Nat, r < 18 → stp G V x i r → fX2_hasRoom G V (nI i) (nI r) = 0) ∧ c = 0 ∧ G' = G ∧ V' = V) ∨ ∃ i r c' : Nat, r < 18 ∧ stp G V x i r ∧ (¬ fX2_hasRoom G V (nI i) (nI r) = 0) ∧ c = c' + 1 ∧ SWR x m (apG G V (nI i) r) (apV G V (nI i) r) c' G' V'
theorem SWR.ex (x : Nat) : ∀ (m : Nat) (G : Nat → Nat → Int32) (V : Nat → Int32), ∃ (c : Nat) (G' : Nat → Nat → Int32) (V' : Nat → Int32), SWR x m G V c G' V' ∧ c ≤ m
  | 0, G, V => ⟨0, G, V, ⟨rfl, rfl, rfl⟩, Nat.le_refl _⟩
  | m + 1, G, V => by
    rcases Classical.em (∃ i r : Nat, r < 18 ∧ stp G V x i r ∧ ¬ fX2_hasRoom G V (nI i) (nI r) = 0) with ⟨i, r, hr, h, hm⟩ | w
    · obtain ⟨c, G', V', t, hc⟩ := SWR.ex x m (apG G V (nI i) r) (apV G V (nI i) r)
      exact ⟨c + 1, G', V', Or.inr ⟨i, r, c, hr, h, hm, rfl, t⟩, by omega⟩
    · exact ⟨0, G, V, Or.inl ⟨fun i r hr h => Classical.byContradiction fun q => w ⟨i, r, hr, h, q⟩, rfl, rfl, rfl⟩, by omega⟩
theorem SWR.keep {x : Nat} : ∀ {m c : Nat} {G G' : Nat → Nat → Int32} {V V' : Nat → Int32}, SWR x m G V c G' V' → G' 24 = G 24 ∧ ∀ j, j ≠ 0 → j ≠ 1 → j ≠ 9 → V' j = V j := by
  intro m
  induction m with
  | zero =>
    intro c G G' V V' h
    obtain ⟨-, rfl, rfl⟩ := h
    exact ⟨rfl, fun _ _ _ _ => rfl⟩
  | succ m ih =>
    intro c G G' V V' h
    rcases h with ⟨-, -, rfl, rfl⟩ | ⟨i, r, c', hr, h, hm, rfl, t⟩
    · exact ⟨rfl, fun _ _ _ _ => rfl⟩
    · obtain ⟨k1, k2⟩ := ap_keep (G := G) (V := V) (nI i) r hr
      obtain ⟨i1, i2⟩ := ih t
      exact ⟨i1.trans k1, fun j a b c => (i2 j a b c).trans (k2 j a b c)⟩
set_option maxHeartbeats 800000 in
/-- leastNode -/
theorem c_leastNode {l : Launch} {k : Kt} {ad : Nat → Nat} {A G : Nat → Nat → Int32} {V : Nat → Int32} {n nn nf x : Nat} {bd rk : Nat → Nat} (hE : E20 A G) (h : PLC G V nn nf bd rk) (hx : x < nn) : CT l k yX2_leastNode cX2_leastNode 3 (some .int) 7 [.ref (ad 27), .int (nI x)] (WC k ad A V n) (fun v w' => ∃ (A' : Nat → Nat → Int32), w' = WC k ad A' V n ∧ E20 A' G ∧ ((v = some (.int (-1)) ∧ ∀ t, t < nn → t ∈ pst (QC G) 60 x [] → fX2_leastRule G (nI t) < 0) ∨ ∃ i : Nat, v = some (.int (nI i)) ∧ i < nn ∧ i ∈ pst (QC G) 60 x [] ∧ ¬ fX2_leastRule G (nI i) < 0 ∧ ∀ t, t < i → t ∈ pst (QC G) 60 x [] → fX2_leastRule G (nI t) < 0)) 0 0 := by
  refine ct_of (own := RX2) (lv0 := [(0, .ref (ad 27)), (1, .int (nI x))]) (by decide) rfl (Nat.le_of_ble_eq_true rfl) rfl ?_
  rintro z rfl rfl hz - E T
  have hnn := h.1
  have v1 := h.2.2.2.1
  have okp := h.okP (ghA G nn nf)
  have eP : pst (QC G) 60 x [] = pst (FM (ghH G)) 60 x [] := QC_pst h (ghA G nn nf) hx
  have agn : ∀ i, i < nn → A 13 i = FM (ghH G) 4 i ∧ A 14 i = FM (ghH G) 5 i ∧ A 15 i = FM (ghH G) 6 i := fun i hi => by
    rw [hE 13 (by decide) (by decide) (by decide), hE 14 (by decide) (by decide) (by decide), hE 15 (by decide) (by decide) (by decide)]; exact ⟨rfl, rfl, rfl⟩
  refine ln_a E T hz (nI x) ?_
  refine rV E cvX2_114 T.rr Fr.all 12 wc_12 rfl [.int (nI x)] (c_listFrom (l := zl z) (k := zk z) (ad := ad) (G0 := A) (V := V) (n9 := n) okp agn rfl hx) (by decide) rfl rfl (Nat.le_of_ble_eq_true rfl) ⟨Nat.le_refl _, Nat.le_refl _⟩ dX2_leastNode_5 (fun v w' hh => ?_)
  obtain ⟨rfl, A', rfl, ⟨l1, -, l3⟩, -, -⟩ := hh
  rw [← eP] at l3 ⊢
  have hE' : E20 A' G := fun p a b c => (l1 p a b c).trans (hE p a b c)
  have p' : PLC A' V nn nf bd rk := h.cong (fun p hp => hE' p (by omega) (by omega) (by omega))
  refine ln_b E T hz (nI x) _ ?_
  have li : ∀ i : Nat, i < nn → (fX1_isListed A' (nI i) = 0 ↔ i ∉ pst (QC G) 60 x []) := fun i hi => by
    unfold fX1_isListed
    rw [ix_nI (by omega), l3 i hi]
    by_cases c : i ∈ pst (QC G) 60 x []
    · rw [if_pos c]; exact ⟨fun w => absurd w (by decide), fun w => absurd c w⟩
    · rw [if_neg c]; exact ⟨fun _ => c, fun _ => rfl⟩
  have main : ∀ (N i : Nat), nn ≤ i + N → i ≤ nn → (∀ t, t < i → t ∈ pst (QC G) 60 x [] → fX2_leastRule G (nI t) < 0) → WW z 0 0 (WC (zk z) ad A' V n) 11 [(0, .ref (ad 27)), (1, .int (nI x)), (2, .int (nI i))] [] := by
    have step : ∀ i : Nat, i ≤ nn → (∀ t, t < i → t ∈ pst (QC G) 60 x [] → fX2_leastRule G (nI t) < 0) → (i < nn → (∀ t, t < i + 1 → t ∈ pst (QC G) 60 x [] → fX2_leastRule G (nI t) < 0) → WW z 0 0 (WC (zk z) ad A' V n) 11 [(0, .ref (ad 27)), (1, .int (nI x)), (2, .int (nI (i + 1)))] []) → WW z 0 0 (WC (zk z) ad A' V n) 11 [(0, .ref (ad 27)), (1, .int (nI x)), (2, .int (nI i))] [] := by
      intro i hi hno K
      have hlt : ¬ V 1 ≤ nI i → i < nn := fun c => by
        rcases Nat.lt_or_ge i nn with q | q
        · exact q
        · exact absurd (by rw [v1]; exact nI_le q (by omega)) c
      refine ln_c E T hz (Nat.le_refl 7) (nI x) (nI i) (fun c => by have := hlt c; exact vp_in_nI (by omega) (by decide)) (fun c _ => by have := hlt c; exact vp_in_nI (by omega) (by decide)) (fun c _ rule hr e => (p'.cst (hlt c) rule).2.1 e hr) (fun c _ rule hr => (p'.cst (hlt c) rule).2.2.1 hr) (fun c _ rule hr => (p'.cst (hlt c) rule).2.2.2 hr) (fun c => ?_) (fun c d => ?_) (fun c d e => ?_) (fun c d e => ?_)
      · rw [v1, nI_leI (by omega) (by omega)] at c
        exact ⟨A', rfl, hE', Or.inl ⟨rfl, fun t ht hm => hno t (by omega) hm⟩⟩
      · have q := hlt c
        rw [nI_1]
        refine K q (fun t ht hm => ?_)
        by_cases e : t = i
        · subst e; exact absurd hm ((li t q).mp d)
        · exact hno t (by omega) hm
      · have q := hlt c
        rw [leastE hE'] at e
        rw [nI_1]
        refine K q (fun t ht hm => ?_)
        by_cases e2 : t = i
        · subst e2; exact e
        · exact hno t (by omega) hm
      · have q := hlt c
        rw [leastE hE'] at e
        exact ⟨A', rfl, hE', Or.inr ⟨i, rfl, q, Classical.byContradiction fun w => d ((li i q).mpr w), e, hno⟩⟩
    intro N
    induction N with
    | zero => intro i h1 h2 hno; exact step i h2 hno (fun q => absurd q (by omega))
    | succ N ih => intro i h1 h2 hno; exact step i h2 hno (fun q hn' => ih (i + 1) (by omega) (by omega) hn')
  exact main nn 0 (by omega) (Nat.zero_le _) (fun t ht => absurd ht (Nat.not_lt_zero _))
