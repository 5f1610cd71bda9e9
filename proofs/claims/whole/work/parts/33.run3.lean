set_option maxRecDepth 100000 in
set_option maxHeartbeats 800000 in
theorem r_x {z : Zt} (E : EN z cX6_run RX6) {w0 : va_W} {P : Option Value → va_W → Prop} {lvl : Nat} (T : RT z (some .int) lvl w0 P 0 0) (hz : zn z = 6) {ad : Nat → Nat} {G : Nat → Nat → Int32} {V : Nat → Int32} (hlv : 7 ≤ lvl) (x n9 g9 w9 : Int32) (h5 : ¬ V 5 = 0) 
    (k1 : w9 ≤ 0 → WW z 0 0 (WM (zk z) ad G V) 210 [(0, .ref (ad 0)), (1, .int x), (2, .int n9), (3, .int g9)] []) 
    (k2 : ¬ (w9 ≤ 0) → WW z 0 0 (WM (zk z) ad G V) 210 [(0, .ref (ad 0)), (1, .int x), (2, .int n9), (3, .int g9)] []) :
    WW z 0 0 (WM (zk z) ad G V) 57 [(0, .ref (ad 0)), (1, .int x), (2, .int n9), (3, .int g9), (4, .int w9)] [] := by
  refine r_iload E (q := 59) 4 dX6_run_57 rfl rfl ?_
  refine r_if_le E (q := 62) 210 dX6_run_59 (by decide) rfl (fun c1 => ?_) (fun c1 => ?_)
  · refine r_sub [0, 1, 2, 3] rfl ?_
    exact k1 c1
  · refine r_aload_n E (q := 63) 0 dX6_run_62 rfl rfl rfl ?_
    refine r_get E (q := 66) fX6_190 0 wm_0 rfl dX6_run_63 rfl ?_
    refine r_if_ne E (q := 69) 210 dX6_run_66 (by decide) rfl (fun c2 => ?_) (fun c2 => absurd c2 (h5))
    refine r_sub [0, 1, 2, 3] rfl ?_
    exact k2 c1
theorem mmM.w23 {nn : Nat} {bd : Nat → Nat} {G0 : Nat → Nat → Int32} {V0 : Nat → Int32} {D : List Nat} {G : Nat → Nat → Int32} {V : Nat → Int32} {n9 g9 : Int32} (h : mmM nn bd G0 V0 D G V n9 g9) (i : Nat) (y : Int32) : mmM nn bd G0 V0 D (ug G 23 i y) V n9 g9 := by
  obtain ⟨h1, h2, h3, h4, h5, h6, h7⟩ := h
  refine ⟨fun p p1 p2 p3 p4 p5 p6 p7 => by rw [ug_other p7]; exact h1 p p1 p2 p3 p4 p5 p6 p7, h2, h3, h4, h5, h6, fun hf => ?_⟩
  rw [ug_other (by decide), ug_other (by decide), ug_other (by decide)]
  exact h7 hf
theorem mmM.stop {nn : Nat} {bd : Nat → Nat} {G0 : Nat → Nat → Int32} {V0 : Nat → Int32} {D : List Nat} {G : Nat → Nat → Int32} {V : Nat → Int32} {n9 g9 : Int32} (h : mmM nn bd G0 V0 D G V n9 g9) (hf : ¬ (rsL (FM G0) D).2.1 = 0) (E : List Nat) : mmM nn bd G0 V0 (D ++ E) G V n9 g9 := by
  obtain ⟨h1, h2, h3, h4, h5, h6, h7⟩ := h
  have e := rsL_stop hf E
  refine ⟨h1, by rw [e]; exact h2, by rw [e]; exact h3, by rw [e]; exact h4, by rw [e]; exact h5, h6, fun w => ?_⟩
  rw [e] at w; exact absurd w hf
theorem pst_in {Q : Nat → Nat → Int32} {d n : Nat} {D : List Nat} (hd : 0 < d) (h : n ∈ D) : pst Q d n D = D := by
  obtain ⟨e, rfl⟩ : ∃ e, d = e + 1 := ⟨d - 1, by omega⟩
  unfold pst; rw [if_pos h]
set_option maxHeartbeats 1600000 in
theorem vis_run {z : Zt} (E : EN z cX6_run RX6) {w0 : va_W} {P : Option Value → va_W → Prop} {lvl : Nat} (T : RT z (some .int) lvl w0 P 0 0) (hz : zn z = 6) {ad : Nat → Nat} (hlv : 7 ≤ lvl) {x : Int32} {nn nf : Nat} {bd rk : Nat → Nat} {G0 : Nat → Nat → Int32} {V0 : Nat → Int32} (okp : okP (FM G0) nn nf bd rk) :
    ∀ (d : Nat) (G : Nat → Nat → Int32) (V : Nat → Int32) (D : List Nat) (n h : Nat) (n9 g9 : Int32), mmM nn bd G0 V0 D G V n9 g9 → (rsL (FM G0) D).2.1 = 0 → n < nn → n ∉ D → rk n < d → h + rk n < 60 → G 23 h = nI n →
      (∀ (G' : Nat → Nat → Int32) (V' : Nat → Int32) (n' g' w' : Int32), mmM nn bd G0 V0 (pst (FM G0) d n D) G' V' n' g' → (∀ i, i < h → G' 23 i = G 23 i) → ((rsL (FM G0) (pst (FM G0) d n D)).2.1 = 0 → w' = nI h) → WW z 0 0 (WM (zk z) ad G' V') 57 (lvR ad x n' g' w') []) →
      WW z 0 0 (WM (zk z) ad G V) 57 (lvR ad x n9 g9 (nI (h + 1))) [] := by
  intro d
  induction d with
  | zero => intro G V D n h n9 g9 _ _ _ _ hh; exact absurd hh (Nat.not_lt_zero _)
  | succ d ih =>
    intro G V D n h n9 g9 mm hf hn hnD hrd hh hw K
    obtain ⟨kd, m, aN, bN, ok⟩ := okp.2.2.2.2.2 n hn
    have okc := ok
    obtain ⟨k8, hk, hm6, hm, hbd, ha, ha0, ha1, hb, -⟩ := ok
    have hnn := okp.1
    have kz : nI kd = 0 ↔ kd = 0 := by rw [show (0 : Int32) = nI 0 from rfl, nI_eq (by omega) (by omega)]
    have k4 : nI kd = 4 ↔ kd = 4 := by rw [show (4 : Int32) = nI 4 from rfl, nI_eq (by omega) (by omega)]
    have k5 : nI kd = 5 ↔ kd = 5 := by rw [show (5 : Int32) = nI 5 from rfl, nI_eq (by omega) (by omega)]
    obtain ⟨D1, hD1⟩ : ∃ D1, D1 = if kd = 0 then D else pst (FM G0) d aN D := ⟨_, rfl⟩
    obtain ⟨D2, hD2⟩ : ∃ D2, D2 = if kd = 4 ∨ kd = 5 then pst (FM G0) d bN D1 else D1 := ⟨_, rfl⟩
    have ep : pst (FM G0) (d + 1) n D = D2 ++ [n] := by
      show (if n ∈ D then D else _ ++ [n]) = _
      rw [if_neg hnD]
      congr 1
      rw [hk, hD2, hD1]
      simp only [kz, k4, k5]
      by_cases c0 : kd = 0
      · have : ¬ (kd = 4 ∨ kd = 5) := by omega
        rw [if_neg this, if_neg this, if_pos c0, if_pos c0]
      · rw [if_neg c0, if_neg c0, ha, ix_nI (by have := (ha1 c0).1; omega)]
        by_cases c : kd = 4 ∨ kd = 5
        · rw [if_pos c, if_pos c, (hb c).2.1, ix_nI (by have := (hb c).1; omega)]
        · rw [if_neg c, if_neg c]
    rw [ep] at K
    obtain ⟨E2, hE2⟩ : ∃ E2, D2 = D1 ++ E2 := by
      rw [hD2]
      by_cases c : kd = 4 ∨ kd = 5
      · rw [if_pos c]; exact pst_ext _ _ _ _
      · rw [if_neg c]; exact ⟨[], (List.append_nil _).symm⟩
    have aD1 : kd ≠ 0 → aN ∈ D1 := fun e => by
      have := (ha1 e).2
      obtain ⟨f, rfl⟩ : ∃ f, d = f + 1 := ⟨d - 1, by omega⟩
      rw [hD1, if_neg e]; exact pst_mem _ _ _ _
    have aD2 : kd = 0 ∨ aN ∈ D2 := by
      by_cases e : kd = 0
      · exact Or.inl e
      · right; rw [hE2]; exact List.mem_append_left _ (aD1 e)
    have bD2 : kd = 4 ∨ kd = 5 → bN ∈ D2 := fun e => by
      have := (hb e).2.2
      obtain ⟨f, rfl⟩ : ∃ f, d = f + 1 := ⟨d - 1, by omega⟩
      rw [hD2, if_pos e]; exact pst_mem _ _ _ _
    have stage3 : ∀ (G' : Nat → Nat → Int32) (V' : Nat → Int32) (n' g' : Int32), mmM nn bd G0 V0 D2 G' V' n' g' → (rsL (FM G0) D2).2.1 = 0 → G' 23 h = nI n → (∀ i, i < h → G' 23 i = G 23 i) → WW z 0 0 (WM (zk z) ad G' V') 57 (lvR ad x n' g' (nI (h + 1))) [] := by
      intro G' V' n' g' mm' hf' hw' hb'
      refine rc_step E T hz hlv okp mm' hf' hn okc hh hw' (fun e q => absurd (aD2.resolve_left e) q) (fun _ e q => absurd (bD2 e) q) (fun _ _ G3 V3 n3 g3 m3 e3 => ?_)
      exact K G3 V3 n3 g3 (nI h) m3 (fun i hi => by rw [e3]; exact hb' i hi) (fun _ => rfl)
    have stage2 : ∀ (G' : Nat → Nat → Int32) (V' : Nat → Int32) (n' g' : Int32), mmM nn bd G0 V0 D1 G' V' n' g' → (rsL (FM G0) D1).2.1 = 0 → G' 23 h = nI n → (∀ i, i < h → G' 23 i = G 23 i) → WW z 0 0 (WM (zk z) ad G' V') 57 (lvR ad x n' g' (nI (h + 1))) [] := by
      intro G' V' n' g' mm' hf' hw' hb'
      by_cases c : kd = 4 ∨ kd = 5
      · have br := (hb c).2.2
        by_cases q : bN ∈ D1
        · have e2 : D2 = D1 := by rw [hD2, if_pos c]; exact pst_in (by omega) q
          rw [← e2] at mm' hf'
          exact stage3 G' V' n' g' mm' hf' hw' hb'
        · refine rc_step E T hz hlv okp mm' hf' hn okc hh hw' (fun e q => absurd (aD1 e) q) (fun _ _ _ => ?_) (fun _ e => absurd (e c) q)
          have e2 : D2 = pst (FM G0) d bN D1 := by rw [hD2, if_pos c]
          refine ih (ug G' 23 (h + 1) (nI bN)) V' D1 bN (h + 1) n' g' (mm'.w23 _ _) hf' (hb c).1 q (by omega) (by omega) ug_same (fun G3 V3 n3 g3 w3 m3 b3 e3 => ?_)
          rw [← e2] at m3 e3
          have b3' : ∀ i, i < h + 1 → G3 23 i = G' 23 i := fun i hi => by rw [b3 i hi, ug_i (by omega)]
          by_cases f3 : (rsL (FM G0) D2).2.1 = 0
          · rw [e3 f3]
            exact stage3 G3 V3 n3 g3 m3 f3 ((b3' h (by omega)).trans hw') (fun i hi => (b3' i (by omega)).trans (hb' i hi))
          · refine K G3 V3 n3 g3 w3 (m3.stop f3 [n]) (fun i hi => (b3' i (by omega)).trans (hb' i hi)) (fun w => ?_)
            rw [rsL_stop f3] at w; exact absurd w f3
      · have e2 : D2 = D1 := by rw [hD2, if_neg c]
        rw [← e2] at mm' hf'
        exact stage3 G' V' n' g' mm' hf' hw' hb'
    by_cases c0 : kd = 0
    · have e1 : D1 = D := by rw [hD1, if_pos c0]
      rw [← e1] at mm hf
      exact stage2 G V n9 g9 mm hf hw (fun _ _ => rfl)
    · have ar := (ha1 c0).2
      by_cases q : aN ∈ D
      · have e1 : D1 = D := by rw [hD1, if_neg c0]; exact pst_in (by omega) q
        rw [← e1] at mm hf
        exact stage2 G V n9 g9 mm hf hw (fun _ _ => rfl)
      · refine rc_step E T hz hlv okp mm hf hn okc hh hw (fun _ _ => ?_) (fun hA => absurd hA (fun w => w.elim c0 q)) (fun hA => absurd hA (fun w => w.elim c0 q))
        have e1 : D1 = pst (FM G0) d aN D := by rw [hD1, if_neg c0]
        refine ih (ug G 23 (h + 1) (nI aN)) V D aN (h + 1) n9 g9 (mm.w23 _ _) hf (ha1 c0).1 q (by omega) (by omega) ug_same (fun G3 V3 n3 g3 w3 m3 b3 e3 => ?_)
        rw [← e1] at m3 e3
        have b3' : ∀ i, i < h + 1 → G3 23 i = G 23 i := fun i hi => by rw [b3 i hi, ug_i (by omega)]
        by_cases f3 : (rsL (FM G0) D1).2.1 = 0
        · rw [e3 f3]
          exact stage2 G3 V3 n3 g3 m3 f3 ((b3' h (by omega)).trans hw) (fun i hi => b3' i (by omega))
        · have m4 := m3.stop f3 (E2 ++ [n])
          have f4 := rsL_stop f3 (E2 ++ [n])
          rw [← List.append_assoc, ← hE2] at m4 f4
          refine K G3 V3 n3 g3 w3 m4 (fun i hi => b3' i (by omega)) (fun w => ?_)
          rw [f4] at w; exact absurd w f3
/-- what a run leaves: the latest results -/
def rnM (G0 : Nat → Nat → Int32) (V0 : Nat → Int32) (n : Nat) (s : RSt) (G' : Nat → Nat → Int32) (V' : Nat → Int32) : Prop :=
  (∀ p, p ≠ 17 → p ≠ 18 → p ≠ 19 → p ≠ 20 → p ≠ 21 → p ≠ 22 → p ≠ 23 → p ≠ 24 → G' p = G0 p) ∧ (∀ j, j ≠ 3 → j ≠ 4 → j ≠ 5 → j ≠ 6 → j ≠ 7 → j ≠ 8 → j ≠ 9 → j ≠ 10 → j ≠ 11 → V' j = V0 j) ∧
  V' 8 = s.2.1 ∧ V' 9 = s.2.2.1 ∧ V' 10 = s.2.2.2.1 ∧ V' 11 = s.2.2.2.2 ∧ V' 7 = (if s.2.1 = 0 then nI (s.1 n).length else 0) ∧ (s.2.1 = 0 → (s.1 n).length ≤ 100 ∧ s.1 n = tb (G' 24) 0 (s.1 n).length)
def runA (s : RSt) (n : Nat) : Int32 := if s.2.1 = 0 then nI (s.1 n).length else (-10) - s.2.1
set_option maxHeartbeats 1600000 in
theorem c_run {l : Launch} {k : Kt} {ad : Nat → Nat} {G0 : Nat → Nat → Int32} {V0 : Nat → Int32} {nn nf : Nat} {bd rk : Nat → Nat} (okp : okP (FM G0) nn nf bd rk) (hV1 : V0 1 = nI nn) {x : Int32} {n : Nat} (hx : x = nI n) (hn : n < nn) :
    CT l k yX6_run cX6_run 6 (some .int) 7 [.ref (ad 0), .int x] (WM k ad G0 V0) (fun v9 w' => v9 = some (.int (runA (rsL (FM G0) (pst (FM G0) 60 n [])) n)) ∧ ∃ (G' : Nat → Nat → Int32) (V' : Nat → Int32), w' = WM k ad G' V' ∧ rnM G0 V0 n (rsL (FM G0) (pst (FM G0) 60 n [])) G' V') 0 0 := by
  have hnn := okp.1
  refine ct_of (own := RX6) (lv0 := [(0, .ref (ad 0)), (1, .int x)]) (by decide) rfl (Nat.le_of_ble_eq_true rfl) rfl ?_
  rintro z rfl rfl hz - E T
  have exn : ix x = n := by rw [hx]; exact ix_nI (by omega)
  have hxv : vp_in x 60 := by rw [hx]; exact vp_in_nI (by omega) (by omega)
  generalize hs : rsL (FM G0) (pst (FM G0) 60 n []) = s at *
  obtain ⟨PP, hPP⟩ : ∃ PP : Option Value → va_W → Prop, PP = (fun v9 w' => v9 = some (.int (runA s n)) ∧ ∃ (G' : Nat → Nat → Int32) (V' : Nat → Int32), w' = WM (zk z) ad G' V' ∧ rnM G0 V0 n s G' V') := ⟨_, rfl⟩
  rw [← hPP] at T
  -- the copying of the latest rows
  have last : ∀ (N j : Nat) (j9 : Int32) (G : Nat → Nat → Int32) (V : Nat → Int32) (len : Nat), j9 = nI j → j ≤ 6 * len → 6 * len ≤ j + N → len ≤ 100 → V 7 = nI len → (∀ p, p ≠ 17 → p ≠ 18 → p ≠ 19 → p ≠ 20 → p ≠ 21 → p ≠ 22 → p ≠ 23 → p ≠ 24 → G p = G0 p) → (∀ t, t < j → G 24 t = G 20 (600 * n + t)) → (∀ G' : Nat → Nat → Int32, (∀ p, p ≠ 17 → p ≠ 18 → p ≠ 19 → p ≠ 20 → p ≠ 21 → p ≠ 22 → p ≠ 23 → p ≠ 24 → G' p = G0 p) → (∀ t, t < 6 * len → G' 24 t = G 20 (600 * n + t)) → PP (some (.int (if V 5 = 0 then V 7 else (-10) - V 5))) (WM (zk z) ad G' V)) → WW z 0 0 (WM (zk z) ad G V) 260 [(0, .ref (ad 0)), (1, .int x), (5, .int j9)] [] := by
    intro N
    induction N with
    | zero =>
      intro j j9 G V len hj h1 h2 hl h7 hG hC K
      have e6 : 6 * V 7 = nI (6 * len) := by rw [h7, show (6 : Int32) = nI 6 from rfl, pk_mul]
      have ab : 6 * V 7 ≤ j9 := by rw [e6, hj]; exact nI_le (by omega) (by omega)
      exact r_e E T hz (Nat.le_refl 7) x j9 (fun c => absurd ab c) (fun c => absurd ab c) (fun _ => K G hG (fun t ht => hC t (by omega))) (fun G1 _ c => absurd ab c)
    | succ N ih =>
      intro j j9 G V len hj h1 h2 hl h7 hG hC K
      have e6 : 6 * V 7 = nI (6 * len) := by rw [h7, show (6 : Int32) = nI 6 from rfl, pk_mul]
      have hlt : ¬ 6 * V 7 ≤ j9 → j < 6 * len := fun c => by
        rcases Nat.lt_or_ge j (6 * len) with q | q
        · exact q
        · exact absurd (by rw [e6, hj]; exact nI_le q (by omega)) c
      have eC : j < 6 * len → 600 * x + j9 = nI (600 * n + j) := fun q => by rw [hx, hj, show (600 : Int32) = nI 600 from rfl, pk_mul, nI_add]
      refine r_e E T hz (Nat.le_refl 7) x j9 (fun c => by have := hlt c; rw [hj]; exact vp_in_nI (by omega) (by omega)) (fun c => by have := hlt c; rw [eC this]; exact vp_in_nI (by omega) (by omega)) (fun c => ?_) (fun G1 e1 c => ?_)
      · rw [e6, hj, nI_leI (by omega) (by omega)] at c
        exact K G hG (fun t ht => hC t (by omega))
      · have q := hlt c
        rw [eC q, ix_nI (by omega), hj, ix_nI (by omega)] at e1
        refine ih (j + 1) (j9 + 1) G1 V len (by rw [hj]; exact nI_1 j) (by omega) (by omega) hl h7 (fun p a b c d e f g h => by rw [e1, ug_other h]; exact hG p a b c d e f g h) (fun t ht => ?_) (fun G' g1 g3 => K G' g1 (fun t ht => by rw [g3 t ht, e1, ug_p (by decide)]))
        rw [e1, ug_if2, ug_p (by decide)]
        by_cases w : t = j
        · rw [if_pos w, w]
        · rw [if_neg w]; exact hC t (by omega)
  -- behind the loop
  have fin : ∀ (G : Nat → Nat → Int32) (V : Nat → Int32) (n9 g9 : Int32), mmM nn bd G0 V0 (pst (FM G0) 60 n []) G V n9 g9 → WW z 0 0 (WM (zk z) ad G V) 210 [(0, .ref (ad 0)), (1, .int x), (2, .int n9), (3, .int g9)] [] := by
    intro G V n9 g9 mm
    obtain ⟨g1, v5, v6, en, eg, vo, gd⟩ := mm
    rw [hs] at v5 v6 en eg gd
    refine r_d E T hz (Nat.le_refl 7) x n9 g9 hxv ?_
    generalize hV : upd (upd (upd (upd (upd V 8 (V 5)) 9 ((upd V 8 (V 5)) 6)) 10 n9) 11 g9) 7 (if (upd (upd (upd (upd V 8 (V 5)) 9 ((upd V 8 (V 5)) 6)) 10 n9) 11 g9) 5 = 0 then (G 21 (ix x)) else 0) = V2
    have w7 : V2 7 = if V 5 = 0 then G 21 (ix x) else 0 := by rw [← hV]; rfl
    have w8 : V2 8 = V 5 := by rw [← hV]; rfl
    have w9 : V2 9 = V 6 := by rw [← hV]; rfl
    have w10 : V2 10 = n9 := by rw [← hV]; rfl
    have w11 : V2 11 = g9 := by rw [← hV]; rfl
    have w5 : V2 5 = V 5 := by rw [← hV]; rfl
    have wo : ∀ j, j ≠ 3 → j ≠ 4 → j ≠ 5 → j ≠ 6 → j ≠ 7 → j ≠ 8 → j ≠ 9 → j ≠ 10 → j ≠ 11 → V2 j = V0 j := fun j a b c d e f g h i => by
      rw [← hV]; simp only [upd, if_neg e, if_neg f, if_neg g, if_neg h, if_neg i]; exact vo j a b c d
    by_cases hf : s.2.1 = 0
    · obtain ⟨d22, dR⟩ := gd hf
      have hmem : n ∈ pst (FM G0) 60 n [] := pst_mem _ 59 n []
      obtain ⟨r1, r2, r3, r4⟩ := dR n hmem
      have l100 : (s.1 n).length ≤ 100 := by
        obtain ⟨_, _, _, _, hh⟩ := okp.2.2.2.2.2 n hn; have := hh.2.2.2.2.1; omega
      have e7 : V2 7 = nI (s.1 n).length := by rw [w7, if_pos (v5.trans hf), exn]; exact r2
      refine last (6 * (s.1 n).length) 0 0 G V2 (s.1 n).length rfl (Nat.zero_le _) (by omega) l100 e7 (fun p a b c d e f g _ => g1 p a b c d e f g) (fun t ht => absurd ht (Nat.not_lt_zero _)) (fun G' g1' g24 => ?_)
      rw [hPP]
      refine ⟨?_, G', V2, rfl, g1', wo, w8.trans v5, w9.trans v6, w10.trans en, w11.trans eg, ?_, fun _ => ⟨l100, ?_⟩⟩
      · unfold runA; rw [if_pos hf, w5, if_pos (v5.trans hf), e7]
      · rw [if_pos hf]; exact e7
      · exact r3.trans (tb_congr fun j hj => by rw [Nat.zero_add, g24 j hj])
    · have e7 : V2 7 = nI 0 := by rw [w7, if_neg (by rw [v5]; exact hf)]; rfl
      refine last 0 0 0 G V2 0 rfl (Nat.le_refl 0) (Nat.le_refl 0) (by omega) e7 (fun p a b c d e f g _ => g1 p a b c d e f g) (fun t ht => absurd ht (Nat.not_lt_zero _)) (fun G' g1' g24 => ?_)
      rw [hPP]
      refine ⟨?_, G', V2, rfl, g1', wo, w8.trans v5, w9.trans v6, w10.trans en, w11.trans eg, ?_, fun e => absurd e hf⟩
      · unfold runA; rw [if_neg hf, w5, if_neg (by rw [v5]; exact hf), v5]
      · rw [if_neg hf]; exact e7
  -- the loop's exit
  have exit : ∀ (G : Nat → Nat → Int32) (V : Nat → Int32) (n9 g9 w9 : Int32), mmM nn bd G0 V0 (pst (FM G0) 60 n []) G V n9 g9 → (s.2.1 = 0 → w9 = nI 0) → WW z 0 0 (WM (zk z) ad G V) 57 (lvR ad x n9 g9 w9) [] := by
    intro G V n9 g9 w9 mm hw
    have v5 := mm.2.1
    rw [hs] at v5
    by_cases hf : s.2.1 = 0
    · have ew := hw hf
      have w0 : w9 ≤ 0 := by rw [ew]; decide
      exact r_c E T hz (Nat.le_refl 7) x n9 g9 w9 (fun c => absurd w0 c) (fun c => absurd w0 c) (fun c => absurd w0 c) (fun c => absurd w0 c) (fun c => absurd w0 c) (fun c => absurd w0 c) (fun _ _ => True) (fun c => absurd w0 c) (fun _ => fin G V n9 g9 mm) (fun c => absurd w0 c) (fun _ _ _ _ _ c => absurd w0 c) (fun _ _ _ _ _ c => absurd w0 c) (fun _ _ c => absurd w0 c) (fun _ _ _ _ _ c => absurd w0 c) (fun _ _ _ _ _ c => absurd w0 c) (fun _ _ c => absurd w0 c) (fun _ _ c => absurd w0 c)
    · exact r_x E T hz (Nat.le_refl 7) x n9 g9 w9 (by rw [v5]; exact hf) (fun _ => fin G V n9 g9 mm) (fun _ => fin G V n9 g9 mm)
  -- the clearing of isDone, then the loop
  have begin9 : ∀ (N j : Nat) (j9 : Int32) (G : Nat → Nat → Int32), j9 = nI j → j ≤ nn → nn ≤ j + N → (∀ p, p ≠ 22 → G p = G0 p) → (∀ t, t < j → G 22 t = 0) → WW z 0 0 (WM (zk z) ad G V0) 12 [(0, .ref (ad 0)), (1, .int x), (2, .int j9)] [] := by
    have go : ∀ (G : Nat → Nat → Int32), (∀ p, p ≠ 22 → G p = G0 p) → (∀ t, t < nn → G 22 t = 0) → ∀ G1, G1 = ug G 23 (ix 0) x → WW z 0 0 (WM (zk z) ad G1 (upd (upd V0 5 0) 6 0)) 57 [(0, .ref (ad 0)), (1, .int x), (2, .int 0), (3, .int (-1)), (4, .int 1)] [] := by
      intro G hG hC G1 e1
      have m0 : mmM nn bd G0 V0 [] G (upd (upd V0 5 0) 6 0) 0 (-1) := by
        refine ⟨fun p _ _ _ _ _ p6 _ => hG p p6, rfl, rfl, rfl, rfl, fun j _ _ c d => by simp only [upd, if_neg c, if_neg d], fun _ => ⟨fun i hi => ?_, fun i hi => absurd hi List.not_mem_nil⟩⟩
        rw [hC i hi, if_neg List.not_mem_nil]
      have m1 : mmM nn bd G0 V0 [] G1 (upd (upd V0 5 0) 6 0) 0 (-1) := by rw [e1]; exact m0.w23 _ _
      have hrk := okp.2.2.2.2.1 n hn
      refine vis_run E T hz (Nat.le_refl 7) okp 60 G1 (upd (upd V0 5 0) 6 0) [] n 0 0 (-1) m1 rfl hn List.not_mem_nil hrk (by omega) (by rw [e1, hx]; exact ug_same) (fun G' V' n' g' w' m' _ ew => ?_)
      rw [hs] at ew
      exact exit G' V' n' g' w' m' ew
    intro N
    induction N with
    | zero =>
      intro j j9 G hj h1 h2 hG hC
      have ab : V0 1 ≤ j9 := by rw [hV1, hj]; exact nI_le (by omega) (by omega)
      exact r_b E T hz (Nat.le_refl 7) x j9 (fun c => absurd ab c) (fun G1 e1 _ => go G hG (fun t ht => hC t (by omega)) G1 e1) (fun G1 _ c => absurd ab c)
    | succ N ih =>
      intro j j9 G hj h1 h2 hG hC
      have hlt : ¬ V0 1 ≤ j9 → j < nn := fun c => by
        rcases Nat.lt_or_ge j nn with q | q
        · exact q
        · exact absurd (by rw [hV1, hj]; exact nI_le q (by omega)) c
      refine r_b E T hz (Nat.le_refl 7) x j9 (fun c => by have := hlt c; rw [hj]; exact vp_in_nI (by omega) (by omega)) (fun G1 e1 c => ?_) (fun G1 e1 c => ?_)
      · rw [hV1, hj, nI_leI (by omega) (by omega)] at c
        exact go G hG (fun t ht => hC t (by omega)) G1 e1
      · have q := hlt c
        rw [hj, ix_nI (by omega)] at e1
        refine ih (j + 1) (j9 + 1) G1 (by rw [hj]; exact nI_1 j) (by omega) (by omega) (fun p hp => by rw [e1, ug_other hp]; exact hG p hp) (fun t ht => ?_)
        rw [e1, ug_if2]
        by_cases w : t = j
        · rw [if_pos w]
        · rw [if_neg w]; exact hC t (by omega)
  refine r_a E T hz (Nat.le_refl 7) x (fun _ => begin9 nn 0 0 G0 rfl (Nat.zero_le _) (by omega) (fun _ _ => rfl) (fun t ht => absurd ht (Nat.not_lt_zero _))) (fun c => ?_)
  exfalso
  have e : fX6_isNode V0 x = 1 := by
    unfold fX6_isNode
    rw [in_cnt (show nn < 2 ^ 31 by omega) hV1, hx, if_neg (nI_pos (by omega)), if_neg (by rw [nI_leI (by omega) (by omega)]; omega)]
  rw [e] at c
  exact absurd c (by decide)
