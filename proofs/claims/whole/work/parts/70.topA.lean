theorem stp_one {G : Nat → Nat → Int32} {V : Nat → Int32} {x i r i' r' : Nat} (h : stp G V x i r) (h' : stp G V x i' r') (hr : r < 18) (hr' : r' < 18) : i' = i ∧ r' = r := by
  obtain ⟨nn, e1, e2, e3, e4, e5, e6⟩ := h
  obtain ⟨nn', f1, f2, f3, f4, f5, f6⟩ := h'
  have h0 : i' = i := by
    rcases Nat.lt_trichotomy i' i with q | q | q
    · have w := e6 i' q f4; rw [f5] at w; exact absurd w (nI_pos (by omega))
    · exact q
    · have w := f6 i q e4; rw [e5] at w; exact absurd w (nI_pos (by omega))
  subst h0
  rw [e5] at f5
  exact ⟨rfl, ((nI_eq (by omega) (by omega)).mp f5).symm⟩
theorem SWR.no {x m c : Nat} {G G' : Nat → Nat → Int32} {V V' : Nat → Int32} (h : SWR x (m + 1) G V c G' V') (no : ∀ i r : Nat, r < 18 → stp G V x i r → fX2_hasRoom G V (nI i) (nI r) = 0) : c = 0 ∧ G' = G ∧ V' = V := by
  rcases h with ⟨-, w⟩ | ⟨i, r, c', hr, h, hm, rfl, t⟩
  · exact w
  · exact absurd (no i r hr h) hm
theorem SWR.yes {x m c i r : Nat} {G G' : Nat → Nat → Int32} {V V' : Nat → Int32} (h : SWR x (m + 1) G V c G' V') (hr : r < 18) (s : stp G V x i r) (hm : ¬ fX2_hasRoom G V (nI i) (nI r) = 0) : ∃ c' : Nat, c = c' + 1 ∧ SWR x m (apG G V (nI i) r) (apV G V (nI i) r) c' G' V' := by
  rcases h with ⟨no, w⟩ | ⟨i', r', c', hr', h, hm', rfl, t⟩
  · exact absurd (no i r hr s) hm
  · obtain ⟨rfl, rfl⟩ := stp_one s h hr hr'
    exact ⟨c', rfl, t⟩
theorem SWR.none {x m c nn : Nat} {G G' : Nat → Nat → Int32} {V V' : Nat → Int32} (h : SWR x (m + 1) G V c G' V') (v1 : V 1 = nI nn) (hnn : nn ≤ 60) (no : ∀ t, t < nn → t ∈ pst (QC G) 60 x [] → fX2_leastRule G (nI t) < 0) : c = 0 ∧ G' = G ∧ V' = V := by
  refine h.no (fun i r hr s => ?_)
  obtain ⟨nn', e1, e2, e3, e4, e5, e6⟩ := s
  rw [v1, nI_eq (by omega) (by omega)] at e1
  have w := no i (by omega) e4
  rw [e5] at w
  exact absurd w (nI_pos (by omega))
set_option maxHeartbeats 800000 in
/-- sweep: the class along a run of rewrites -/
theorem c_sweepC {l : Launch} {k : Kt} {ad : Nat → Nat} {G G' : Nat → Nat → Int32} {V V' : Nat → Int32} {n nn nf x t c : Nat} {bd rk : Nat → Nat} (p : PLC G V nn nf bd rk) (hx : x < nn) (ht : t ≤ 100) (w : SWR x t G V c G' V') : CT l k yX5_sweep cX5_sweep 6 (some .int) 8 [.ref (ad 0), .int (nI x), .int (nI t)] (WC k ad G V n) (fun v w' => ∃ A' : Nat → Nat → Int32, v = some (.int (nI c)) ∧ w' = WC k ad A' V' n ∧ E20 A' G') 0 0 := by
  refine ct_of (own := RX5) (lv0 := [(0, .ref (ad 0)), (1, .int (nI x)), (2, .int (nI t))]) (by decide) rfl (Nat.le_of_ble_eq_true rfl) rfl ?_
  rintro z rfl rfl hz - E T
  have hnn := p.1
  have main : ∀ (m i d : Nat) (A Q : Nat → Nat → Int32) (R : Nat → Int32) (nn nf : Nat) (bd rk : Nat → Nat), i + m = t → i + d = c → PLC Q R nn nf bd rk → x < nn → E20 A Q → SWR x m Q R d G' V' → WW z 0 0 (WC (zk z) ad A R n) 25 [(0, .ref (ad 0)), (1, .int (nI x)), (2, .int (nI t)), (3, .int (nI i))] [] := by
    intro m
    induction m with
    | zero =>
      intro i d A Q R nn nf bd rk hi hd p hx hE hw
      obtain ⟨rfl, rfl, rfl⟩ := hw
      refine sw_b E T hz (nI x) (nI t) (nI i) (fun _ => ⟨A, by rw [show t = c by omega], rfl, hE⟩) (fun q => absurd (nI_le (by omega) (by omega)) q)
    | succ m ih =>
      intro i d A Q R nn nf bd rk hi hd p hx hE hw
      have hnn := p.1
      have v1 := p.2.2.2.1
      refine sw_b E T hz (nI x) (nI t) (nI i) (fun q => absurd q (nI_ge (by omega) (by omega))) (fun q => ?_)
      refine rV E cvX5_157 T.rr Fr.all 27 wc_27 rfl [.int (nI x)] (c_leastNode (l := zl z) (k := zk z) (ad := ad) (n := n) hE p hx) (by decide) rfl rfl (Nat.le_of_ble_eq_true rfl) ⟨Nat.le_refl _, Nat.le_refl _⟩ dX5_sweep_35 (fun v w' hh => ?_)
      obtain ⟨A', rfl, hE', hh⟩ := hh
      have p' : PLC A' R nn nf bd rk := p.cong (fun p hp => hE' p (by omega) (by omega) (by omega))
      rcases hh with ⟨rfl, no⟩ | ⟨i0, rfl, h0, hm, hn, hl⟩
      · have n0 : ¬ (0 : Int32) ≤ -1 := by decide
        have e : (if (0 : Int32) ≤ -1 then fX2_leastRule A' (-1) else (-1)) = -1 := if_neg n0
        refine sw_c E T hz (by decide) (nI x) (nI t) (nI i) (-1) (fun q => absurd q n0) (fun q => absurd q n0) (fun q => absurd q n0) (fun q => absurd q n0) (fun q => absurd (by rw [e]; decide) q) (fun q => absurd (by rw [e]; decide) q) (fun q => absurd (by rw [e]; decide) q) (fun _ => ?_) (fun q => absurd (by rw [e]; decide) q) (fun q => absurd (by rw [e]; decide) q)
        obtain ⟨rfl, rfl, rfl⟩ := hw.none v1 hnn no
        exact ⟨A', by rw [show i = c by omega], rfl, hE'⟩
      · rcases lr_cases Q (nI i0) with w | ⟨r, hr, er, hs⟩
        · rw [w] at hn; exact absurd (by decide) hn
        · have s : stp Q R x i0 r := ⟨nn, v1, hnn, h0, hm, er, hl⟩
          have e : (if 0 ≤ nI i0 then fX2_leastRule A' (nI i0) else (-1)) = nI r := by
            rw [if_pos (show (0 : Int32) ≤ nI i0 from nI_le (a := 0) (Nat.zero_le _) (by omega)), leastE hE', er]
          have hs' : ¬ fX2_suits A' (nI i0) (nI r) = 0 := by rw [suitsE hE']; exact hs
          refine sw_c E T hz (by decide) (nI x) (nI t) (nI i) (nI i0) (fun _ => (p'.cst h0 0).1) (fun _ rule hr e => (p'.cst h0 rule).2.1 e hr) (fun _ rule hr => (p'.cst h0 rule).2.2.1 hr) (fun _ rule hr => (p'.cst h0 rule).2.2.2 hr) (fun _ => (p'.cst h0 0).1) (fun _ => by rw [e]; exact vp_in_nI hr (by decide)) (fun _ e7 => ?_) (fun q => ?_) (fun q q2 => ?_) (fun q q2 => ?_)
          · rw [e] at e7
            obtain ⟨c1, c2, c3, c4⟩ := p'.cst h0 (nI r)
            obtain ⟨hk, hc⟩ := suits_kinds hs'
            have r18 : vp_in (nI r) 18 := vp_in_nI hr (by decide)
            have := c3 r18 hk hc (by rw [e7]; decide)
            exact ⟨c2 hk r18, this.2.2.2 e7, this.1⟩
          · rw [e] at q; exact absurd q (nI_pos (by omega))
          · rw [e] at q2 ⊢
            refine rVv E cvX5_150 T.rr 27 wc_27 rfl [.int (nI i0), .int (nI r)] (c_apply (l := zl z) (k := zk z) (ad := ad) (n := n) p' h0 hr hs' q2) (by decide) rfl rfl (Nat.le_of_ble_eq_true rfl) ⟨Nat.le_refl _, Nat.le_refl _⟩ dX5_sweep_89 rfl ?_
            refine sw_d E T hz (nI x) (nI t) (nI i) ?_
            rw [nI_1]
            have q2' : ¬ fX2_hasRoom Q R (nI i0) (nI r) = 0 := by rw [← roomE hE']; exact q2
            obtain ⟨d', rfl, tt⟩ := hw.yes hr s q2'
            obtain ⟨nn', nf', bd', rk', pp, hle⟩ := p.ap h0 hr hs q2'
            rw [(apE hE' R (nI i0) r).2]
            exact ih (i + 1) d' _ _ _ nn' nf' bd' rk' (by omega) (by omega) pp (by omega) (apE hE' R (nI i0) r).1 tt
          · rw [e] at q2
            obtain ⟨rfl, rfl, rfl⟩ := hw.no (fun i' r' hr' s' => by
              obtain ⟨rfl, rfl⟩ := stp_one s s' hr hr'
              rw [← roomE hE']; exact q2)
            exact ⟨A', by rw [show i = c by omega], rfl, hE'⟩
  refine sw_a E T hz (by decide) (nI x) (nI t) (fun q => ?_) (fun _ q => absurd q (nI_pos (by omega))) (fun _ _ _ => ?_) (fun _ _ q => absurd (nI_le (b := 100) ht (by decide)) q)
  · unfold fX1_has at q
    rw [p.2.2.2.1, if_neg (nI_pos (by omega)), if_neg (nI_ge hx (by omega))] at q; exact absurd q (by decide)
  · exact main t 0 c G G V nn nf bd rk (by omega) (by omega) p hx (fun _ _ _ _ => rfl) w
