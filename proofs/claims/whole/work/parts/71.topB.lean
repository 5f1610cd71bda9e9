set_option maxHeartbeats 1600000 in
/-- sweep: the reference along the same run -/
theorem c_sweepM {l : Launch} {k : Kt} {am : Nat → Nat} {G G' H : Nat → Nat → Int32} {V V' U : Nat → Int32} {nn nf x t c : Nat} {bd rk : Nat → Nat} (p : PLC G V nn nf bd rk) (ag : AGR G H nn nf) (u0 : U 0 = nI nf) (u1 : U 1 = nI nn) (u2 : U 2 = V 9) (hx : x < nn) (ht : t ≤ 100) (w : SWR x t G V c G' V') : CT l k yX6_sweep cX6_sweep 8 (some .int) 6 [.ref (am 0), .int (nI x), .int (nI t)] (WM k am H U) (fun v w' => ∃ (H' : Nat → Nat → Int32) (U' : Nat → Int32), v = some (.int (nI c)) ∧ w' = WM k am H' U' ∧ SIMP G' V' H' U' ∧ H' 24 = H 24 ∧ ∀ j, 7 ≤ j → U' j = U j) 0 0 := by
  refine ct_of (own := RX6) (lv0 := [(0, .ref (am 0)), (1, .int (nI x)), (2, .int (nI t))]) (by decide) rfl (Nat.le_of_ble_eq_true rfl) rfl ?_
  rintro z rfl rfl hz - E T
  have hnn := p.1
  have main : ∀ (m i d : Nat) (Q B : Nat → Nat → Int32) (R C : Nat → Int32) (nn nf : Nat) (bd rk : Nat → Nat), i + m = t → i + d = c → PLC Q R nn nf bd rk → AGR Q B nn nf → C 0 = nI nf → C 1 = nI nn → C 2 = R 9 → x < nn → B 24 = H 24 → (∀ j, 7 ≤ j → C j = U j) → SWR x m Q R d G' V' → WW z 0 0 (WM (zk z) am B C) 27 [(0, .ref (am 0)), (1, .int (nI x)), (2, .int (nI t)), (3, .int (nI i)), (4, .int 1)] [] := by
    intro m
    induction m with
    | zero =>
      intro i d Q B R C nn nf bd rk hi hd p ag c0 c1 c2 hx b24 cj hw
      obtain ⟨rfl, rfl, rfl⟩ := hw
      exact sr_b E T hz (nI x) (nI t) (nI i) 1 (fun q => absurd q (by decide)) (fun _ _ => ⟨B, C, by rw [show i = c by omega], rfl, ⟨nn, nf, bd, rk, p, ag, c0, c1, c2⟩, b24, cj⟩) (fun _ q => absurd (nI_le (by omega) (by omega)) q)
    | succ m ih =>
      intro i d Q B0 R C nn nf bd rk hi hd p ag0 c0 c1 c2 hx b24 cj hw
      have hnn := p.1
      have v1 := p.2.2.2.1
      refine sr_b E T hz (nI x) (nI t) (nI i) 1 (fun q => absurd q (by decide)) (fun _ q => absurd q (nI_ge (by omega) (by omega))) (fun _ _ => ?_)
      refine rV E cvX6_159 T.rr Fr.all 0 wm_0 rfl [] (c_look (l := zl z) (k := zk z) (ad := am) (p.lk ag0) c1) (by decide) rfl rfl (Nat.le_of_ble_eq_true rfl) ⟨Nat.zero_le _, Nat.zero_le _⟩ dX6_sweep_38 (fun v9 w9 h9 => ?_)
      obtain ⟨rfl, B, rfl, hb, hl⟩ := h9
      have ag : AGR Q B nn nf := ag0.cong (fun p h => hb p (by omega) (by omega))
      have b24 : B 24 = H 24 := (hb 24 (by decide) (by decide)).trans b24
      have h16 : ∀ i, i < nn → B 16 i = Q 19 i := fun i hi => (hl i hi).2
      have okp := p.okP ag
      have eP : pst (QC Q) 60 x [] = pst (FM B) 60 x [] := QC_pst p ag hx
      refine sr_c E T hz (nI x) (nI t) (nI i) ?_
      refine rV E cvX6_267 T.rr Fr.all 0 wm_0 rfl [.int (nI x)] (c_below (l := zl z) (k := zk z) (am := am) okp c1 hx) (by decide) rfl rfl (Nat.le_of_ble_eq_true rfl) ⟨Nat.zero_le _, Nat.zero_le _⟩ dX6_sweep_43 (fun v9 w9 h9 => ?_)
      obtain ⟨b9, rfl, rfl, hbt⟩ := h9
      rw [← eP] at hbt
      refine sr_d E T hz (nI x) (nI t) (nI i) b9 ?_
      have stop : (∀ i r : Nat, r < 18 → stp Q R x i r → fX2_hasRoom Q R (nI i) (nI r) = 0) → ∀ j9 : Int32, WW z 0 0 (WM (zk z) am B C) 119 [(0, .ref (am 0)), (1, .int (nI x)), (2, .int (nI t)), (3, .int (nI i)), (4, .int 0), (7, .int j9)] [] := fun no j9 => by
        have nz : ¬ ¬ (0 : Int32) = 0 := fun q => q rfl
        refine sr_g E T hz (by decide) (nI x) (nI t) (nI i) 0 j9 (fun q => absurd q nz) (fun q => absurd q nz) (fun q => absurd q nz) (fun q => absurd q nz) (fun q => absurd q nz) (fun q => absurd q nz) (fun q => absurd q nz) (fun q => absurd q nz) (fun q => absurd q nz) (fun q => absurd q nz) (fun _ => ?_) (fun _ _ q => absurd q nz)
        obtain ⟨rfl, rfl, rfl⟩ := hw.no no
        exact sr_b E T hz (nI x) (nI t) (nI i) 0 (fun _ => ⟨B, C, by rw [show i = c by omega], rfl, ⟨nn, nf, bd, rk, p, ag, c0, c1, c2⟩, b24, cj⟩) (fun q => absurd q nz) (fun q => absurd q nz)
      have hlt : ∀ j : Nat, j ≤ nn → ¬ C 1 ≤ nI j → j < nn := fun j hj q => by
        rcases Nat.lt_or_ge j nn with w | w
        · exact w
        · exact absurd (by rw [c1]; exact nI_le w (by omega)) q
      have bit : ∀ j : Nat, j < nn → (lg_cmp ((b9 >>> ((nI j).toInt64 &&& 63)) &&& 1) 0 = 0 ↔ j ∉ pst (QC Q) 60 x []) := fun j hj => by
        rw [lcmp0, wbt_shr b9 (by omega), ← hbt j hj]
        by_cases q : wbt b9 j = true
        · rw [if_pos q]; exact ⟨fun w => absurd w (by decide), fun w => absurd q w⟩
        · rw [if_neg q]; exact ⟨fun _ => q, fun _ => rfl⟩
      have least : ∀ j : Nat, j < nn → j ∈ pst (QC Q) 60 x [] → (∀ t, t < j → t ∈ pst (QC Q) 60 x [] → fX2_leastRule Q (nI t) < 0) → ¬ fX6_ruleFor B (nI j) = -1 → WW z 0 0 (WM (zk z) am B C) 88 [(0, .ref (am 0)), (1, .int (nI x)), (2, .int (nI t)), (3, .int (nI i)), (7, .int (nI j))] [] := by
        intro j hj hm hno hr9
        have el := lr_eq p ag h16 hj
        rcases lr_cases Q (nI j) with w | ⟨r, hr, er, hs⟩
        · rw [el] at w; exact absurd w hr9
        · have s : stp Q R x j r := ⟨nn, v1, hnn, hj, hm, er, hno⟩
          have e6 : fX6_ruleFor B (nI j) = nI r := el.symm.trans er
          have st6 : ¬ fX6_stands B (nI j) (nI r) = 0 := by rw [← suits_eq p ag h16 hj hr]; exact hs
          have rm := room_eq (U := C) p ag c0 c1 hj hr hs
          obtain ⟨t1, t2, t3, t4, t5⟩ := p.hst ag hj
          have as := rw_asks p ag c0 c1 hj (nI r) st6 (fun e => std7 p ag h16 hj e st6)
          refine sr_f E T hz (by decide) (nI x) (nI t) (nI i) (nI j) (fun _ => t1) (fun _ => t2) (fun _ => t3) (fun _ => t4) (fun _ => t5) (fun _ => by rw [e6]; exact as.1) ?_
          rw [e6, if_neg (show ¬ C 1 ≤ nI j by rw [c1]; exact nI_ge hj (by omega))]
          by_cases q : fX6_hasRoom B C (nI j) (nI r) = 0
          · rw [if_pos q]
            refine stop (fun i' r' hr' s' => ?_) (nI j)
            obtain ⟨rfl, rfl⟩ := stp_one s s' hr hr'
            rw [rm]; exact q
          · rw [if_neg q]
            obtain ⟨a1, a2, a3, a4, a5⟩ := as.2 q
            refine sr_g E T hz (by decide) (nI x) (nI t) (nI i) 1 (nI j) (fun _ => t1) (fun _ => t2) (fun _ => t3) (fun _ => t4) (fun _ => t5) (fun _ => a1) (fun _ => by rw [e6]; exact a2) (fun _ => by rw [e6]; exact a3) (fun _ => by rw [e6]; exact a4) (fun _ => by rw [e6]; exact a5) (fun w => absurd w (by decide)) (fun B1 eB _ => ?_)
            rw [e6] at eB ⊢
            subst eB
            rw [nI_1]
            have q2 : ¬ fX2_hasRoom Q R (nI j) (nI r) = 0 := by rw [rm]; exact q
            obtain ⟨d', rfl, tt⟩ := hw.yes hr s q2
            obtain ⟨nn1, nf1, bd1, rk1, pp, hle⟩ := p.ap hj hr hs q2
            obtain ⟨nn', nf', bd', rk', p', a', z0, z1, z2⟩ := rw_sim p ag c0 c1 c2 hj hr hs q2
            have en : nn' = nn1 := by
              have e1 := pp.2.2.2.1
              have e2 := p'.2.2.2.1
              have := pp.1
              have := p'.1
              rw [e1, nI_eq (by omega) (by omega)] at e2
              exact e2.symm
            obtain ⟨k1, k2⟩ := rw_keep (H := B) (U := C) (nI j) (nI r)
            exact ih (i + 1) d' _ _ _ _ nn' nf' bd' rk' (by omega) (by omega) p' a' z0 z1 z2 (by omega) (k1.trans b24) (fun j hj => (k2 j (by omega) (by omega) (by omega)).trans (cj j hj)) tt
      have loop : ∀ (N j : Nat), nn ≤ j + N → j ≤ nn → (∀ t, t < j → t ∈ pst (QC Q) 60 x [] → fX2_leastRule Q (nI t) < 0) → WW z 0 0 (WM (zk z) am B C) 51 [(0, .ref (am 0)), (1, .int (nI x)), (2, .int (nI t)), (3, .int (nI i)), (5, .long b9), (7, .int (nI j))] [] := by
        have step : ∀ j : Nat, j ≤ nn → (∀ t, t < j → t ∈ pst (QC Q) 60 x [] → fX2_leastRule Q (nI t) < 0) → (j < nn → (∀ t, t < j + 1 → t ∈ pst (QC Q) 60 x [] → fX2_leastRule Q (nI t) < 0) → WW z 0 0 (WM (zk z) am B C) 51 [(0, .ref (am 0)), (1, .int (nI x)), (2, .int (nI t)), (3, .int (nI i)), (5, .long b9), (7, .int (nI (j + 1)))] []) → WW z 0 0 (WM (zk z) am B C) 51 [(0, .ref (am 0)), (1, .int (nI x)), (2, .int (nI t)), (3, .int (nI i)), (5, .long b9), (7, .int (nI j))] [] := by
          intro j hj hno K
          have st := fun q : ¬ C 1 ≤ nI j => p.hst ag (hlt j hj q)
          refine sr_e E T hz (by decide) (nI x) (nI t) (nI i) b9 (nI j) (fun q _ => (st q).1) (fun q _ => (st q).2.1) (fun q _ => (st q).2.2.1) (fun q _ => (st q).2.2.2.1) (fun q _ => (st q).2.2.2.2) (fun q => ?_) (fun q q2 => ?_) (fun q q2 q3 => ?_) (fun q q2 q3 => ?_)
          · have ej : nn ≤ j := by rw [c1, nI_leI (by omega) (by omega)] at q; exact q
            have nq : ¬ ¬ C 1 ≤ nI j := fun w => w q
            refine sr_f E T hz (by decide) (nI x) (nI t) (nI i) (nI j) (fun w => absurd w nq) (fun w => absurd w nq) (fun w => absurd w nq) (fun w => absurd w nq) (fun w => absurd w nq) (fun w => absurd w nq) ?_
            rw [if_pos q]
            refine stop (fun i' r' hr' s' => ?_) (nI j)
            obtain ⟨nn', e1, e2, e3, e4, e5, e6⟩ := s'
            rw [v1, nI_eq (by omega) (by omega)] at e1
            have w := hno i' (by omega) e4
            rw [e5] at w
            exact absurd w (nI_pos (by omega))
          · have jl := hlt j hj q
            rw [nI_1]
            refine K jl (fun t ht hm => ?_)
            by_cases e : t = j
            · subst e; exact absurd hm ((bit t jl).mp q2)
            · exact hno t (by omega) hm
          · have jl := hlt j hj q
            exact least j jl (Classical.byContradiction fun w => q2 ((bit j jl).mpr w)) hno q3
          · have jl := hlt j hj q
            rw [nI_1]
            refine K jl (fun t ht hm => ?_)
            by_cases e : t = j
            · subst e; rw [lr_eq p ag h16 jl, q3]; decide
            · exact hno t (by omega) hm
        intro N
        induction N with
        | zero => intro j h1 h2 hno; exact step j h2 hno (fun q => absurd q (by omega))
        | succ N ih2 => intro j h1 h2 hno; exact step j h2 hno (fun q hn' => ih2 (j + 1) (by omega) (by omega) hn')
      exact loop nn 0 (by omega) (Nat.zero_le _) (fun t ht => absurd ht (Nat.not_lt_zero _))
  refine sr_a E T hz (by decide) (nI x) (nI t) (fun q => ?_) (fun _ _ => ?_) (fun _ q => ?_)
  · rw [← hasN_eq (by omega) p.2.2.2.1 u1] at q
    unfold fX1_has at q
    rw [p.2.2.2.1, if_neg (nI_pos (by omega)), if_neg (nI_ge hx (by omega))] at q; exact absurd q (by decide)
  · exact main t 0 c G H V U nn nf bd rk (by omega) (by omega) p ag u0 u1 u2 hx rfl (fun _ _ => rfl) w
  · rcases inC (nI t) 100 (by decide) with ⟨j, hj, e, e2⟩ | ⟨nx, -⟩
    · rw [show fX6_in (nI t).toInt64 0 100 = 1 from e2] at q; exact absurd q (by decide)
    · exact absurd rfl (nx t ht)
section TOPB
variable {l : Launch} {k : Kt} {ad am : Nat → Nat} {G : Nat → Nat → Int32} {V : Nat → Int32} {n : Nat} {H : Nat → Nat → Int32} {U : Nat → Int32}
theorem b_sweep (S : SIM G V n H U) (x y : Int32) : BTH l k ad am G V n H U yX5_sweep cX5_sweep 6 yX6_sweep cX6_sweep 8 [.int x, .int y] := by
  obtain ⟨nn, nf, bd, rk, p, a, u0, u1, u2⟩ := S.1
  have hnn := p.1
  have v1 := p.2.2.2.1
  have eN := hasN_eq (by omega) v1 u1 x
  have hg := S.2.2
  have bad : (fX1_has V x = 0 ∨ (¬ fX1_has V x = 0 ∧ (y < 0 ∨ nI 100 < y) ∧ fX6_in y.toInt64 0 100 = 0)) → BTH l k ad am G V n H U yX5_sweep cX5_sweep 6 yX6_sweep cX6_sweep 8 [.int x, .int y] := fun bd => by
    refine bth_of (A := -1) (G' := G) (V' := V) (H' := H) (U' := U) (dC := 8) (dM := 6) (by decide) (by decide) ?_ ?_ S
    · refine ct_of (own := RX5) (lv0 := [(0, .ref (ad 0)), (1, .int x), (2, .int y)]) (by decide) rfl (Nat.le_of_ble_eq_true rfl) rfl ?_
      rintro z rfl rfl hz - E T
      refine sw_a E T hz (by decide) x y (fun q => ⟨rfl, rfl⟩) (fun _ _ => ⟨rfl, rfl⟩) (fun q q2 q3 => ?_) (fun _ _ _ => ⟨rfl, rfl⟩)
      rcases bd with w | ⟨-, w, -⟩
      · exact absurd w q
      · rcases w with w | w
        · exact absurd w q2
        · have h1 := Int32.lt_iff_toInt_lt.mp w
          have h2 := Int32.le_iff_toInt_le.mp q3
          have e5 : (nI 100).toInt = 100 := rfl
          have e6 : (100 : Int32).toInt = 100 := rfl
          omega
    · refine ct_of (own := RX6) (lv0 := [(0, .ref (am 0)), (1, .int x), (2, .int y)]) (by decide) rfl (Nat.le_of_ble_eq_true rfl) rfl ?_
      rintro z rfl rfl hz - E T
      refine sr_a E T hz (by decide) x y (fun q => ⟨rfl, rfl⟩) (fun q q2 => ?_) (fun _ _ => ⟨rfl, rfl⟩)
      rcases bd with w | ⟨-, -, w⟩
      · exact absurd (eN.symm.trans w) q
      · exact absurd w q2
  by_cases c : fX1_has V x = 0
  · exact bad (Or.inl c)
  · obtain ⟨j, hj, rfl⟩ := has_nat (by omega) v1 c
    rcases inC y 100 (by decide) with ⟨t, ht, rfl, e⟩ | ⟨-, w, e⟩
    · obtain ⟨m, G', V', w, hm⟩ := SWR.ex j t G V
      have kp := w.keep
      refine ⟨nI m, 0, 8, 6, _, _, by decide, by decide, by rw [kc_0 hg (Nat.zero_le _), ks_0 hg (Nat.zero_le _)]; exact c_sweepC p hj (by omega) w, c_sweepM p a u0 u1 u2 hj (by omega) w, fun v w' v2 w2 h1 h2 => ?_⟩
      obtain ⟨A', e1, e2, e3⟩ := h1
      obtain ⟨H', U', f1, f2, ⟨nn', nf', bd', rk', p', a', z0, z1, z2⟩, f4, f5⟩ := h2
      refine ⟨e1, f1, ad, A', V', n, H', U', e2, f2, rfl, ⟨⟨nn', nf', bd', rk', p'.cong (fun p hp => e3 p (by omega) (by omega) (by omega)), a'.cong2 (fun p hp => e3 p (by omega) (by omega) (by omega)) (fun _ _ => rfl), z0, z1, z2⟩, ?_, hg⟩, (gw_id hg (Nat.zero_le _)).symm⟩
      exact S.2.1.to ((e3 24 (by decide) (by decide) (by decide)).trans kp.1) f4 (fun j a b c d => kp.2 j a b d) f5
    · exact bad (Or.inr ⟨c, w, e⟩)
end TOPB
