set_option maxRecDepth 100000 in
set_option maxHeartbeats 800000 in
theorem fl_a {z : Zt} (E : EN z cJ7_fill_53178 RJ7) {w0 : va_W} {P : Option Value → va_W → Prop} {lvl : Nat} (T : RT z none lvl w0 P 0 0) (hz : zn z = 4) {ad : Nat → Nat} {G : Nat → Nat → Int32} {V : Nat → Int32} {n : Nat} (v9 : Int32) 
    (k1 : WW z 0 0 (WC (zk z) ad G V n) 5 [(0, .ref (ad 22)), (1, .int v9), (2, .int 0), (3, .int (nI 60))] []) :
    WW z 0 0 (WC (zk z) ad G V n) 0 [(0, .ref (ad 22)), (1, .int v9)] [] := by
  refine r_iconst E (q := 1) (v := 0) dJ7_fill_53178_0 (by decide) rfl ?_
  refine r_istore_n E (q := 2) (lv' := [(0, .ref (ad 22)), (1, .int v9), (2, .int 0)]) [1, 2, 0] dJ7_fill_53178_1 rfl (by rw [hz]; decide) rfl rfl ?_
  refine r_aload_n E (q := 3) 0 dJ7_fill_53178_2 rfl rfl rfl ?_
  refine r_alen E (q := 4) 22 wc_22 dJ7_fill_53178_3 rfl ?_
  refine r_istore_n E (q := 5) (lv' := [(0, .ref (ad 22)), (1, .int v9), (2, .int 0), (3, .int (nI 60))]) [1, 2, 3, 0] dJ7_fill_53178_4 rfl (by rw [hz]; decide) rfl rfl ?_
  exact k1 
set_option maxRecDepth 100000 in
set_option maxHeartbeats 800000 in
theorem fl_b {z : Zt} (E : EN z cJ7_fill_53178 RJ7) {w0 : va_W} {P : Option Value → va_W → Prop} {lvl : Nat} (T : RT z none lvl w0 P 0 0) (hz : zn z = 4) {ad : Nat → Nat} {G : Nat → Nat → Int32} {V : Nat → Int32} {n : Nat} (v9 i9 : Int32) 
    (o1 : ¬ ((nI 60) ≤ i9) → vp_in i9 60)
    (k1 : (nI 60) ≤ i9 → P none (WC (zk z) ad G V n)) 
    (k2 : ∀ (G1 : Nat → Nat → Int32), G1 = ug G 22 (ix i9) v9 → ¬ ((nI 60) ≤ i9) → WW z 0 0 (WC (zk z) ad G1 V n) 5 [(0, .ref (ad 22)), (1, .int v9), (2, .int (i9 + 1)), (3, .int (nI 60))] []) :
    WW z 0 0 (WC (zk z) ad G V n) 5 [(0, .ref (ad 22)), (1, .int v9), (2, .int i9), (3, .int (nI 60))] [] := by
  refine r_iload_n E (q := 6) 2 dJ7_fill_53178_5 rfl rfl rfl ?_
  refine r_iload_n E (q := 7) 3 dJ7_fill_53178_6 rfl rfl rfl ?_
  refine r_icmp_ge E (q := 10) 20 dJ7_fill_53178_7 (by decide) rfl (fun c1 => ?_) (fun c1 => ?_)
  · exact r_vret E T dJ7_fill_53178_20 (k1 c1)
  · refine r_aload_n E (q := 11) 0 dJ7_fill_53178_10 rfl rfl rfl ?_
    refine r_iload_n E (q := 12) 2 dJ7_fill_53178_11 rfl rfl rfl ?_
    refine r_iload_n E (q := 13) 1 dJ7_fill_53178_12 rfl rfl rfl ?_
    refine r_iast E (q := 14) 22 wc_22 (o1 c1) wcu_22 dJ7_fill_53178_13 rfl ?_
    refine r_nGC (fun G1 eG1 => ?_)
    refine r_iinc E (q := 17) (v := i9 + 1) (lv' := [(0, .ref (ad 22)), (1, .int v9), (2, .int (i9 + 1)), (3, .int (nI 60))]) 2 [1, 2, 0, 3] dJ7_fill_53178_14 rfl (by rfl) (by rw [hz]; decide) rfl rfl ?_
    refine r_goto E 5 dJ7_fill_53178_17 (by decide) ?_
    exact k2 G1 eG1 c1
theorem c_fill22 {l : Launch} {k : Kt} {ad : Nat → Nat} {G : Nat → Nat → Int32} {V : Nat → Int32} {n : Nat} (v9 : Int32) : CT l k yJ7_fill_53178 cJ7_fill_53178 4 none 0 [.ref (ad 22), .int v9] (WC k ad G V n) (eqV (WC k ad (va_up G 22 (fun j => if j < 60 then v9 else G 22 j)) V n)) 0 0 := by
  refine ct_of (own := RJ7) (lv0 := [(0, .ref (ad 22)), (1, .int v9)]) (by decide) rfl (Nat.le_of_ble_eq_true rfl) rfl ?_
  rintro z rfl rfl hz - E T
  have main : ∀ (N j : Nat) (i9 : Int32) (G1 : Nat → Nat → Int32), i9 = nI j → j ≤ 60 → 60 ≤ j + N → G1 = va_up G 22 (fun t => if t < j then v9 else G 22 t) → WW z 0 0 (WC (zk z) ad G1 V n) 5 [(0, .ref (ad 22)), (1, .int v9), (2, .int i9), (3, .int (nI 60))] [] := by
    intro N
    induction N with
    | zero =>
      intro j i9 G1 hj h1 h2 hG
      have e : j = 60 := by omega
      have ab : nI 60 ≤ i9 := by rw [hj, e]; exact Int32.le_refl _
      exact fl_b E T hz v9 i9 (fun c => absurd ab c) (fun _ => eqV.mk (by rw [hG, e])) (fun _ _ c => absurd ab c)
    | succ N ih =>
      intro j i9 G1 hj h1 h2 hG
      have hlt : ¬ nI 60 ≤ i9 → j < 60 := fun c => by
        rcases Nat.lt_or_ge j 60 with q | q
        · exact q
        · exact absurd (by rw [hj]; exact nI_le q (by omega)) c
      refine fl_b E T hz v9 i9 (fun c => by have := hlt c; rw [hj]; exact vp_in_nI (by omega) (by omega)) (fun c => eqV.mk ?_) (fun G2 e2 c => ?_)
      · rw [hj, nI_leI (by omega) (by omega)] at c
        have e : j = 60 := by omega
        rw [hG, e]
      · have q := hlt c
        refine ih (j + 1) (i9 + 1) G2 (by rw [hj]; exact nI_1 j) (by omega) (by omega) ?_
        rw [e2, hj, ix_nI (by omega), hG]
        funext p t
        rw [ug_if]
        by_cases hp : p = 22
        · subst hp
          rw [va_up_self, va_up_self]
          by_cases ht : t = j
          · rw [if_pos ⟨rfl, ht⟩, if_pos (by omega)]
          · rw [if_neg (fun h => ht h.2)]
            by_cases hl : t < j
            · rw [if_pos hl, if_pos (by omega)]
            · rw [if_neg hl, if_neg (by omega)]
        · rw [if_neg (fun h => hp h.1), va_up_ne _ _ hp, va_up_ne _ _ hp]
  refine fl_a E T hz v9 ?_
  refine main 60 0 0 G rfl (Nat.zero_le _) (by omega) ?_
  funext p t
  by_cases hp : p = 22
  · subst hp; rw [va_up_self, if_neg (Nat.not_lt_zero _)]
  · rw [va_up_ne _ _ hp]
set_option maxRecDepth 100000 in
set_option maxHeartbeats 800000 in
theorem lf_a {z : Zt} (E : EN z cX1_listFrom RX1) {w0 : va_W} {P : Option Value → va_W → Prop} {lvl : Nat} (T : RT z (some .int) lvl w0 P 0 0) (hz : zn z = 7) {ad : Nat → Nat} {G : Nat → Nat → Int32} {V : Nat → Int32} {n : Nat} (hlv : 3 ≤ lvl) (x : Int32) 
    (k1 : ∀ (G1 G2 : Nat → Nat → Int32), G1 = va_up G 22 (fun j => if j < 60 then 0 else G 22 j) → G2 = ug G1 21 (ix 0) x → WW z 0 0 (WC (zk z) ad G2 V n) 22 [(0, .ref (ad 12)), (1, .int x), (2, .int 1), (3, .int 0), (4, .int 0)] []) :
    WW z 0 0 (WC (zk z) ad G V n) 0 [(0, .ref (ad 12)), (1, .int x)] [] := by
  refine r_aload_n E (q := 1) 0 dX1_listFrom_0 rfl rfl rfl ?_
  refine r_get E (q := 4) fX1_38 12 wc_12 rfl dX1_listFrom_1 rfl ?_
  refine r_iconst E (q := 5) (v := 0) dX1_listFrom_4 (by decide) rfl ?_
  refine rSv E (q := 8) csX1_101 T.rr [.ref (ad 22), .int 0] (c_fill22 0) (by omega) rfl rfl (Nat.le_of_ble_eq_true rfl) ⟨Nat.zero_le _, Nat.zero_le _⟩ dX1_listFrom_5 rfl ?_
  refine r_nGC (fun G1 eG1 => ?_)
  refine r_aload_n E (q := 9) 0 dX1_listFrom_8 rfl rfl rfl ?_
  refine r_get E (q := 12) fX1_35 12 wc_12 rfl dX1_listFrom_9 rfl ?_
  refine r_iconst E (q := 13) (v := 0) dX1_listFrom_12 (by decide) rfl ?_
  refine r_iload_n E (q := 14) 1 dX1_listFrom_13 rfl rfl rfl ?_
  refine r_iast E (q := 15) 21 wc_21 (by unfold vp_in; decide) wcu_21 dX1_listFrom_14 rfl ?_
  refine r_nGC (fun G2 eG2 => ?_)
  refine r_iconst E (q := 16) (v := 1) dX1_listFrom_15 (by decide) rfl ?_
  refine r_istore_n E (q := 17) (lv' := [(0, .ref (ad 12)), (1, .int x), (2, .int 1)]) [1, 2, 0] dX1_listFrom_16 rfl (by rw [hz]; decide) rfl rfl ?_
  refine r_iconst E (q := 18) (v := 0) dX1_listFrom_17 (by decide) rfl ?_
  refine r_istore_n E (q := 19) (lv' := [(0, .ref (ad 12)), (1, .int x), (2, .int 1), (3, .int 0)]) [1, 2, 3, 0] dX1_listFrom_18 rfl (by rw [hz]; decide) rfl rfl ?_
  refine r_iconst E (q := 20) (v := 0) dX1_listFrom_19 (by decide) rfl ?_
  refine r_istore E (q := 22) (lv' := [(0, .ref (ad 12)), (1, .int x), (2, .int 1), (3, .int 0), (4, .int 0)]) [1, 2, 3, 4, 0] dX1_listFrom_20 (by rw [hz]; decide) rfl rfl ?_
  exact k1 G1 G2 eG1 eG2
set_option maxRecDepth 100000 in
set_option maxHeartbeats 800000 in
theorem lf_b {z : Zt} (E : EN z cX1_listFrom RX1) {w0 : va_W} {P : Option Value → va_W → Prop} {lvl : Nat} (T : RT z (some .int) lvl w0 P 0 0) (hz : zn z = 7) {ad : Nat → Nat} {G : Nat → Nat → Int32} {V : Nat → Int32} {n : Nat} (hlv : 3 ≤ lvl) (x d9 c9 s9 : Int32) 
    (o1 : ¬ (180 ≤ s9) → ¬ (d9 ≤ 0) → vp_in (d9 - 1) 60) 
    (o2 : ¬ (180 ≤ s9) → ¬ (d9 ≤ 0) → vp_in (G 21 (ix (d9 - 1))) 60) 
    (o3 : ∀ (G1 : Nat → Nat → Int32), G1 = ug G 22 (ix (G 21 (ix (d9 - 1)))) ((G 22 (ix (G 21 (ix (d9 - 1))))) + 1) → ¬ (180 ≤ s9) → ¬ (d9 ≤ 0) → vp_in (G 21 (ix (d9 - 1))) 60) 
    (o4 : ∀ (G1 : Nat → Nat → Int32), G1 = ug G 22 (ix (G 21 (ix (d9 - 1)))) ((G 22 (ix (G 21 (ix (d9 - 1))))) + 1) → ¬ (180 ≤ s9) → ¬ (d9 ≤ 0) → ¬ (G1 22 (ix (G 21 (ix (d9 - 1)))) = 3) → vp_in (G 21 (ix (d9 - 1))) 60) 
    (o5 : ∀ (G1 : Nat → Nat → Int32), G1 = ug G 22 (ix (G 21 (ix (d9 - 1)))) ((G 22 (ix (G 21 (ix (d9 - 1))))) + 1) → ¬ (180 ≤ s9) → ¬ (d9 ≤ 0) → ¬ (G1 22 (ix (G 21 (ix (d9 - 1)))) = 3) → ¬ (G1 22 (ix (G 21 (ix (d9 - 1)))) = 1) → vp_in (G 21 (ix (d9 - 1))) 60) 
    (o6 : ∀ (G1 : Nat → Nat → Int32), G1 = ug G 22 (ix (G 21 (ix (d9 - 1)))) ((G 22 (ix (G 21 (ix (d9 - 1))))) + 1) → ¬ (180 ≤ s9) → ¬ (d9 ≤ 0) → ¬ (G1 22 (ix (G 21 (ix (d9 - 1)))) = 3) → G1 22 (ix (G 21 (ix (d9 - 1)))) = 1 → vp_in (G 21 (ix (d9 - 1))) 60) 
    (o7 : ∀ (G1 : Nat → Nat → Int32), G1 = ug G 22 (ix (G 21 (ix (d9 - 1)))) ((G 22 (ix (G 21 (ix (d9 - 1))))) + 1) → ¬ (180 ≤ s9) → ¬ (d9 ≤ 0) → ¬ (G1 22 (ix (G 21 (ix (d9 - 1)))) = 3) → ¬ ((if G1 22 (ix (G 21 (ix (d9 - 1)))) = 1 then (fX1_leftBelow G1 (G 21 (ix (d9 - 1)))) else (fX1_rightBelow G1 (G 21 (ix (d9 - 1)))) : Int32) < 0) → vp_in (if G1 22 (ix (G 21 (ix (d9 - 1)))) = 1 then (fX1_leftBelow G1 (G 21 (ix (d9 - 1)))) else (fX1_rightBelow G1 (G 21 (ix (d9 - 1))))) 60) 
    (o8 : ∀ (G1 : Nat → Nat → Int32), G1 = ug G 22 (ix (G 21 (ix (d9 - 1)))) ((G 22 (ix (G 21 (ix (d9 - 1))))) + 1) → ¬ (180 ≤ s9) → ¬ (d9 ≤ 0) → ¬ (G1 22 (ix (G 21 (ix (d9 - 1)))) = 3) → ¬ ((if G1 22 (ix (G 21 (ix (d9 - 1)))) = 1 then (fX1_leftBelow G1 (G 21 (ix (d9 - 1)))) else (fX1_rightBelow G1 (G 21 (ix (d9 - 1)))) : Int32) < 0) → G1 22 (ix (if G1 22 (ix (G 21 (ix (d9 - 1)))) = 1 then (fX1_leftBelow G1 (G 21 (ix (d9 - 1)))) else (fX1_rightBelow G1 (G 21 (ix (d9 - 1)))))) = 0 → vp_in d9 60) 
    (o9 : ∀ (G1 : Nat → Nat → Int32), G1 = ug G 22 (ix (G 21 (ix (d9 - 1)))) ((G 22 (ix (G 21 (ix (d9 - 1))))) + 1) → ¬ (180 ≤ s9) → ¬ (d9 ≤ 0) → G1 22 (ix (G 21 (ix (d9 - 1)))) = 3 → vp_in c9 60)
    (k1 : 180 ≤ s9 → P (some (.int c9)) (WC (zk z) ad G V n)) 
    (k2 : ¬ (180 ≤ s9) → d9 ≤ 0 → P (some (.int c9)) (WC (zk z) ad G V n)) 
    (k3 : ∀ (G1 : Nat → Nat → Int32), G1 = ug G 22 (ix (G 21 (ix (d9 - 1)))) ((G 22 (ix (G 21 (ix (d9 - 1))))) + 1) → ¬ (180 ≤ s9) → ¬ (d9 ≤ 0) → ¬ (G1 22 (ix (G 21 (ix (d9 - 1)))) = 3) → (if G1 22 (ix (G 21 (ix (d9 - 1)))) = 1 then (fX1_leftBelow G1 (G 21 (ix (d9 - 1)))) else (fX1_rightBelow G1 (G 21 (ix (d9 - 1)))) : Int32) < 0 → WW z 0 0 (WC (zk z) ad G1 V n) 22 [(0, .ref (ad 12)), (1, .int x), (2, .int d9), (3, .int c9), (4, .int (s9 + 1))] []) 
    (k4 : ∀ (G1 : Nat → Nat → Int32), G1 = ug G 22 (ix (G 21 (ix (d9 - 1)))) ((G 22 (ix (G 21 (ix (d9 - 1))))) + 1) → ¬ (180 ≤ s9) → ¬ (d9 ≤ 0) → ¬ (G1 22 (ix (G 21 (ix (d9 - 1)))) = 3) → ¬ ((if G1 22 (ix (G 21 (ix (d9 - 1)))) = 1 then (fX1_leftBelow G1 (G 21 (ix (d9 - 1)))) else (fX1_rightBelow G1 (G 21 (ix (d9 - 1)))) : Int32) < 0) → ¬ (G1 22 (ix (if G1 22 (ix (G 21 (ix (d9 - 1)))) = 1 then (fX1_leftBelow G1 (G 21 (ix (d9 - 1)))) else (fX1_rightBelow G1 (G 21 (ix (d9 - 1)))))) = 0) → WW z 0 0 (WC (zk z) ad G1 V n) 22 [(0, .ref (ad 12)), (1, .int x), (2, .int d9), (3, .int c9), (4, .int (s9 + 1))] []) 
    (k5 : ∀ (G1 G2 : Nat → Nat → Int32), G1 = ug G 22 (ix (G 21 (ix (d9 - 1)))) ((G 22 (ix (G 21 (ix (d9 - 1))))) + 1) → G2 = ug G1 21 (ix d9) (if G1 22 (ix (G 21 (ix (d9 - 1)))) = 1 then (fX1_leftBelow G1 (G 21 (ix (d9 - 1)))) else (fX1_rightBelow G1 (G 21 (ix (d9 - 1))))) → ¬ (180 ≤ s9) → ¬ (d9 ≤ 0) → ¬ (G1 22 (ix (G 21 (ix (d9 - 1)))) = 3) → ¬ ((if G1 22 (ix (G 21 (ix (d9 - 1)))) = 1 then (fX1_leftBelow G1 (G 21 (ix (d9 - 1)))) else (fX1_rightBelow G1 (G 21 (ix (d9 - 1)))) : Int32) < 0) → G1 22 (ix (if G1 22 (ix (G 21 (ix (d9 - 1)))) = 1 then (fX1_leftBelow G1 (G 21 (ix (d9 - 1)))) else (fX1_rightBelow G1 (G 21 (ix (d9 - 1)))))) = 0 → WW z 0 0 (WC (zk z) ad G2 V n) 22 [(0, .ref (ad 12)), (1, .int x), (2, .int (d9 + 1)), (3, .int c9), (4, .int (s9 + 1))] []) 
    (k6 : ∀ (G1 G2 : Nat → Nat → Int32), G1 = ug G 22 (ix (G 21 (ix (d9 - 1)))) ((G 22 (ix (G 21 (ix (d9 - 1))))) + 1) → G2 = ug G1 20 (ix c9) (G 21 (ix (d9 - 1))) → ¬ (180 ≤ s9) → ¬ (d9 ≤ 0) → G1 22 (ix (G 21 (ix (d9 - 1)))) = 3 → WW z 0 0 (WC (zk z) ad G2 V n) 22 [(0, .ref (ad 12)), (1, .int x), (2, .int (d9 + (-1))), (3, .int (c9 + 1)), (4, .int (s9 + 1))] []) :
    WW z 0 0 (WC (zk z) ad G V n) 22 [(0, .ref (ad 12)), (1, .int x), (2, .int d9), (3, .int c9), (4, .int s9)] [] := by
  refine r_iload E (q := 24) 4 dX1_listFrom_22 rfl rfl ?_
  refine r_sipush E (q := 27) (v := 180) dX1_listFrom_24 (by decide) rfl ?_
  refine r_icmp_ge E (q := 30) 143 dX1_listFrom_27 (by decide) rfl (fun c1 => ?_) (fun c1 => ?_)
  · refine r_iload_n E (q := 144) 3 dX1_listFrom_143 rfl rfl rfl ?_
    exact r_iret E T dX1_listFrom_144 (k1 c1)
  · refine r_iload_n E (q := 31) 2 dX1_listFrom_30 rfl rfl rfl ?_
    refine r_if_le E (q := 34) 143 dX1_listFrom_31 (by decide) rfl (fun c2 => ?_) (fun c2 => ?_)
    · refine r_iload_n E (q := 144) 3 dX1_listFrom_143 rfl rfl rfl ?_
      exact r_iret E T dX1_listFrom_144 (k2 c1 c2)
    · refine r_aload_n E (q := 35) 0 dX1_listFrom_34 rfl rfl rfl ?_
      refine r_get E (q := 38) fX1_35 12 wc_12 rfl dX1_listFrom_35 rfl ?_
      refine r_iload_n E (q := 39) 2 dX1_listFrom_38 rfl rfl rfl ?_
      refine r_iconst E (q := 40) (v := 1) dX1_listFrom_39 (by decide) rfl ?_
      refine r_isub E (q := 41) dX1_listFrom_40 rfl ?_
      refine r_iald E (q := 42) 21 wc_21 (o1 c1 c2) dX1_listFrom_41 rfl ?_
      refine r_istore E (q := 44) (lv' := [(0, .ref (ad 12)), (1, .int x), (2, .int d9), (3, .int c9), (4, .int s9), (5, .int (G 21 (ix (d9 - 1))))]) [1, 2, 3, 4, 5, 0] dX1_listFrom_42 (by rw [hz]; decide) rfl rfl ?_
      refine r_aload_n E (q := 45) 0 dX1_listFrom_44 rfl rfl rfl ?_
      refine r_get E (q := 48) fX1_38 12 wc_12 rfl dX1_listFrom_45 rfl ?_
      refine r_iload E (q := 50) 5 dX1_listFrom_48 rfl rfl ?_
      refine r_dup2 E (q := 51) dX1_listFrom_50 rfl rfl rfl ?_
      refine r_iald E (q := 52) 22 wc_22 (o2 c1 c2) dX1_listFrom_51 rfl ?_
      refine r_iconst E (q := 53) (v := 1) dX1_listFrom_52 (by decide) rfl ?_
      refine r_iadd E (q := 54) dX1_listFrom_53 rfl ?_
      refine r_iast E (q := 55) 22 wc_22 (o2 c1 c2) wcu_22 dX1_listFrom_54 rfl ?_
      refine r_nGC (fun G1 eG1 => ?_)
      refine r_aload_n E (q := 56) 0 dX1_listFrom_55 rfl rfl rfl ?_
      refine r_get E (q := 59) fX1_38 12 wc_12 rfl dX1_listFrom_56 rfl ?_
      refine r_iload E (q := 61) 5 dX1_listFrom_59 rfl rfl ?_
      refine r_iald E (q := 62) 22 wc_22 (o3 G1 eG1 c1 c2) dX1_listFrom_61 rfl ?_
      refine r_iconst E (q := 63) (v := 3) dX1_listFrom_62 (by decide) rfl ?_
      refine r_icmp_ne E (q := 66) 83 dX1_listFrom_63 (by decide) rfl (fun c3 => ?_) (fun c3 => ?_)
      · refine r_aload_n E (q := 84) 0 dX1_listFrom_83 rfl rfl rfl ?_
        refine r_get E (q := 87) fX1_38 12 wc_12 rfl dX1_listFrom_84 rfl ?_
        refine r_iload E (q := 89) 5 dX1_listFrom_87 rfl rfl ?_
        refine r_iald E (q := 90) 22 wc_22 (o4 G1 eG1 c1 c2 c3) dX1_listFrom_89 rfl ?_
        refine r_iconst E (q := 91) (v := 1) dX1_listFrom_90 (by decide) rfl ?_
        refine r_join 109 (if G1 22 (ix (G 21 (ix (d9 - 1)))) = 1 then (fX1_leftBelow G1 (G 21 (ix (d9 - 1)))) else (fX1_rightBelow G1 (G 21 (ix (d9 - 1))))) (rest := []) ?_ (fun hj1 => ?_)
        · refine r_istore E (q := 111) (lv' := [(0, .ref (ad 12)), (1, .int x), (2, .int d9), (3, .int c9), (4, .int s9), (5, .int (G 21 (ix (d9 - 1)))), (6, .int (if G1 22 (ix (G 21 (ix (d9 - 1)))) = 1 then (fX1_leftBelow G1 (G 21 (ix (d9 - 1)))) else (fX1_rightBelow G1 (G 21 (ix (d9 - 1))))))]) [1, 2, 3, 4, 5, 6, 0] dX1_listFrom_109 (by rw [hz]; decide) rfl rfl ?_
          refine r_iload E (q := 113) 6 dX1_listFrom_111 rfl rfl ?_
          refine r_if_lt E (q := 116) 137 dX1_listFrom_113 (by decide) rfl (fun c5 => ?_) (fun c5 => ?_)
          · refine r_iinc E (q := 140) (v := s9 + 1) (lv' := [(0, .ref (ad 12)), (1, .int x), (2, .int d9), (3, .int c9), (4, .int (s9 + 1)), (5, .int (G 21 (ix (d9 - 1)))), (6, .int (if G1 22 (ix (G 21 (ix (d9 - 1)))) = 1 then (fX1_leftBelow G1 (G 21 (ix (d9 - 1)))) else (fX1_rightBelow G1 (G 21 (ix (d9 - 1))))))]) 4 [1, 2, 3, 4, 0, 5, 6] dX1_listFrom_137 rfl (by rfl) (by rw [hz]; decide) rfl rfl ?_
            refine r_goto E 22 dX1_listFrom_140 (by decide) ?_
            refine r_sub [0, 1, 2, 3, 4] rfl ?_
            exact k3 G1 eG1 c1 c2 c3 c5
          · refine r_aload_n E (q := 117) 0 dX1_listFrom_116 rfl rfl rfl ?_
            refine r_get E (q := 120) fX1_38 12 wc_12 rfl dX1_listFrom_117 rfl ?_
            refine r_iload E (q := 122) 6 dX1_listFrom_120 rfl rfl ?_
            refine r_iald E (q := 123) 22 wc_22 (o7 G1 eG1 c1 c2 c3 c5) dX1_listFrom_122 rfl ?_
            refine r_if_ne E (q := 126) 137 dX1_listFrom_123 (by decide) rfl (fun c6 => ?_) (fun c6 => ?_)
            · refine r_iinc E (q := 140) (v := s9 + 1) (lv' := [(0, .ref (ad 12)), (1, .int x), (2, .int d9), (3, .int c9), (4, .int (s9 + 1)), (5, .int (G 21 (ix (d9 - 1)))), (6, .int (if G1 22 (ix (G 21 (ix (d9 - 1)))) = 1 then (fX1_leftBelow G1 (G 21 (ix (d9 - 1)))) else (fX1_rightBelow G1 (G 21 (ix (d9 - 1))))))]) 4 [1, 2, 3, 4, 0, 5, 6] dX1_listFrom_137 rfl (by rfl) (by rw [hz]; decide) rfl rfl ?_
              refine r_goto E 22 dX1_listFrom_140 (by decide) ?_
              refine r_sub [0, 1, 2, 3, 4] rfl ?_
              exact k4 G1 eG1 c1 c2 c3 c5 c6
            · refine r_aload_n E (q := 127) 0 dX1_listFrom_126 rfl rfl rfl ?_
              refine r_get E (q := 130) fX1_35 12 wc_12 rfl dX1_listFrom_127 rfl ?_
              refine r_iload_n E (q := 131) 2 dX1_listFrom_130 rfl rfl rfl ?_
              refine r_iload E (q := 133) 6 dX1_listFrom_131 rfl rfl ?_
              refine r_iast E (q := 134) 21 wc_21 (o8 G1 eG1 c1 c2 c3 c5 c6) wcu_21 dX1_listFrom_133 rfl ?_
              refine r_nGC (fun G2 eG2 => ?_)
              refine r_iinc E (q := 137) (v := d9 + 1) (lv' := [(0, .ref (ad 12)), (1, .int x), (2, .int (d9 + 1)), (3, .int c9), (4, .int s9), (5, .int (G 21 (ix (d9 - 1)))), (6, .int (if G1 22 (ix (G 21 (ix (d9 - 1)))) = 1 then (fX1_leftBelow G1 (G 21 (ix (d9 - 1)))) else (fX1_rightBelow G1 (G 21 (ix (d9 - 1))))))]) 2 [1, 2, 0, 3, 4, 5, 6] dX1_listFrom_134 rfl (by rfl) (by rw [hz]; decide) rfl rfl ?_
              refine r_iinc E (q := 140) (v := s9 + 1) (lv' := [(0, .ref (ad 12)), (1, .int x), (2, .int (d9 + 1)), (3, .int c9), (4, .int (s9 + 1)), (5, .int (G 21 (ix (d9 - 1)))), (6, .int (if G1 22 (ix (G 21 (ix (d9 - 1)))) = 1 then (fX1_leftBelow G1 (G 21 (ix (d9 - 1)))) else (fX1_rightBelow G1 (G 21 (ix (d9 - 1))))))]) 4 [1, 2, 3, 4, 0, 5, 6] dX1_listFrom_137 rfl (by rfl) (by rw [hz]; decide) rfl rfl ?_
              refine r_goto E 22 dX1_listFrom_140 (by decide) ?_
              refine r_sub [0, 1, 2, 3, 4] rfl ?_
              exact k5 G1 G2 eG1 eG2 c1 c2 c3 c5 c6
        · refine r_icmp_ne E (q := 94) 103 dX1_listFrom_91 (by decide) rfl (fun c4 => ?_) (fun c4 => ?_)
          · refine r_aload_n E (q := 104) 0 dX1_listFrom_103 rfl rfl rfl ?_
            refine r_iload E (q := 106) 5 dX1_listFrom_104 rfl rfl ?_
            refine rVi E (q := 109) cvX1_111 T.rr 12 wc_12 rfl [.int (G 21 (ix (d9 - 1)))] (c_X1_rightBelow (G 21 (ix (d9 - 1))) (o5 G1 eG1 c1 c2 c3 c4)) (by omega) rfl rfl (Nat.le_of_ble_eq_true rfl) ⟨Nat.zero_le _, Nat.zero_le _⟩ dX1_listFrom_106 rfl ?_
            exact hj1 _ (if_neg c4).symm
          · refine r_aload_n E (q := 95) 0 dX1_listFrom_94 rfl rfl rfl ?_
            refine r_iload E (q := 97) 5 dX1_listFrom_95 rfl rfl ?_
            refine rVi E (q := 100) cvX1_107 T.rr 12 wc_12 rfl [.int (G 21 (ix (d9 - 1)))] (c_X1_leftBelow (G 21 (ix (d9 - 1))) (o6 G1 eG1 c1 c2 c3 c4)) (by omega) rfl rfl (Nat.le_of_ble_eq_true rfl) ⟨Nat.zero_le _, Nat.zero_le _⟩ dX1_listFrom_97 rfl ?_
            refine r_goto E 109 dX1_listFrom_100 (by decide) ?_
            exact hj1 _ (if_pos c4).symm
      · refine r_aload_n E (q := 67) 0 dX1_listFrom_66 rfl rfl rfl ?_
        refine r_get E (q := 70) fX1_32 12 wc_12 rfl dX1_listFrom_67 rfl ?_
        refine r_iload_n E (q := 71) 3 dX1_listFrom_70 rfl rfl rfl ?_
        refine r_iload E (q := 73) 5 dX1_listFrom_71 rfl rfl ?_
        refine r_iast E (q := 74) 20 wc_20 (o9 G1 eG1 c1 c2 c3) wcu_20 dX1_listFrom_73 rfl ?_
        refine r_nGC (fun G2 eG2 => ?_)
        refine r_iinc E (q := 77) (v := c9 + 1) (lv' := [(0, .ref (ad 12)), (1, .int x), (2, .int d9), (3, .int (c9 + 1)), (4, .int s9), (5, .int (G 21 (ix (d9 - 1))))]) 3 [1, 2, 3, 0, 4, 5] dX1_listFrom_74 rfl (by rfl) (by rw [hz]; decide) rfl rfl ?_
        refine r_iinc E (q := 80) (v := d9 + (-1)) (lv' := [(0, .ref (ad 12)), (1, .int x), (2, .int (d9 + (-1))), (3, .int (c9 + 1)), (4, .int s9), (5, .int (G 21 (ix (d9 - 1))))]) 2 [1, 2, 0, 3, 4, 5] dX1_listFrom_77 rfl (by rfl) (by rw [hz]; decide) rfl rfl ?_
        refine r_goto E 137 dX1_listFrom_80 (by decide) ?_
        refine r_iinc E (q := 140) (v := s9 + 1) (lv' := [(0, .ref (ad 12)), (1, .int x), (2, .int (d9 + (-1))), (3, .int (c9 + 1)), (4, .int (s9 + 1)), (5, .int (G 21 (ix (d9 - 1))))]) 4 [1, 2, 3, 4, 0, 5] dX1_listFrom_137 rfl (by rfl) (by rw [hz]; decide) rfl rfl ?_
        refine r_goto E 22 dX1_listFrom_140 (by decide) ?_
        refine r_sub [0, 1, 2, 3, 4] rfl ?_
        exact k6 G1 G2 eG1 eG2 c1 c2 c3
