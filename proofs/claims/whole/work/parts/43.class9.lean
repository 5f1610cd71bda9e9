def cpM (G : Nat → Nat → Int32) (t9 : Int32) (f u : Nat) : Nat → Nat → Int32 := va_up G 24 (fun j => if u ≤ j ∧ j < u + 6 ∧ (t9 >>> (nI (j - u) &&& 31)) &&& 1 = 1 then G 24 (f + (j - u)) else G 24 j)
def cpMj (G : Nat → Nat → Int32) (t9 : Int32) (f u i : Nat) : Nat → Nat → Int32 := va_up G 24 (fun j => if u ≤ j ∧ j < u + i ∧ (t9 >>> (nI (j - u) &&& 31)) &&& 1 = 1 then G 24 (f + (j - u)) else G 24 j)
theorem cpMj_s {G : Nat → Nat → Int32} {t9 : Int32} {f u i : Nat} (hfu : f + 6 ≤ u) (hi : i < 6) : cpMj G t9 f u (i + 1) = if (t9 >>> (nI i &&& 31)) &&& 1 = 1 then ug (cpMj G t9 f u i) 24 (u + i) (cpMj G t9 f u i 24 (f + i)) else cpMj G t9 f u i := by
  have ef : cpMj G t9 f u i 24 (f + i) = G 24 (f + i) := by
    unfold cpMj; rw [va_up_self, if_neg (by omega)]
  funext p j
  by_cases hp : p = 24
  · subst hp
    by_cases c : (t9 >>> (nI i &&& 31)) &&& 1 = 1
    · rw [if_pos c, ug_if2, ef]
      by_cases hj : j = u + i
      · subst hj
        rw [if_pos rfl]
        unfold cpMj; rw [va_up_self, if_pos ⟨by omega, by omega, by rw [Nat.add_sub_cancel_left]; exact c⟩, Nat.add_sub_cancel_left]
      · rw [if_neg hj]
        unfold cpMj; rw [va_up_self, va_up_self]
        by_cases q : u ≤ j ∧ j < u + i ∧ (t9 >>> (nI (j - u) &&& 31)) &&& 1 = 1
        · rw [if_pos q, if_pos ⟨q.1, by omega, q.2.2⟩]
        · rw [if_neg q, if_neg (fun w => q ⟨w.1, by omega, w.2.2⟩)]
    · rw [if_neg c]
      unfold cpMj; rw [va_up_self, va_up_self]
      by_cases hj : j = u + i
      · subst hj
        rw [if_neg (fun w => c (by rw [Nat.add_sub_cancel_left] at w; exact w.2.2)), if_neg (by omega)]
      · by_cases q : u ≤ j ∧ j < u + i ∧ (t9 >>> (nI (j - u) &&& 31)) &&& 1 = 1
        · rw [if_pos q, if_pos ⟨q.1, by omega, q.2.2⟩]
        · rw [if_neg q, if_neg (fun w => q ⟨w.1, by omega, w.2.2⟩)]
  · have e : ∀ i, cpMj G t9 f u i p = G p := fun i => va_up_ne _ _ hp
    by_cases c : (t9 >>> (nI i &&& 31)) &&& 1 = 1
    · rw [if_pos c, ug_other hp, e, e]
    · rw [if_neg c, e, e]
set_option maxHeartbeats 800000 in
theorem c_copyMembers {l : Launch} {k : Kt} {ad : Nat → Nat} {G : Nat → Nat → Int32} {V : Nat → Int32} {n f u : Nat} {t9 f9 u9 : Int32} (ef : f9 = nI f) (eu : u9 = nI u) (hfu : f + 6 ≤ u) (hu : u + 6 ≤ n) (hn : n < 2 ^ 31) :
    CT l k yX3_copyMembers cX3_copyMembers 5 none 1 [.ref (ad 23), .int t9, .int f9, .int u9] (WC k ad G V n) (eqV (WC k ad (cpM G t9 f u) V n)) 0 0 := by
  refine ct_of (own := RX3) (lv0 := [(0, .ref (ad 23)), (1, .int t9), (2, .int f9), (3, .int u9)]) (by decide) rfl (Nat.le_of_ble_eq_true rfl) rfl ?_
  rintro z rfl rfl hz - E T
  have main : ∀ (N i : Nat) (m9 : Int32) (G1 : Nat → Nat → Int32), m9 = nI i → i ≤ 6 → 6 ≤ i + N → G1 = cpMj G t9 f u i → WW z 0 0 (WC (zk z) ad G1 V n) 3 [(0, .ref (ad 23)), (1, .int t9), (2, .int f9), (3, .int u9), (4, .int m9)] [] := by
    intro N
    induction N with
    | zero =>
      intro i m9 G1 em h1 h2 hG
      have e : i = 6 := by omega
      have ab : (6 : Int32) ≤ m9 := by rw [em, e]; decide
      exact cm_b E T hz (Nat.le_refl 1) t9 f9 u9 m9 (fun c => absurd ab c) (fun c => absurd ab c) (fun _ => eqV.mk (by rw [hG, e]; rfl)) (fun c => absurd ab c) (fun _ _ c => absurd ab c)
    | succ N ih =>
      intro i m9 G1 em h1 h2 hG
      have hlt : ¬ (6 : Int32) ≤ m9 → i < 6 := fun c => by
        rcases Nat.lt_or_ge i 6 with q | q
        · exact q
        · exact absurd (by rw [em]; exact nI_le (a := 6) q (by omega)) c
      have eS : ¬ (6 : Int32) ≤ m9 → (fX5_isIn m9 t9 = 0 ↔ ¬ (t9 >>> (nI i &&& 31)) &&& 1 = 1) := fun c => by
        unfold fX5_isIn; rw [em]
        by_cases w : (t9 >>> (nI i &&& 31)) &&& 1 = 1
        · rw [if_pos w]; exact ⟨fun h => absurd h (by decide), fun h => absurd w h⟩
        · rw [if_neg w]; exact ⟨fun _ => w, fun _ => rfl⟩
      refine cm_b E T hz (Nat.le_refl 1) t9 f9 u9 m9 (fun c _ => ?_) (fun c _ => ?_) (fun c => ?_) (fun c d => ?_) (fun G2 e2 c d => ?_)
      · have := hlt c; rw [ef, em, nI_add]; exact vp_in_nI (by omega) hn
      · have := hlt c; rw [eu, em, nI_add]; exact vp_in_nI (by omega) hn
      · rw [em, show (6 : Int32) = nI 6 from rfl, nI_leI (by omega) (by omega)] at c
        have e : i = 6 := by omega
        exact eqV.mk (by rw [hG, e]; rfl)
      · have q := hlt c
        refine ih (i + 1) (m9 + 1) G1 (by rw [em]; exact nI_1 i) (by omega) (by omega) ?_
        rw [cpMj_s hfu q, if_neg ((eS c).mp d)]; exact hG
      · have q := hlt c
        refine ih (i + 1) (m9 + 1) G2 (by rw [em]; exact nI_1 i) (by omega) (by omega) ?_
        rw [cpMj_s hfu q, if_pos (Classical.byContradiction fun w => d ((eS c).mpr w)), e2, hG, eu, ef, em, nI_add, nI_add, ix_nI (by omega), ix_nI (by omega)]
  refine cm_a E T hz t9 f9 u9 ?_
  refine main 6 0 0 G rfl (by omega) (by omega) ?_
  unfold cpMj
  funext p j
  by_cases hp : p = 24
  · subst hp; rw [va_up_self, if_neg (by omega)]
  · rw [va_up_ne _ _ hp]
set_option maxRecDepth 100000 in
set_option maxHeartbeats 800000 in
theorem gs_a {z : Zt} (E : EN z cX3_giveSource RX3) {w0 : va_W} {P : Option Value → va_W → Prop} {lvl : Nat} {mc9 ms9 : Nat} (T : RT z none lvl w0 P mc9 ms9) (hz : zn z = 4) {ad : Nat → Nat} {G : Nat → Nat → Int32} {V : Nat → Int32} {n : Nat} {c9 s9 : Nat} (hcs : c9 ≤ mc9 ∧ s9 ≤ ms9) (a9 : Int32) 
    (k1 : WW z c9 s9 (WC (zk z) ad G V n) 2 [(0, .ref (ad 23)), (1, .int a9), (2, .int 0)] []) :
    WW z c9 s9 (WC (zk z) ad G V n) 0 [(0, .ref (ad 23)), (1, .int a9)] [] := by
  refine r_iconst E (q := 1) (v := 0) dX3_giveSource_0 (by decide) rfl ?_
  refine r_istore_n E (q := 2) (lv' := [(0, .ref (ad 23)), (1, .int a9), (2, .int 0)]) [1, 2, 0] dX3_giveSource_1 rfl (by rw [hz]; decide) rfl rfl ?_
  exact k1 
set_option maxRecDepth 100000 in
set_option maxHeartbeats 800000 in
theorem gs_b {z : Zt} (E : EN z cX3_giveSource RX3) {w0 : va_W} {P : Option Value → va_W → Prop} {lvl : Nat} {mc9 ms9 : Nat} (T : RT z none lvl w0 P mc9 ms9) (hz : zn z = 4) {ad : Nat → Nat} {G : Nat → Nat → Int32} {V : Nat → Int32} {n : Nat} {c9 s9 : Nat} (hcs : c9 ≤ mc9 ∧ s9 ≤ ms9) (a9 i9 : Int32) 
    (o1 : vp_in a9 4)
    (k1 : G 3 (ix a9) ≤ i9 → P none (WC (zk z) ad G V n)) 
    (k2 : ¬ (G 3 (ix a9) ≤ i9) → WW z c9 s9 (WC (zk z) ad G V n) 16 [(0, .ref (ad 23)), (1, .int a9), (2, .int i9)] [.ref (ad 23)]) :
    WW z c9 s9 (WC (zk z) ad G V n) 2 [(0, .ref (ad 23)), (1, .int a9), (2, .int i9)] [] := by
  refine r_iload_n E (q := 3) 2 dX3_giveSource_2 rfl rfl rfl ?_
  refine r_aload_n E (q := 4) 0 dX3_giveSource_3 rfl rfl rfl ?_
  refine r_get E (q := 7) fX3_27 23 wc_23 rfl dX3_giveSource_4 rfl ?_
  refine r_get E (q := 10) fX3_110 1 wc_1 rfl dX3_giveSource_7 rfl ?_
  refine r_iload_n E (q := 11) 1 dX3_giveSource_10 rfl rfl rfl ?_
  refine r_iald E (q := 12) 3 wc_3 o1 dX3_giveSource_11 rfl ?_
  refine r_icmp_ge E (q := 15) 51 dX3_giveSource_12 (by decide) rfl (fun c1 => ?_) (fun c1 => ?_)
  · refine r_widen hcs.1 hcs.2 ?_
    exact r_vret E T dX3_giveSource_51 (k1 c1)
  · refine r_aload_n E (q := 16) 0 dX3_giveSource_15 rfl rfl rfl ?_
    exact k2 c1
set_option maxRecDepth 100000 in
set_option maxHeartbeats 800000 in
theorem gs_c {z : Zt} (E : EN z cX3_giveSource RX3) {w0 : va_W} {P : Option Value → va_W → Prop} {lvl : Nat} {mc9 ms9 : Nat} (T : RT z none lvl w0 P mc9 ms9) (hz : zn z = 4) {ad : Nat → Nat} {G : Nat → Nat → Int32} {V : Nat → Int32} {n : Nat} {c9 s9 : Nat} (hcs : c9 ≤ mc9 ∧ s9 ≤ ms9) (hlv : 1 ≤ lvl) (a9 i9 u9 : Int32) {r u : Nat} (er : fX4_cellOf a9 i9 = nI r) (eu : u9 = nI u) (hr3 : r + 3 ≤ 72) (hu3 : u + 3 ≤ n) (hn31 : n < 2 ^ 31) 
    (k1 : ∀ (G1 : Nat → Nat → Int32), G1 = va_up G 24 (va_cpy (G 2) (G 24) r u 3) → WW z c9 s9 (WC (zk z) ad G1 V n) 2 [(0, .ref (ad 23)), (1, .int a9), (2, .int (i9 + 1))] []) :
    WW z c9 s9 (WC (zk z) ad G V n) 19 [(0, .ref (ad 23)), (1, .int a9), (2, .int i9)] [.int u9] := by
  refine r_istore_n E (q := 20) (lv' := [(0, .ref (ad 23)), (1, .int a9), (2, .int i9), (3, .int u9)]) [1, 2, 3, 0] dX3_giveSource_19 rfl (by rw [hz]; decide) rfl rfl ?_
  refine r_aload_n E (q := 21) 0 dX3_giveSource_20 rfl rfl rfl ?_
  refine r_get E (q := 24) fX3_27 23 wc_23 rfl dX3_giveSource_21 rfl ?_
  refine r_get E (q := 27) fX3_119 1 wc_1 rfl dX3_giveSource_24 rfl ?_
  refine r_aload_n E (q := 28) 0 dX3_giveSource_27 rfl rfl rfl ?_
  refine r_get E (q := 31) fX3_27 23 wc_23 rfl dX3_giveSource_28 rfl ?_
  refine r_iload_n E (q := 32) 1 dX3_giveSource_31 rfl rfl rfl ?_
  refine r_iload_n E (q := 33) 2 dX3_giveSource_32 rfl rfl rfl ?_
  refine rVi E (q := 36) cvX3_120 T.rr 1 wc_1 rfl [.int a9, .int i9] (c_X4_cellOf a9 i9) (by omega) rfl rfl (Nat.le_of_ble_eq_true rfl) hcs dX3_giveSource_33 rfl ?_
  refine r_aload_n E (q := 37) 0 dX3_giveSource_36 rfl rfl rfl ?_
  refine r_get E (q := 40) fX3_13 23 wc_23 rfl dX3_giveSource_37 rfl ?_
  refine r_iload_n E (q := 41) 3 dX3_giveSource_40 rfl rfl rfl ?_
  refine r_iconst E (q := 42) (v := 3) dX3_giveSource_41 (by decide) rfl ?_
  refine r_copy E (d := 0) (q := 45) (RR.le T.rr (show 0 + 1 ≤ lvl by omega)) acX3_124 2 24 wc_2 wc_24 (s0 := r) (d0 := u) (m0 := 3) er eu rfl hr3 hu3 (by decide) hn31 (Nat.le_of_ble_eq_true rfl) wcs_24 dX3_giveSource_42 rfl ?_
  refine r_nGC (fun G1 eG1 => ?_)
  refine r_iinc E (q := 48) (v := i9 + 1) (lv' := [(0, .ref (ad 23)), (1, .int a9), (2, .int (i9 + 1)), (3, .int u9)]) 2 [1, 2, 0, 3] dX3_giveSource_45 rfl (by rfl) (by rw [hz]; decide) rfl rfl ?_
  refine r_goto E 2 dX3_giveSource_48 (by decide) ?_
  refine r_sub [0, 1, 2] rfl ?_
  exact k1 G1 eG1
set_option maxRecDepth 100000 in
set_option maxHeartbeats 800000 in
theorem gf_a {z : Zt} (E : EN z cX3_giveFiltered RX3) {w0 : va_W} {P : Option Value → va_W → Prop} {lvl : Nat} {mc9 ms9 : Nat} (T : RT z none lvl w0 P mc9 ms9) (hz : zn z = 5) {ad : Nat → Nat} {G : Nat → Nat → Int32} {V : Nat → Int32} {n : Nat} {c9 s9 : Nat} (hcs : c9 ≤ mc9 ∧ s9 ≤ ms9) (a9 f9 : Int32) 
    (o1 : vp_in a9 60)
    (k1 : WW z c9 s9 (WC (zk z) ad G V n) 7 [(0, .ref (ad 23)), (1, .int a9), (2, .int f9), (3, .int (G 25 (ix a9)))] []) :
    WW z c9 s9 (WC (zk z) ad G V n) 0 [(0, .ref (ad 23)), (1, .int a9), (2, .int f9)] [] := by
  refine r_aload_n E (q := 1) 0 dX3_giveFiltered_0 rfl rfl rfl ?_
  refine r_get E (q := 4) fX3_17 23 wc_23 rfl dX3_giveFiltered_1 rfl ?_
  refine r_iload_n E (q := 5) 1 dX3_giveFiltered_4 rfl rfl rfl ?_
  refine r_iald E (q := 6) 25 wc_25 o1 dX3_giveFiltered_5 rfl ?_
  refine r_istore_n E (q := 7) (lv' := [(0, .ref (ad 23)), (1, .int a9), (2, .int f9), (3, .int (G 25 (ix a9)))]) [1, 2, 3, 0] dX3_giveFiltered_6 rfl (by rw [hz]; decide) rfl rfl ?_
  exact k1 
set_option maxRecDepth 100000 in
set_option maxHeartbeats 800000 in
theorem gf_b {z : Zt} (E : EN z cX3_giveFiltered RX3) {w0 : va_W} {P : Option Value → va_W → Prop} {lvl : Nat} {mc9 ms9 : Nat} (T : RT z none lvl w0 P mc9 ms9) (hz : zn z = 5) {ad : Nat → Nat} {G : Nat → Nat → Int32} {V : Nat → Int32} {n : Nat} {c9 s9 : Nat} (hcs : c9 ≤ mc9 ∧ s9 ≤ ms9) (a9 f9 r9 : Int32) 
    (o1 : vp_in a9 60)
    (k1 : G 26 (ix a9) ≤ r9 → P none (WC (zk z) ad G V n)) 
    (k2 : ¬ (G 26 (ix a9) ≤ r9) → WW z c9 s9 (WC (zk z) ad G V n) 20 [(0, .ref (ad 23)), (1, .int a9), (2, .int f9), (3, .int r9)] [.int r9, .int f9, .ref (ad 23)]) :
    WW z c9 s9 (WC (zk z) ad G V n) 7 [(0, .ref (ad 23)), (1, .int a9), (2, .int f9), (3, .int r9)] [] := by
  refine r_iload_n E (q := 8) 3 dX3_giveFiltered_7 rfl rfl rfl ?_
  refine r_aload_n E (q := 9) 0 dX3_giveFiltered_8 rfl rfl rfl ?_
  refine r_get E (q := 12) fX3_20 23 wc_23 rfl dX3_giveFiltered_9 rfl ?_
  refine r_iload_n E (q := 13) 1 dX3_giveFiltered_12 rfl rfl rfl ?_
  refine r_iald E (q := 14) 26 wc_26 o1 dX3_giveFiltered_13 rfl ?_
  refine r_icmp_ge E (q := 17) 50 dX3_giveFiltered_14 (by decide) rfl (fun c1 => ?_) (fun c1 => ?_)
  · refine r_widen hcs.1 hcs.2 ?_
    exact r_vret E T dX3_giveFiltered_50 (k1 c1)
  · refine r_aload_n E (q := 18) 0 dX3_giveFiltered_17 rfl rfl rfl ?_
    refine r_iload_n E (q := 19) 2 dX3_giveFiltered_18 rfl rfl rfl ?_
    refine r_iload_n E (q := 20) 3 dX3_giveFiltered_19 rfl rfl rfl ?_
    exact k2 c1
set_option maxRecDepth 100000 in
set_option maxHeartbeats 800000 in
theorem gf_c {z : Zt} (E : EN z cX3_giveFiltered RX3) {w0 : va_W} {P : Option Value → va_W → Prop} {lvl : Nat} {mc9 ms9 : Nat} (T : RT z none lvl w0 P mc9 ms9) (hz : zn z = 5) {ad : Nat → Nat} {G : Nat → Nat → Int32} {V : Nat → Int32} {n : Nat} {c9 s9 : Nat} (hcs : c9 ≤ mc9 ∧ s9 ≤ ms9) (a9 f9 r9 v9 : Int32) 
    (k1 : V 5 = 0 → v9 = 0 → WW z c9 s9 (WC (zk z) ad G V n) 7 [(0, .ref (ad 23)), (1, .int a9), (2, .int f9), (3, .int (r9 + 6))] []) 
    (k2 : V 5 = 0 → ¬ (v9 = 0) → WW z c9 s9 (WC (zk z) ad G V n) 40 [(0, .ref (ad 23)), (1, .int a9), (2, .int f9), (3, .int r9)] [.int r9, .ref (ad 23)]) 
    (k3 : ¬ (V 5 = 0) → P none (WC (zk z) ad G V n)) :
    WW z c9 s9 (WC (zk z) ad G V n) 23 [(0, .ref (ad 23)), (1, .int a9), (2, .int f9), (3, .int r9)] [.int v9] := by
  refine r_istore E (q := 25) (lv' := [(0, .ref (ad 23)), (1, .int a9), (2, .int f9), (3, .int r9), (4, .int v9)]) [1, 2, 3, 4, 0] dX3_giveFiltered_23 (by rw [hz]; decide) rfl rfl ?_
  refine r_aload_n E (q := 26) 0 dX3_giveFiltered_25 rfl rfl rfl ?_
  refine r_get E (q := 29) fX3_42 23 wc_23 rfl dX3_giveFiltered_26 rfl ?_
  refine r_if_eq E (q := 32) 33 dX3_giveFiltered_29 (by decide) rfl (fun c1 => ?_) (fun c1 => ?_)
  · refine r_iload E (q := 35) 4 dX3_giveFiltered_33 rfl rfl ?_
    refine r_if_eq E (q := 38) 44 dX3_giveFiltered_35 (by decide) rfl (fun c2 => ?_) (fun c2 => ?_)
    · refine r_iinc E (q := 47) (v := r9 + 6) (lv' := [(0, .ref (ad 23)), (1, .int a9), (2, .int f9), (3, .int (r9 + 6)), (4, .int v9)]) 3 [1, 2, 3, 0, 4] dX3_giveFiltered_44 rfl (by rfl) (by rw [hz]; decide) rfl rfl ?_
      refine r_goto E 7 dX3_giveFiltered_47 (by decide) ?_
      refine r_sub [0, 1, 2, 3] rfl ?_
      exact k1 c1 c2
    · refine r_aload_n E (q := 39) 0 dX3_giveFiltered_38 rfl rfl rfl ?_
      refine r_iload_n E (q := 40) 3 dX3_giveFiltered_39 rfl rfl rfl ?_
      refine r_sub [0, 1, 2, 3] rfl ?_
      exact k2 c1 c2
  · refine r_widen hcs.1 hcs.2 ?_
    exact r_vret E T dX3_giveFiltered_32 (k3 c1)
set_option maxRecDepth 100000 in
set_option maxHeartbeats 800000 in
theorem gf_d {z : Zt} (E : EN z cX3_giveFiltered RX3) {w0 : va_W} {P : Option Value → va_W → Prop} {lvl : Nat} {mc9 ms9 : Nat} (T : RT z none lvl w0 P mc9 ms9) (hz : zn z = 5) {ad : Nat → Nat} {G : Nat → Nat → Int32} {V : Nat → Int32} {n : Nat} {c9 s9 : Nat} (hcs : c9 ≤ mc9 ∧ s9 ≤ ms9) (a9 f9 r9 u9 : Int32) 
    (k1 : WW z c9 s9 (WC (zk z) ad G V n) 7 [(0, .ref (ad 23)), (1, .int a9), (2, .int f9), (3, .int (r9 + 6))] []) :
    WW z c9 s9 (WC (zk z) ad G V n) 43 [(0, .ref (ad 23)), (1, .int a9), (2, .int f9), (3, .int r9)] [.int u9] := by
  refine r_pop E (q := 44) dX3_giveFiltered_43 rfl rfl ?_
  refine r_iinc E (q := 47) (v := r9 + 6) (lv' := [(0, .ref (ad 23)), (1, .int a9), (2, .int f9), (3, .int (r9 + 6))]) 3 [1, 2, 3, 0] dX3_giveFiltered_44 rfl (by rfl) (by rw [hz]; decide) rfl rfl ?_
  refine r_goto E 7 dX3_giveFiltered_47 (by decide) ?_
  exact k1 
set_option maxRecDepth 100000 in
set_option maxHeartbeats 800000 in
theorem gt_a {z : Zt} (E : EN z cX3_giveSet RX3) {w0 : va_W} {P : Option Value → va_W → Prop} {lvl : Nat} {mc9 ms9 : Nat} (T : RT z none lvl w0 P mc9 ms9) (hz : zn z = 7) {ad : Nat → Nat} {G : Nat → Nat → Int32} {V : Nat → Int32} {n : Nat} {c9 s9 : Nat} (hcs : c9 ≤ mc9 ∧ s9 ≤ ms9) (a9 m9 f9 : Int32) 
    (o1 : vp_in a9 60)
    (k1 : WW z c9 s9 (WC (zk z) ad G V n) 8 [(0, .ref (ad 23)), (1, .int a9), (2, .int m9), (3, .int f9), (4, .int (G 25 (ix a9)))] []) :
    WW z c9 s9 (WC (zk z) ad G V n) 0 [(0, .ref (ad 23)), (1, .int a9), (2, .int m9), (3, .int f9)] [] := by
  refine r_aload_n E (q := 1) 0 dX3_giveSet_0 rfl rfl rfl ?_
  refine r_get E (q := 4) fX3_17 23 wc_23 rfl dX3_giveSet_1 rfl ?_
  refine r_iload_n E (q := 5) 1 dX3_giveSet_4 rfl rfl rfl ?_
  refine r_iald E (q := 6) 25 wc_25 o1 dX3_giveSet_5 rfl ?_
  refine r_istore E (q := 8) (lv' := [(0, .ref (ad 23)), (1, .int a9), (2, .int m9), (3, .int f9), (4, .int (G 25 (ix a9)))]) [1, 2, 3, 4, 0] dX3_giveSet_6 (by rw [hz]; decide) rfl rfl ?_
  exact k1 
set_option maxRecDepth 100000 in
set_option maxHeartbeats 800000 in
theorem gt_b {z : Zt} (E : EN z cX3_giveSet RX3) {w0 : va_W} {P : Option Value → va_W → Prop} {lvl : Nat} {mc9 ms9 : Nat} (T : RT z none lvl w0 P mc9 ms9) (hz : zn z = 7) {ad : Nat → Nat} {G : Nat → Nat → Int32} {V : Nat → Int32} {n : Nat} {c9 s9 : Nat} (hcs : c9 ≤ mc9 ∧ s9 ≤ ms9) (a9 m9 f9 r9 : Int32) 
    (o1 : vp_in a9 60)
    (k1 : G 26 (ix a9) ≤ r9 → P none (WC (zk z) ad G V n)) 
    (k2 : ¬ (G 26 (ix a9) ≤ r9) → WW z c9 s9 (WC (zk z) ad G V n) 23 [(0, .ref (ad 23)), (1, .int a9), (2, .int m9), (3, .int f9), (4, .int r9)] [.int r9, .int f9, .ref (ad 23)]) :
    WW z c9 s9 (WC (zk z) ad G V n) 8 [(0, .ref (ad 23)), (1, .int a9), (2, .int m9), (3, .int f9), (4, .int r9)] [] := by
  refine r_iload E (q := 10) 4 dX3_giveSet_8 rfl rfl ?_
  refine r_aload_n E (q := 11) 0 dX3_giveSet_10 rfl rfl rfl ?_
  refine r_get E (q := 14) fX3_20 23 wc_23 rfl dX3_giveSet_11 rfl ?_
  refine r_iload_n E (q := 15) 1 dX3_giveSet_14 rfl rfl rfl ?_
  refine r_iald E (q := 16) 26 wc_26 o1 dX3_giveSet_15 rfl ?_
  refine r_icmp_ge E (q := 19) 61 dX3_giveSet_16 (by decide) rfl (fun c1 => ?_) (fun c1 => ?_)
  · refine r_widen hcs.1 hcs.2 ?_
    exact r_vret E T dX3_giveSet_61 (k1 c1)
  · refine r_aload_n E (q := 20) 0 dX3_giveSet_19 rfl rfl rfl ?_
    refine r_iload_n E (q := 21) 3 dX3_giveSet_20 rfl rfl rfl ?_
    refine r_iload E (q := 23) 4 dX3_giveSet_21 rfl rfl ?_
    exact k2 c1
set_option maxRecDepth 100000 in
set_option maxHeartbeats 800000 in
theorem gt_c {z : Zt} (E : EN z cX3_giveSet RX3) {w0 : va_W} {P : Option Value → va_W → Prop} {lvl : Nat} {mc9 ms9 : Nat} (T : RT z none lvl w0 P mc9 ms9) (hz : zn z = 7) {ad : Nat → Nat} {G : Nat → Nat → Int32} {V : Nat → Int32} {n : Nat} {c9 s9 : Nat} (hcs : c9 ≤ mc9 ∧ s9 ≤ ms9) (a9 m9 f9 r9 v9 : Int32) 
    (k1 : V 5 = 0 → WW z c9 s9 (WC (zk z) ad G V n) 39 [(0, .ref (ad 23)), (1, .int a9), (2, .int m9), (3, .int f9), (4, .int r9), (5, .int v9)] [.int r9, .ref (ad 23)]) 
    (k2 : ¬ (V 5 = 0) → P none (WC (zk z) ad G V n)) :
    WW z c9 s9 (WC (zk z) ad G V n) 26 [(0, .ref (ad 23)), (1, .int a9), (2, .int m9), (3, .int f9), (4, .int r9)] [.int v9] := by
  refine r_istore E (q := 28) (lv' := [(0, .ref (ad 23)), (1, .int a9), (2, .int m9), (3, .int f9), (4, .int r9), (5, .int v9)]) [1, 2, 3, 4, 5, 0] dX3_giveSet_26 (by rw [hz]; decide) rfl rfl ?_
  refine r_aload_n E (q := 29) 0 dX3_giveSet_28 rfl rfl rfl ?_
  refine r_get E (q := 32) fX3_42 23 wc_23 rfl dX3_giveSet_29 rfl ?_
  refine r_if_eq E (q := 35) 36 dX3_giveSet_32 (by decide) rfl (fun c1 => ?_) (fun c1 => ?_)
  · refine r_aload_n E (q := 37) 0 dX3_giveSet_36 rfl rfl rfl ?_
    refine r_iload E (q := 39) 4 dX3_giveSet_37 rfl rfl ?_
    exact k1 c1
  · refine r_widen hcs.1 hcs.2 ?_
    exact r_vret E T dX3_giveSet_35 (k2 c1)
set_option maxRecDepth 100000 in
set_option maxHeartbeats 800000 in
theorem gt_d {z : Zt} (E : EN z cX3_giveSet RX3) {w0 : va_W} {P : Option Value → va_W → Prop} {lvl : Nat} {mc9 ms9 : Nat} (T : RT z none lvl w0 P mc9 ms9) (hz : zn z = 7) {ad : Nat → Nat} {G : Nat → Nat → Int32} {V : Nat → Int32} {n : Nat} {c9 s9 : Nat} (hcs : c9 ≤ mc9 ∧ s9 ≤ ms9) (a9 m9 f9 r9 v9 u9 : Int32) 
    (o1 : vp_in (u9 + m9) n)
    (k1 : ∀ (G1 : Nat → Nat → Int32), G1 = ug G 24 (ix (u9 + m9)) v9 → WW z c9 s9 (WC (zk z) ad G1 V n) 8 [(0, .ref (ad 23)), (1, .int a9), (2, .int m9), (3, .int f9), (4, .int (r9 + 6))] []) :
    WW z c9 s9 (WC (zk z) ad G V n) 42 [(0, .ref (ad 23)), (1, .int a9), (2, .int m9), (3, .int f9), (4, .int r9), (5, .int v9)] [.int u9] := by
  refine r_istore E (q := 44) (lv' := [(0, .ref (ad 23)), (1, .int a9), (2, .int m9), (3, .int f9), (4, .int r9), (5, .int v9), (6, .int u9)]) [1, 2, 3, 4, 5, 6, 0] dX3_giveSet_42 (by rw [hz]; decide) rfl rfl ?_
  refine r_aload_n E (q := 45) 0 dX3_giveSet_44 rfl rfl rfl ?_
  refine r_get E (q := 48) fX3_13 23 wc_23 rfl dX3_giveSet_45 rfl ?_
  refine r_iload E (q := 50) 6 dX3_giveSet_48 rfl rfl ?_
  refine r_iload_n E (q := 51) 2 dX3_giveSet_50 rfl rfl rfl ?_
  refine r_iadd E (q := 52) dX3_giveSet_51 rfl ?_
  refine r_iload E (q := 54) 5 dX3_giveSet_52 rfl rfl ?_
  refine r_iast E (q := 55) 24 wc_24 o1 wcu_24 dX3_giveSet_54 rfl ?_
  refine r_nGC (fun G1 eG1 => ?_)
  refine r_iinc E (q := 58) (v := r9 + 6) (lv' := [(0, .ref (ad 23)), (1, .int a9), (2, .int m9), (3, .int f9), (4, .int (r9 + 6)), (5, .int v9), (6, .int u9)]) 4 [1, 2, 3, 4, 0, 5, 6] dX3_giveSet_55 rfl (by rfl) (by rw [hz]; decide) rfl rfl ?_
  refine r_goto E 8 dX3_giveSet_58 (by decide) ?_
  refine r_sub [0, 1, 2, 3, 4] rfl ?_
  exact k1 G1 eG1
set_option maxRecDepth 100000 in
set_option maxHeartbeats 800000 in
theorem gk_a {z : Zt} (E : EN z cX3_giveKept RX3) {w0 : va_W} {P : Option Value → va_W → Prop} {lvl : Nat} {mc9 ms9 : Nat} (T : RT z none lvl w0 P mc9 ms9) (hz : zn z = 5) {ad : Nat → Nat} {G : Nat → Nat → Int32} {V : Nat → Int32} {n : Nat} {c9 s9 : Nat} (hcs : c9 ≤ mc9 ∧ s9 ≤ ms9) (a9 f9 : Int32) 
    (o1 : vp_in a9 60)
    (k1 : WW z c9 s9 (WC (zk z) ad G V n) 7 [(0, .ref (ad 23)), (1, .int a9), (2, .int f9), (3, .int (G 25 (ix a9)))] []) :
    WW z c9 s9 (WC (zk z) ad G V n) 0 [(0, .ref (ad 23)), (1, .int a9), (2, .int f9)] [] := by
  refine r_aload_n E (q := 1) 0 dX3_giveKept_0 rfl rfl rfl ?_
  refine r_get E (q := 4) fX3_17 23 wc_23 rfl dX3_giveKept_1 rfl ?_
  refine r_iload_n E (q := 5) 1 dX3_giveKept_4 rfl rfl rfl ?_
  refine r_iald E (q := 6) 25 wc_25 o1 dX3_giveKept_5 rfl ?_
  refine r_istore_n E (q := 7) (lv' := [(0, .ref (ad 23)), (1, .int a9), (2, .int f9), (3, .int (G 25 (ix a9)))]) [1, 2, 3, 0] dX3_giveKept_6 rfl (by rw [hz]; decide) rfl rfl ?_
  exact k1 
set_option maxRecDepth 100000 in
set_option maxHeartbeats 800000 in
theorem gk_b {z : Zt} (E : EN z cX3_giveKept RX3) {w0 : va_W} {P : Option Value → va_W → Prop} {lvl : Nat} {mc9 ms9 : Nat} (T : RT z none lvl w0 P mc9 ms9) (hz : zn z = 5) {ad : Nat → Nat} {G : Nat → Nat → Int32} {V : Nat → Int32} {n : Nat} {c9 s9 : Nat} (hcs : c9 ≤ mc9 ∧ s9 ≤ ms9) (a9 f9 r9 : Int32) 
    (o1 : vp_in a9 60)
    (k1 : G 26 (ix a9) ≤ r9 → P none (WC (zk z) ad G V n)) 
    (k2 : ¬ (G 26 (ix a9) ≤ r9) → WW z c9 s9 (WC (zk z) ad G V n) 18 [(0, .ref (ad 23)), (1, .int a9), (2, .int f9), (3, .int r9)] [.ref (ad 23)]) :
    WW z c9 s9 (WC (zk z) ad G V n) 7 [(0, .ref (ad 23)), (1, .int a9), (2, .int f9), (3, .int r9)] [] := by
  refine r_iload_n E (q := 8) 3 dX3_giveKept_7 rfl rfl rfl ?_
  refine r_aload_n E (q := 9) 0 dX3_giveKept_8 rfl rfl rfl ?_
  refine r_get E (q := 12) fX3_20 23 wc_23 rfl dX3_giveKept_9 rfl ?_
  refine r_iload_n E (q := 13) 1 dX3_giveKept_12 rfl rfl rfl ?_
  refine r_iald E (q := 14) 26 wc_26 o1 dX3_giveKept_13 rfl ?_
  refine r_icmp_ge E (q := 17) 37 dX3_giveKept_14 (by decide) rfl (fun c1 => ?_) (fun c1 => ?_)
  · refine r_widen hcs.1 hcs.2 ?_
    exact r_vret E T dX3_giveKept_37 (k1 c1)
  · refine r_aload_n E (q := 18) 0 dX3_giveKept_17 rfl rfl rfl ?_
    exact k2 c1
set_option maxRecDepth 100000 in
set_option maxHeartbeats 800000 in
theorem gk_c {z : Zt} (E : EN z cX3_giveKept RX3) {w0 : va_W} {P : Option Value → va_W → Prop} {lvl : Nat} {mc9 ms9 : Nat} (T : RT z none lvl w0 P mc9 ms9) (hz : zn z = 5) {ad : Nat → Nat} {G : Nat → Nat → Int32} {V : Nat → Int32} {n : Nat} {c9 s9 : Nat} (hcs : c9 ≤ mc9 ∧ s9 ≤ ms9) (hlv : 2 ≤ lvl) (a9 f9 r9 u9 : Int32) {Gm : Nat → Nat → Int32} (ct9 : CT (zl z) (zk z) yX3_copyMembers cX3_copyMembers 5 none 1 [.ref (ad 23), .int f9, .int r9, .int u9] (WC (zk z) ad G V n) (eqV (WC (zk z) ad Gm V n)) 0 0) 
    (k1 : WW z c9 s9 (WC (zk z) ad Gm V n) 7 [(0, .ref (ad 23)), (1, .int a9), (2, .int f9), (3, .int (r9 + 6))] []) :
    WW z c9 s9 (WC (zk z) ad G V n) 21 [(0, .ref (ad 23)), (1, .int a9), (2, .int f9), (3, .int r9)] [.int u9] := by
  refine r_istore E (q := 23) (lv' := [(0, .ref (ad 23)), (1, .int a9), (2, .int f9), (3, .int r9), (4, .int u9)]) [1, 2, 3, 4, 0] dX3_giveKept_21 (by rw [hz]; decide) rfl rfl ?_
  refine r_aload_n E (q := 24) 0 dX3_giveKept_23 rfl rfl rfl ?_
  refine r_iload_n E (q := 25) 2 dX3_giveKept_24 rfl rfl rfl ?_
  refine r_iload_n E (q := 26) 3 dX3_giveKept_25 rfl rfl rfl ?_
  refine r_iload E (q := 28) 4 dX3_giveKept_26 rfl rfl ?_
  refine rVv E (q := 31) cvX3_136 T.rr 23 wc_23 rfl [.int f9, .int r9, .int u9] ct9 (by omega) rfl rfl (Nat.le_of_ble_eq_true rfl) hcs dX3_giveKept_28 rfl ?_
  refine r_iinc E (q := 34) (v := r9 + 6) (lv' := [(0, .ref (ad 23)), (1, .int a9), (2, .int f9), (3, .int (r9 + 6)), (4, .int u9)]) 3 [1, 2, 3, 0, 4] dX3_giveKept_31 rfl (by rfl) (by rw [hz]; decide) rfl rfl ?_
  refine r_goto E 7 dX3_giveKept_34 (by decide) ?_
  refine r_sub [0, 1, 2, 3] rfl ?_
  exact k1 
set_option maxRecDepth 100000 in
set_option maxHeartbeats 800000 in
theorem gj_a {z : Zt} (E : EN z cX3_giveJoined RX3) {w0 : va_W} {P : Option Value → va_W → Prop} {lvl : Nat} {mc9 ms9 : Nat} (T : RT z none lvl w0 P mc9 ms9) (hz : zn z = 8) {ad : Nat → Nat} {G : Nat → Nat → Int32} {V : Nat → Int32} {n : Nat} {c9 s9 : Nat} (hcs : c9 ≤ mc9 ∧ s9 ≤ ms9) (a9 b9 m9 f9 : Int32) 
    (o1 : vp_in a9 60)
    (k1 : WW z c9 s9 (WC (zk z) ad G V n) 8 [(0, .ref (ad 23)), (1, .int a9), (2, .int b9), (3, .int m9), (4, .int f9), (5, .int (G 25 (ix a9)))] []) :
    WW z c9 s9 (WC (zk z) ad G V n) 0 [(0, .ref (ad 23)), (1, .int a9), (2, .int b9), (3, .int m9), (4, .int f9)] [] := by
  refine r_aload_n E (q := 1) 0 dX3_giveJoined_0 rfl rfl rfl ?_
  refine r_get E (q := 4) fX3_17 23 wc_23 rfl dX3_giveJoined_1 rfl ?_
  refine r_iload_n E (q := 5) 1 dX3_giveJoined_4 rfl rfl rfl ?_
  refine r_iald E (q := 6) 25 wc_25 o1 dX3_giveJoined_5 rfl ?_
  refine r_istore E (q := 8) (lv' := [(0, .ref (ad 23)), (1, .int a9), (2, .int b9), (3, .int m9), (4, .int f9), (5, .int (G 25 (ix a9)))]) [1, 2, 3, 4, 5, 0] dX3_giveJoined_6 (by rw [hz]; decide) rfl rfl ?_
  exact k1 
set_option maxRecDepth 100000 in
set_option maxHeartbeats 800000 in
theorem gj_b {z : Zt} (E : EN z cX3_giveJoined RX3) {w0 : va_W} {P : Option Value → va_W → Prop} {lvl : Nat} {mc9 ms9 : Nat} (T : RT z none lvl w0 P mc9 ms9) (hz : zn z = 8) {ad : Nat → Nat} {G : Nat → Nat → Int32} {V : Nat → Int32} {n : Nat} {c9 s9 : Nat} (hcs : c9 ≤ mc9 ∧ s9 ≤ ms9) (a9 b9 m9 f9 r9 : Int32) 
    (o1 : vp_in a9 60) 
    (o2 : ¬ (G 26 (ix a9) ≤ r9) → vp_in b9 60)
    (k1 : G 26 (ix a9) ≤ r9 → P none (WC (zk z) ad G V n)) 
    (k2 : ¬ (G 26 (ix a9) ≤ r9) → WW z c9 s9 (WC (zk z) ad G V n) 27 [(0, .ref (ad 23)), (1, .int a9), (2, .int b9), (3, .int m9), (4, .int f9), (5, .int r9), (6, .int (G 25 (ix b9)))] []) :
    WW z c9 s9 (WC (zk z) ad G V n) 8 [(0, .ref (ad 23)), (1, .int a9), (2, .int b9), (3, .int m9), (4, .int f9), (5, .int r9)] [] := by
  refine r_iload E (q := 10) 5 dX3_giveJoined_8 rfl rfl ?_
  refine r_aload_n E (q := 11) 0 dX3_giveJoined_10 rfl rfl rfl ?_
  refine r_get E (q := 14) fX3_20 23 wc_23 rfl dX3_giveJoined_11 rfl ?_
  refine r_iload_n E (q := 15) 1 dX3_giveJoined_14 rfl rfl rfl ?_
  refine r_iald E (q := 16) 26 wc_26 o1 dX3_giveJoined_15 rfl ?_
  refine r_icmp_ge E (q := 19) 89 dX3_giveJoined_16 (by decide) rfl (fun c1 => ?_) (fun c1 => ?_)
  · refine r_widen hcs.1 hcs.2 ?_
    exact r_vret E T dX3_giveJoined_89 (k1 c1)
  · refine r_aload_n E (q := 20) 0 dX3_giveJoined_19 rfl rfl rfl ?_
    refine r_get E (q := 23) fX3_17 23 wc_23 rfl dX3_giveJoined_20 rfl ?_
    refine r_iload_n E (q := 24) 2 dX3_giveJoined_23 rfl rfl rfl ?_
    refine r_iald E (q := 25) 25 wc_25 (o2 c1) dX3_giveJoined_24 rfl ?_
    refine r_istore E (q := 27) (lv' := [(0, .ref (ad 23)), (1, .int a9), (2, .int b9), (3, .int m9), (4, .int f9), (5, .int r9), (6, .int (G 25 (ix b9)))]) [1, 2, 3, 4, 5, 6, 0] dX3_giveJoined_25 (by rw [hz]; decide) rfl rfl ?_
    exact k2 c1
set_option maxRecDepth 100000 in
set_option maxHeartbeats 800000 in
theorem gj_c {z : Zt} (E : EN z cX3_giveJoined RX3) {w0 : va_W} {P : Option Value → va_W → Prop} {lvl : Nat} {mc9 ms9 : Nat} (T : RT z none lvl w0 P mc9 ms9) (hz : zn z = 8) {ad : Nat → Nat} {G : Nat → Nat → Int32} {V : Nat → Int32} {n : Nat} {c9 s9 : Nat} (hcs : c9 ≤ mc9 ∧ s9 ≤ ms9) (a9 b9 m9 f9 r9 o9 : Int32) 
    (o1 : vp_in b9 60) 
    (o2 : ¬ (G 26 (ix b9) ≤ o9) → vp_in (r9 + m9) n) 
    (o3 : ¬ (G 26 (ix b9) ≤ o9) → vp_in (o9 + m9) n)
    (k1 : G 26 (ix b9) ≤ o9 → WW z c9 s9 (WC (zk z) ad G V n) 8 [(0, .ref (ad 23)), (1, .int a9), (2, .int b9), (3, .int m9), (4, .int f9), (5, .int (r9 + 6))] []) 
    (k2 : ¬ (G 26 (ix b9) ≤ o9) → ¬ (G 24 (ix (r9 + m9)) = G 24 (ix (o9 + m9))) → WW z c9 s9 (WC (zk z) ad G V n) 27 [(0, .ref (ad 23)), (1, .int a9), (2, .int b9), (3, .int m9), (4, .int f9), (5, .int r9), (6, .int (o9 + 6))] []) 
    (k3 : ¬ (G 26 (ix b9) ≤ o9) → G 24 (ix (r9 + m9)) = G 24 (ix (o9 + m9)) → WW z c9 s9 (WC (zk z) ad G V n) 62 [(0, .ref (ad 23)), (1, .int a9), (2, .int b9), (3, .int m9), (4, .int f9), (5, .int r9), (6, .int o9)] [.int r9, .ref (ad 23)]) :
    WW z c9 s9 (WC (zk z) ad G V n) 27 [(0, .ref (ad 23)), (1, .int a9), (2, .int b9), (3, .int m9), (4, .int f9), (5, .int r9), (6, .int o9)] [] := by
  refine r_iload E (q := 29) 6 dX3_giveJoined_27 rfl rfl ?_
  refine r_aload_n E (q := 30) 0 dX3_giveJoined_29 rfl rfl rfl ?_
  refine r_get E (q := 33) fX3_20 23 wc_23 rfl dX3_giveJoined_30 rfl ?_
  refine r_iload_n E (q := 34) 2 dX3_giveJoined_33 rfl rfl rfl ?_
  refine r_iald E (q := 35) 26 wc_26 o1 dX3_giveJoined_34 rfl ?_
  refine r_icmp_ge E (q := 38) 83 dX3_giveJoined_35 (by decide) rfl (fun c1 => ?_) (fun c1 => ?_)
  · refine r_iinc E (q := 86) (v := r9 + 6) (lv' := [(0, .ref (ad 23)), (1, .int a9), (2, .int b9), (3, .int m9), (4, .int f9), (5, .int (r9 + 6)), (6, .int o9)]) 5 [1, 2, 3, 4, 5, 0, 6] dX3_giveJoined_83 rfl (by rfl) (by rw [hz]; decide) rfl rfl ?_
    refine r_goto E 8 dX3_giveJoined_86 (by decide) ?_
    refine r_sub [0, 1, 2, 3, 4, 5] rfl ?_
    exact k1 c1
  · refine r_aload_n E (q := 39) 0 dX3_giveJoined_38 rfl rfl rfl ?_
    refine r_get E (q := 42) fX3_13 23 wc_23 rfl dX3_giveJoined_39 rfl ?_
    refine r_iload E (q := 44) 5 dX3_giveJoined_42 rfl rfl ?_
    refine r_iload_n E (q := 45) 3 dX3_giveJoined_44 rfl rfl rfl ?_
    refine r_iadd E (q := 46) dX3_giveJoined_45 rfl ?_
    refine r_iald E (q := 47) 24 wc_24 (o2 c1) dX3_giveJoined_46 rfl ?_
    refine r_aload_n E (q := 48) 0 dX3_giveJoined_47 rfl rfl rfl ?_
    refine r_get E (q := 51) fX3_13 23 wc_23 rfl dX3_giveJoined_48 rfl ?_
    refine r_iload E (q := 53) 6 dX3_giveJoined_51 rfl rfl ?_
    refine r_iload_n E (q := 54) 3 dX3_giveJoined_53 rfl rfl rfl ?_
    refine r_iadd E (q := 55) dX3_giveJoined_54 rfl ?_
    refine r_iald E (q := 56) 24 wc_24 (o3 c1) dX3_giveJoined_55 rfl ?_
    refine r_icmp_ne E (q := 59) 77 dX3_giveJoined_56 (by decide) rfl (fun c2 => ?_) (fun c2 => ?_)
    · refine r_iinc E (q := 80) (v := o9 + 6) (lv' := [(0, .ref (ad 23)), (1, .int a9), (2, .int b9), (3, .int m9), (4, .int f9), (5, .int r9), (6, .int (o9 + 6))]) 6 [1, 2, 3, 4, 5, 6, 0] dX3_giveJoined_77 rfl (by rfl) (by rw [hz]; decide) rfl rfl ?_
      refine r_goto E 27 dX3_giveJoined_80 (by decide) ?_
      exact k2 c1 c2
    · refine r_aload_n E (q := 60) 0 dX3_giveJoined_59 rfl rfl rfl ?_
      refine r_iload E (q := 62) 5 dX3_giveJoined_60 rfl rfl ?_
      exact k3 c1 c2
set_option maxRecDepth 100000 in
set_option maxHeartbeats 800000 in
theorem gj_d {z : Zt} (E : EN z cX3_giveJoined RX3) {w0 : va_W} {P : Option Value → va_W → Prop} {lvl : Nat} {mc9 ms9 : Nat} (T : RT z none lvl w0 P mc9 ms9) (hz : zn z = 8) {ad : Nat → Nat} {G : Nat → Nat → Int32} {V : Nat → Int32} {n : Nat} {c9 s9 : Nat} (hcs : c9 ≤ mc9 ∧ s9 ≤ ms9) (hlv : 2 ≤ lvl) (a9 b9 m9 f9 r9 o9 u9 : Int32) {Gm : Nat → Nat → Int32} (ct9 : CT (zl z) (zk z) yX3_copyMembers cX3_copyMembers 5 none 1 [.ref (ad 23), .int f9, .int o9, .int u9] (WC (zk z) ad G V n) (eqV (WC (zk z) ad Gm V n)) 0 0) 
    (k1 : WW z c9 s9 (WC (zk z) ad Gm V n) 27 [(0, .ref (ad 23)), (1, .int a9), (2, .int b9), (3, .int m9), (4, .int f9), (5, .int r9), (6, .int (o9 + 6))] []) :
    WW z c9 s9 (WC (zk z) ad G V n) 65 [(0, .ref (ad 23)), (1, .int a9), (2, .int b9), (3, .int m9), (4, .int f9), (5, .int r9), (6, .int o9)] [.int u9] := by
  refine r_istore E (q := 67) (lv' := [(0, .ref (ad 23)), (1, .int a9), (2, .int b9), (3, .int m9), (4, .int f9), (5, .int r9), (6, .int o9), (7, .int u9)]) [1, 2, 3, 4, 5, 6, 7, 0] dX3_giveJoined_65 (by rw [hz]; decide) rfl rfl ?_
  refine r_aload_n E (q := 68) 0 dX3_giveJoined_67 rfl rfl rfl ?_
  refine r_iload E (q := 70) 4 dX3_giveJoined_68 rfl rfl ?_
  refine r_iload E (q := 72) 6 dX3_giveJoined_70 rfl rfl ?_
  refine r_iload E (q := 74) 7 dX3_giveJoined_72 rfl rfl ?_
  refine rVv E (q := 77) cvX3_136 T.rr 23 wc_23 rfl [.int f9, .int o9, .int u9] ct9 (by omega) rfl rfl (Nat.le_of_ble_eq_true rfl) hcs dX3_giveJoined_74 rfl ?_
  refine r_iinc E (q := 80) (v := o9 + 6) (lv' := [(0, .ref (ad 23)), (1, .int a9), (2, .int b9), (3, .int m9), (4, .int f9), (5, .int r9), (6, .int (o9 + 6)), (7, .int u9)]) 6 [1, 2, 3, 4, 5, 6, 0, 7] dX3_giveJoined_77 rfl (by rfl) (by rw [hz]; decide) rfl rfl ?_
  refine r_goto E 27 dX3_giveJoined_80 (by decide) ?_
  refine r_sub [0, 1, 2, 3, 4, 5, 6] rfl ?_
  exact k1 
set_option maxRecDepth 100000 in
set_option maxHeartbeats 800000 in
theorem gd_a {z : Zt} (E : EN z cX3_giveFolded RX3) {w0 : va_W} {P : Option Value → va_W → Prop} {lvl : Nat} {mc9 ms9 : Nat} (T : RT z none lvl w0 P mc9 ms9) (hz : zn z = 7) {ad : Nat → Nat} {G : Nat → Nat → Int32} {V : Nat → Int32} {n : Nat} {c9 s9 : Nat} (hcs : c9 ≤ mc9 ∧ s9 ≤ ms9) (a9 m9 f9 : Int32) 
    (o1 : vp_in a9 60)
    (k1 : WW z c9 s9 (WC (zk z) ad G V n) 14 [(0, .ref (ad 23)), (1, .int a9), (2, .int m9), (3, .int f9), (4, .int (V 2)), (5, .int (G 25 (ix a9)))] []) :
    WW z c9 s9 (WC (zk z) ad G V n) 0 [(0, .ref (ad 23)), (1, .int a9), (2, .int m9), (3, .int f9)] [] := by
  refine r_aload_n E (q := 1) 0 dX3_giveFolded_0 rfl rfl rfl ?_
  refine r_get E (q := 4) fX3_39 23 wc_23 rfl dX3_giveFolded_1 rfl ?_
  refine r_istore E (q := 6) (lv' := [(0, .ref (ad 23)), (1, .int a9), (2, .int m9), (3, .int f9), (4, .int (V 2))]) [1, 2, 3, 4, 0] dX3_giveFolded_4 (by rw [hz]; decide) rfl rfl ?_
  refine r_aload_n E (q := 7) 0 dX3_giveFolded_6 rfl rfl rfl ?_
  refine r_get E (q := 10) fX3_17 23 wc_23 rfl dX3_giveFolded_7 rfl ?_
  refine r_iload_n E (q := 11) 1 dX3_giveFolded_10 rfl rfl rfl ?_
  refine r_iald E (q := 12) 25 wc_25 o1 dX3_giveFolded_11 rfl ?_
  refine r_istore E (q := 14) (lv' := [(0, .ref (ad 23)), (1, .int a9), (2, .int m9), (3, .int f9), (4, .int (V 2)), (5, .int (G 25 (ix a9)))]) [1, 2, 3, 4, 5, 0] dX3_giveFolded_12 (by rw [hz]; decide) rfl rfl ?_
  exact k1 
set_option maxRecDepth 100000 in
set_option maxHeartbeats 800000 in
theorem gd_b {z : Zt} (E : EN z cX3_giveFolded RX3) {w0 : va_W} {P : Option Value → va_W → Prop} {lvl : Nat} {mc9 ms9 : Nat} (T : RT z none lvl w0 P mc9 ms9) (hz : zn z = 7) {ad : Nat → Nat} {G : Nat → Nat → Int32} {V : Nat → Int32} {n : Nat} {c9 s9 : Nat} (hcs : c9 ≤ mc9 ∧ s9 ≤ ms9) (hlv : 1 ≤ lvl) (a9 m9 f9 s9_ r9 q9 : Int32) (ct9 : ¬ G 26 (ix a9) ≤ r9 → CT (zl z) (zk z) yX3_findMember cX3_findMember 5 (some .int) 0 [.ref (ad 23), .int s9_, .int m9, .int (G 24 (ix (r9 + m9)))] (WC (zk z) ad G V n) (eqI q9 (WC (zk z) ad G V n)) 0 0) 
    (o1 : vp_in a9 60) 
    (o2 : ¬ (G 26 (ix a9) ≤ r9) → vp_in (r9 + m9) n) 
    (o3 : ¬ (G 26 (ix a9) ≤ r9) → 0 ≤ q9 → vp_in (q9 + f9) n) 
    (o4 : ¬ (G 26 (ix a9) ≤ r9) → 0 ≤ q9 → vp_in (r9 + f9) n)
    (k1 : G 26 (ix a9) ≤ r9 → P none (WC (zk z) ad G V n)) 
    (k2 : ∀ (G1 : Nat → Nat → Int32), G1 = ug G 24 (ix (q9 + f9)) ((G 24 (ix (q9 + f9))) + (G 24 (ix (r9 + f9)))) → ¬ (G 26 (ix a9) ≤ r9) → 0 ≤ q9 → WW z c9 s9 (WC (zk z) ad G1 V n) 14 [(0, .ref (ad 23)), (1, .int a9), (2, .int m9), (3, .int f9), (4, .int s9_), (5, .int (r9 + 6))] []) 
    (k3 : ¬ (G 26 (ix a9) ≤ r9) → ¬ (0 ≤ q9) → WW z c9 s9 (WC (zk z) ad G V n) 49 [(0, .ref (ad 23)), (1, .int a9), (2, .int m9), (3, .int f9), (4, .int s9_), (5, .int r9)] [.ref (ad 23)]) :
    WW z c9 s9 (WC (zk z) ad G V n) 14 [(0, .ref (ad 23)), (1, .int a9), (2, .int m9), (3, .int f9), (4, .int s9_), (5, .int r9)] [] := by
  refine r_iload E (q := 16) 5 dX3_giveFolded_14 rfl rfl ?_
  refine r_aload_n E (q := 17) 0 dX3_giveFolded_16 rfl rfl rfl ?_
  refine r_get E (q := 20) fX3_20 23 wc_23 rfl dX3_giveFolded_17 rfl ?_
  refine r_iload_n E (q := 21) 1 dX3_giveFolded_20 rfl rfl rfl ?_
  refine r_iald E (q := 22) 26 wc_26 o1 dX3_giveFolded_21 rfl ?_
  refine r_icmp_ge E (q := 25) 99 dX3_giveFolded_22 (by decide) rfl (fun c1 => ?_) (fun c1 => ?_)
  · refine r_widen hcs.1 hcs.2 ?_
    exact r_vret E T dX3_giveFolded_99 (k1 c1)
  · refine r_aload_n E (q := 26) 0 dX3_giveFolded_25 rfl rfl rfl ?_
    refine r_iload E (q := 28) 4 dX3_giveFolded_26 rfl rfl ?_
    refine r_iload_n E (q := 29) 2 dX3_giveFolded_28 rfl rfl rfl ?_
    refine r_aload_n E (q := 30) 0 dX3_giveFolded_29 rfl rfl rfl ?_
    refine r_get E (q := 33) fX3_13 23 wc_23 rfl dX3_giveFolded_30 rfl ?_
    refine r_iload E (q := 35) 5 dX3_giveFolded_33 rfl rfl ?_
    refine r_iload_n E (q := 36) 2 dX3_giveFolded_35 rfl rfl rfl ?_
    refine r_iadd E (q := 37) dX3_giveFolded_36 rfl ?_
    refine r_iald E (q := 38) 24 wc_24 (o2 c1) dX3_giveFolded_37 rfl ?_
    refine rVi E (q := 41) cvX3_139 T.rr 23 wc_23 rfl [.int s9_, .int m9, .int (G 24 (ix (r9 + m9)))] (ct9 (by assumption)) (by omega) rfl rfl (Nat.le_of_ble_eq_true rfl) hcs dX3_giveFolded_38 rfl ?_
    refine r_istore E (q := 43) (lv' := [(0, .ref (ad 23)), (1, .int a9), (2, .int m9), (3, .int f9), (4, .int s9_), (5, .int r9), (6, .int q9)]) [1, 2, 3, 4, 5, 6, 0] dX3_giveFolded_41 (by rw [hz]; decide) rfl rfl ?_
    refine r_iload E (q := 45) 6 dX3_giveFolded_43 rfl rfl ?_
    refine r_if_ge E (q := 48) 72 dX3_giveFolded_45 (by decide) rfl (fun c2 => ?_) (fun c2 => ?_)
    · refine r_aload_n E (q := 73) 0 dX3_giveFolded_72 rfl rfl rfl ?_
      refine r_get E (q := 76) fX3_13 23 wc_23 rfl dX3_giveFolded_73 rfl ?_
      refine r_iload E (q := 78) 6 dX3_giveFolded_76 rfl rfl ?_
      refine r_iload_n E (q := 79) 3 dX3_giveFolded_78 rfl rfl rfl ?_
      refine r_iadd E (q := 80) dX3_giveFolded_79 rfl ?_
      refine r_dup2 E (q := 81) dX3_giveFolded_80 rfl rfl rfl ?_
      refine r_iald E (q := 82) 24 wc_24 (o3 c1 c2) dX3_giveFolded_81 rfl ?_
      refine r_aload_n E (q := 83) 0 dX3_giveFolded_82 rfl rfl rfl ?_
      refine r_get E (q := 86) fX3_13 23 wc_23 rfl dX3_giveFolded_83 rfl ?_
      refine r_iload E (q := 88) 5 dX3_giveFolded_86 rfl rfl ?_
      refine r_iload_n E (q := 89) 3 dX3_giveFolded_88 rfl rfl rfl ?_
      refine r_iadd E (q := 90) dX3_giveFolded_89 rfl ?_
      refine r_iald E (q := 91) 24 wc_24 (o4 c1 c2) dX3_giveFolded_90 rfl ?_
      refine r_iadd E (q := 92) dX3_giveFolded_91 rfl ?_
      refine r_iast E (q := 93) 24 wc_24 (o3 c1 c2) wcu_24 dX3_giveFolded_92 rfl ?_
      refine r_nGC (fun G1 eG1 => ?_)
      refine r_iinc E (q := 96) (v := r9 + 6) (lv' := [(0, .ref (ad 23)), (1, .int a9), (2, .int m9), (3, .int f9), (4, .int s9_), (5, .int (r9 + 6)), (6, .int q9)]) 5 [1, 2, 3, 4, 5, 0, 6] dX3_giveFolded_93 rfl (by rfl) (by rw [hz]; decide) rfl rfl ?_
      refine r_goto E 14 dX3_giveFolded_96 (by decide) ?_
      refine r_sub [0, 1, 2, 3, 4, 5] rfl ?_
      exact k2 G1 eG1 c1 c2
    · refine r_aload_n E (q := 49) 0 dX3_giveFolded_48 rfl rfl rfl ?_
      refine r_sub [0, 1, 2, 3, 4, 5] rfl ?_
      exact k3 c1 c2
set_option maxRecDepth 100000 in
set_option maxHeartbeats 800000 in
theorem gd_c {z : Zt} (E : EN z cX3_giveFolded RX3) {w0 : va_W} {P : Option Value → va_W → Prop} {lvl : Nat} {mc9 ms9 : Nat} (T : RT z none lvl w0 P mc9 ms9) (hz : zn z = 7) {ad : Nat → Nat} {G : Nat → Nat → Int32} {V : Nat → Int32} {n : Nat} {c9 s9 : Nat} (hcs : c9 ≤ mc9 ∧ s9 ≤ ms9) (a9 m9 f9 s9_ r9 u9 : Int32) 
    (o1 : vp_in (r9 + m9) n) 
    (o2 : vp_in (u9 + m9) n) 
    (o3 : ∀ (G1 : Nat → Nat → Int32), G1 = ug G 24 (ix (u9 + m9)) (G 24 (ix (r9 + m9))) → vp_in (u9 + f9) n) 
    (o4 : ∀ (G1 : Nat → Nat → Int32), G1 = ug G 24 (ix (u9 + m9)) (G 24 (ix (r9 + m9))) → vp_in (r9 + f9) n)
    (k1 : ∀ (G1 G2 : Nat → Nat → Int32), G1 = ug G 24 (ix (u9 + m9)) (G 24 (ix (r9 + m9))) → G2 = ug G1 24 (ix (u9 + f9)) ((G1 24 (ix (u9 + f9))) + (G1 24 (ix (r9 + f9)))) → WW z c9 s9 (WC (zk z) ad G2 V n) 14 [(0, .ref (ad 23)), (1, .int a9), (2, .int m9), (3, .int f9), (4, .int s9_), (5, .int (r9 + 6))] []) :
    WW z c9 s9 (WC (zk z) ad G V n) 52 [(0, .ref (ad 23)), (1, .int a9), (2, .int m9), (3, .int f9), (4, .int s9_), (5, .int r9)] [.int u9] := by
  refine r_istore E (q := 54) (lv' := [(0, .ref (ad 23)), (1, .int a9), (2, .int m9), (3, .int f9), (4, .int s9_), (5, .int r9), (6, .int u9)]) [1, 2, 3, 4, 5, 6, 0] dX3_giveFolded_52 (by rw [hz]; decide) rfl rfl ?_
  refine r_aload_n E (q := 55) 0 dX3_giveFolded_54 rfl rfl rfl ?_
  refine r_get E (q := 58) fX3_13 23 wc_23 rfl dX3_giveFolded_55 rfl ?_
  refine r_iload E (q := 60) 6 dX3_giveFolded_58 rfl rfl ?_
  refine r_iload_n E (q := 61) 2 dX3_giveFolded_60 rfl rfl rfl ?_
  refine r_iadd E (q := 62) dX3_giveFolded_61 rfl ?_
  refine r_aload_n E (q := 63) 0 dX3_giveFolded_62 rfl rfl rfl ?_
  refine r_get E (q := 66) fX3_13 23 wc_23 rfl dX3_giveFolded_63 rfl ?_
  refine r_iload E (q := 68) 5 dX3_giveFolded_66 rfl rfl ?_
  refine r_iload_n E (q := 69) 2 dX3_giveFolded_68 rfl rfl rfl ?_
  refine r_iadd E (q := 70) dX3_giveFolded_69 rfl ?_
  refine r_iald E (q := 71) 24 wc_24 o1 dX3_giveFolded_70 rfl ?_
  refine r_iast E (q := 72) 24 wc_24 o2 wcu_24 dX3_giveFolded_71 rfl ?_
  refine r_nGC (fun G1 eG1 => ?_)
  refine r_aload_n E (q := 73) 0 dX3_giveFolded_72 rfl rfl rfl ?_
  refine r_get E (q := 76) fX3_13 23 wc_23 rfl dX3_giveFolded_73 rfl ?_
  refine r_iload E (q := 78) 6 dX3_giveFolded_76 rfl rfl ?_
  refine r_iload_n E (q := 79) 3 dX3_giveFolded_78 rfl rfl rfl ?_
  refine r_iadd E (q := 80) dX3_giveFolded_79 rfl ?_
  refine r_dup2 E (q := 81) dX3_giveFolded_80 rfl rfl rfl ?_
  refine r_iald E (q := 82) 24 wc_24 (o3 G1 eG1) dX3_giveFolded_81 rfl ?_
  refine r_aload_n E (q := 83) 0 dX3_giveFolded_82 rfl rfl rfl ?_
  refine r_get E (q := 86) fX3_13 23 wc_23 rfl dX3_giveFolded_83 rfl ?_
  refine r_iload E (q := 88) 5 dX3_giveFolded_86 rfl rfl ?_
  refine r_iload_n E (q := 89) 3 dX3_giveFolded_88 rfl rfl rfl ?_
  refine r_iadd E (q := 90) dX3_giveFolded_89 rfl ?_
  refine r_iald E (q := 91) 24 wc_24 (o4 G1 eG1) dX3_giveFolded_90 rfl ?_
  refine r_iadd E (q := 92) dX3_giveFolded_91 rfl ?_
  refine r_iast E (q := 93) 24 wc_24 (o3 G1 eG1) wcu_24 dX3_giveFolded_92 rfl ?_
  refine r_nGC (fun G2 eG2 => ?_)
  refine r_iinc E (q := 96) (v := r9 + 6) (lv' := [(0, .ref (ad 23)), (1, .int a9), (2, .int m9), (3, .int f9), (4, .int s9_), (5, .int (r9 + 6)), (6, .int u9)]) 5 [1, 2, 3, 4, 5, 0, 6] dX3_giveFolded_93 rfl (by rfl) (by rw [hz]; decide) rfl rfl ?_
  refine r_goto E 14 dX3_giveFolded_96 (by decide) ?_
  refine r_sub [0, 1, 2, 3, 4, 5] rfl ?_
  exact k1 G1 G2 eG1 eG2
set_option maxRecDepth 100000 in
set_option maxHeartbeats 800000 in
theorem go_a {z : Zt} (E : EN z cX3_giveOnce RX3) {w0 : va_W} {P : Option Value → va_W → Prop} {lvl : Nat} {mc9 ms9 : Nat} (T : RT z none lvl w0 P mc9 ms9) (hz : zn z = 4) {ad : Nat → Nat} {G : Nat → Nat → Int32} {V : Nat → Int32} {n : Nat} {c9 s9 : Nat} (hcs : c9 ≤ mc9 ∧ s9 ≤ ms9) (a9 : Int32) 
    (o1 : vp_in a9 60)
    (k1 : WW z c9 s9 (WC (zk z) ad G V n) 12 [(0, .ref (ad 23)), (1, .int a9), (2, .int (V 2)), (3, .int (G 25 (ix a9)))] []) :
    WW z c9 s9 (WC (zk z) ad G V n) 0 [(0, .ref (ad 23)), (1, .int a9)] [] := by
  refine r_aload_n E (q := 1) 0 dX3_giveOnce_0 rfl rfl rfl ?_
  refine r_get E (q := 4) fX3_39 23 wc_23 rfl dX3_giveOnce_1 rfl ?_
  refine r_istore_n E (q := 5) (lv' := [(0, .ref (ad 23)), (1, .int a9), (2, .int (V 2))]) [1, 2, 0] dX3_giveOnce_4 rfl (by rw [hz]; decide) rfl rfl ?_
  refine r_aload_n E (q := 6) 0 dX3_giveOnce_5 rfl rfl rfl ?_
  refine r_get E (q := 9) fX3_17 23 wc_23 rfl dX3_giveOnce_6 rfl ?_
  refine r_iload_n E (q := 10) 1 dX3_giveOnce_9 rfl rfl rfl ?_
  refine r_iald E (q := 11) 25 wc_25 o1 dX3_giveOnce_10 rfl ?_
  refine r_istore_n E (q := 12) (lv' := [(0, .ref (ad 23)), (1, .int a9), (2, .int (V 2)), (3, .int (G 25 (ix a9)))]) [1, 2, 3, 0] dX3_giveOnce_11 rfl (by rw [hz]; decide) rfl rfl ?_
  exact k1 
set_option maxRecDepth 100000 in
set_option maxHeartbeats 800000 in
theorem go_b {z : Zt} (E : EN z cX3_giveOnce RX3) {w0 : va_W} {P : Option Value → va_W → Prop} {lvl : Nat} {mc9 ms9 : Nat} (T : RT z none lvl w0 P mc9 ms9) (hz : zn z = 4) {ad : Nat → Nat} {G : Nat → Nat → Int32} {V : Nat → Int32} {n : Nat} {c9 s9 : Nat} (hcs : c9 ≤ mc9 ∧ s9 ≤ ms9) (hlv : 2 ≤ lvl) (a9 s9_ r9 q9 : Int32) (ct9 : ¬ G 26 (ix a9) ≤ r9 → CT (zl z) (zk z) yX3_hasLike cX3_hasLike 4 (some .boolean) 1 [.ref (ad 23), .int s9_, .int r9] (WC (zk z) ad G V n) (eqI q9 (WC (zk z) ad G V n)) 0 0) 
    (o1 : vp_in a9 60)
    (k1 : G 26 (ix a9) ≤ r9 → P none (WC (zk z) ad G V n)) 
    (k2 : ¬ (G 26 (ix a9) ≤ r9) → ¬ (q9 = 0) → WW z c9 s9 (WC (zk z) ad G V n) 12 [(0, .ref (ad 23)), (1, .int a9), (2, .int s9_), (3, .int (r9 + 6))] []) 
    (k3 : ¬ (G 26 (ix a9) ≤ r9) → q9 = 0 → WW z c9 s9 (WC (zk z) ad G V n) 33 [(0, .ref (ad 23)), (1, .int a9), (2, .int s9_), (3, .int r9)] [.int r9, .ref (ad 23)]) :
    WW z c9 s9 (WC (zk z) ad G V n) 12 [(0, .ref (ad 23)), (1, .int a9), (2, .int s9_), (3, .int r9)] [] := by
  refine r_iload_n E (q := 13) 3 dX3_giveOnce_12 rfl rfl rfl ?_
  refine r_aload_n E (q := 14) 0 dX3_giveOnce_13 rfl rfl rfl ?_
  refine r_get E (q := 17) fX3_20 23 wc_23 rfl dX3_giveOnce_14 rfl ?_
  refine r_iload_n E (q := 18) 1 dX3_giveOnce_17 rfl rfl rfl ?_
  refine r_iald E (q := 19) 26 wc_26 o1 dX3_giveOnce_18 rfl ?_
  refine r_icmp_ge E (q := 22) 43 dX3_giveOnce_19 (by decide) rfl (fun c1 => ?_) (fun c1 => ?_)
  · refine r_widen hcs.1 hcs.2 ?_
    exact r_vret E T dX3_giveOnce_43 (k1 c1)
  · refine r_aload_n E (q := 23) 0 dX3_giveOnce_22 rfl rfl rfl ?_
    refine r_iload_n E (q := 24) 2 dX3_giveOnce_23 rfl rfl rfl ?_
    refine r_iload_n E (q := 25) 3 dX3_giveOnce_24 rfl rfl rfl ?_
    refine rVi E (q := 28) cvX3_143 T.rr 23 wc_23 rfl [.int s9_, .int r9] (ct9 (by assumption)) (by omega) rfl rfl (Nat.le_of_ble_eq_true rfl) hcs dX3_giveOnce_25 rfl ?_
    refine r_if_ne E (q := 31) 37 dX3_giveOnce_28 (by decide) rfl (fun c2 => ?_) (fun c2 => ?_)
    · refine r_iinc E (q := 40) (v := r9 + 6) (lv' := [(0, .ref (ad 23)), (1, .int a9), (2, .int s9_), (3, .int (r9 + 6))]) 3 [1, 2, 3, 0] dX3_giveOnce_37 rfl (by rfl) (by rw [hz]; decide) rfl rfl ?_
      refine r_goto E 12 dX3_giveOnce_40 (by decide) ?_
      exact k2 c1 c2
    · refine r_aload_n E (q := 32) 0 dX3_giveOnce_31 rfl rfl rfl ?_
      refine r_iload_n E (q := 33) 3 dX3_giveOnce_32 rfl rfl rfl ?_
      exact k3 c1 c2
set_option maxRecDepth 100000 in
set_option maxHeartbeats 800000 in
theorem go_c {z : Zt} (E : EN z cX3_giveOnce RX3) {w0 : va_W} {P : Option Value → va_W → Prop} {lvl : Nat} {mc9 ms9 : Nat} (T : RT z none lvl w0 P mc9 ms9) (hz : zn z = 4) {ad : Nat → Nat} {G : Nat → Nat → Int32} {V : Nat → Int32} {n : Nat} {c9 s9 : Nat} (hcs : c9 ≤ mc9 ∧ s9 ≤ ms9) (a9 s9_ r9 u9 : Int32) 
    (k1 : WW z c9 s9 (WC (zk z) ad G V n) 12 [(0, .ref (ad 23)), (1, .int a9), (2, .int s9_), (3, .int (r9 + 6))] []) :
    WW z c9 s9 (WC (zk z) ad G V n) 36 [(0, .ref (ad 23)), (1, .int a9), (2, .int s9_), (3, .int r9)] [.int u9] := by
  refine r_pop E (q := 37) dX3_giveOnce_36 rfl rfl ?_
  refine r_iinc E (q := 40) (v := r9 + 6) (lv' := [(0, .ref (ad 23)), (1, .int a9), (2, .int s9_), (3, .int (r9 + 6))]) 3 [1, 2, 3, 0] dX3_giveOnce_37 rfl (by rfl) (by rw [hz]; decide) rfl rfl ?_
  refine r_goto E 12 dX3_giveOnce_40 (by decide) ?_
  exact k1 
set_option maxRecDepth 100000 in
set_option maxHeartbeats 800000 in
theorem gi_a {z : Zt} (E : EN z cX3_giveFirst RX3) {w0 : va_W} {P : Option Value → va_W → Prop} {lvl : Nat} {mc9 ms9 : Nat} (T : RT z none lvl w0 P mc9 ms9) (hz : zn z = 5) {ad : Nat → Nat} {G : Nat → Nat → Int32} {V : Nat → Int32} {n : Nat} {c9 s9 : Nat} (hcs : c9 ≤ mc9 ∧ s9 ≤ ms9) (hlv : 1 ≤ lvl) (a9 f9 : Int32) 
    (o1 : vp_in a9 60)
    (k1 : WW z c9 s9 (WC (zk z) ad G V n) 29 [(0, .ref (ad 23)), (1, .int a9), (2, .int f9), (3, .int (if (G 25 (ix a9)) + (f9 * 6) < G 26 (ix a9) then (G 25 (ix a9)) + (f9 * 6) else G 26 (ix a9))), (4, .int (G 25 (ix a9)))] []) :
    WW z c9 s9 (WC (zk z) ad G V n) 0 [(0, .ref (ad 23)), (1, .int a9), (2, .int f9)] [] := by
  refine r_aload_n E (q := 1) 0 dX3_giveFirst_0 rfl rfl rfl ?_
  refine r_get E (q := 4) fX3_20 23 wc_23 rfl dX3_giveFirst_1 rfl ?_
  refine r_iload_n E (q := 5) 1 dX3_giveFirst_4 rfl rfl rfl ?_
  refine r_iald E (q := 6) 26 wc_26 o1 dX3_giveFirst_5 rfl ?_
  refine r_aload_n E (q := 7) 0 dX3_giveFirst_6 rfl rfl rfl ?_
  refine r_get E (q := 10) fX3_17 23 wc_23 rfl dX3_giveFirst_7 rfl ?_
  refine r_iload_n E (q := 11) 1 dX3_giveFirst_10 rfl rfl rfl ?_
  refine r_iald E (q := 12) 25 wc_25 o1 dX3_giveFirst_11 rfl ?_
  refine r_iload_n E (q := 13) 2 dX3_giveFirst_12 rfl rfl rfl ?_
  refine r_bipush E (q := 15) (v := 6) dX3_giveFirst_13 (by decide) rfl ?_
  refine r_imul E (q := 16) dX3_giveFirst_15 rfl ?_
  refine r_iadd E (q := 17) dX3_giveFirst_16 rfl ?_
  refine r_min E (q := 20) (d := 0) (RR.le T.rr (show 0 + 1 ≤ lvl by omega)) mnX3_147 mn_s mn_i mn_c (Nat.le_of_ble_eq_true rfl) hcs.1 hcs.2 dX3_giveFirst_17 rfl ?_
  refine r_istore_n E (q := 21) (lv' := [(0, .ref (ad 23)), (1, .int a9), (2, .int f9), (3, .int (if (G 25 (ix a9)) + (f9 * 6) < G 26 (ix a9) then (G 25 (ix a9)) + (f9 * 6) else G 26 (ix a9)))]) [1, 2, 3, 0] dX3_giveFirst_20 rfl (by rw [hz]; decide) rfl rfl ?_
  refine r_aload_n E (q := 22) 0 dX3_giveFirst_21 rfl rfl rfl ?_
  refine r_get E (q := 25) fX3_17 23 wc_23 rfl dX3_giveFirst_22 rfl ?_
  refine r_iload_n E (q := 26) 1 dX3_giveFirst_25 rfl rfl rfl ?_
  refine r_iald E (q := 27) 25 wc_25 o1 dX3_giveFirst_26 rfl ?_
  refine r_istore E (q := 29) (lv' := [(0, .ref (ad 23)), (1, .int a9), (2, .int f9), (3, .int (if (G 25 (ix a9)) + (f9 * 6) < G 26 (ix a9) then (G 25 (ix a9)) + (f9 * 6) else G 26 (ix a9))), (4, .int (G 25 (ix a9)))]) [1, 2, 3, 4, 0] dX3_giveFirst_27 (by rw [hz]; decide) rfl rfl ?_
  exact k1 
set_option maxRecDepth 100000 in
set_option maxHeartbeats 800000 in
theorem gi_b {z : Zt} (E : EN z cX3_giveFirst RX3) {w0 : va_W} {P : Option Value → va_W → Prop} {lvl : Nat} {mc9 ms9 : Nat} (T : RT z none lvl w0 P mc9 ms9) (hz : zn z = 5) {ad : Nat → Nat} {G : Nat → Nat → Int32} {V : Nat → Int32} {n : Nat} {c9 s9 : Nat} (hcs : c9 ≤ mc9 ∧ s9 ≤ ms9) (a9 f9 e9 r9 : Int32) 
    (k1 : e9 ≤ r9 → P none (WC (zk z) ad G V n)) 
    (k2 : ¬ (e9 ≤ r9) → WW z c9 s9 (WC (zk z) ad G V n) 38 [(0, .ref (ad 23)), (1, .int a9), (2, .int f9), (3, .int e9), (4, .int r9)] [.int r9, .ref (ad 23)]) :
    WW z c9 s9 (WC (zk z) ad G V n) 29 [(0, .ref (ad 23)), (1, .int a9), (2, .int f9), (3, .int e9), (4, .int r9)] [] := by
  refine r_iload E (q := 31) 4 dX3_giveFirst_29 rfl rfl ?_
  refine r_iload_n E (q := 32) 3 dX3_giveFirst_31 rfl rfl rfl ?_
  refine r_icmp_ge E (q := 35) 48 dX3_giveFirst_32 (by decide) rfl (fun c1 => ?_) (fun c1 => ?_)
  · refine r_widen hcs.1 hcs.2 ?_
    exact r_vret E T dX3_giveFirst_48 (k1 c1)
  · refine r_aload_n E (q := 36) 0 dX3_giveFirst_35 rfl rfl rfl ?_
    refine r_iload E (q := 38) 4 dX3_giveFirst_36 rfl rfl ?_
    exact k2 c1
set_option maxRecDepth 100000 in
set_option maxHeartbeats 800000 in
theorem gi_c {z : Zt} (E : EN z cX3_giveFirst RX3) {w0 : va_W} {P : Option Value → va_W → Prop} {lvl : Nat} {mc9 ms9 : Nat} (T : RT z none lvl w0 P mc9 ms9) (hz : zn z = 5) {ad : Nat → Nat} {G : Nat → Nat → Int32} {V : Nat → Int32} {n : Nat} {c9 s9 : Nat} (hcs : c9 ≤ mc9 ∧ s9 ≤ ms9) (a9 f9 e9 r9 u9 : Int32) 
    (k1 : WW z c9 s9 (WC (zk z) ad G V n) 29 [(0, .ref (ad 23)), (1, .int a9), (2, .int f9), (3, .int e9), (4, .int (r9 + 6))] []) :
    WW z c9 s9 (WC (zk z) ad G V n) 41 [(0, .ref (ad 23)), (1, .int a9), (2, .int f9), (3, .int e9), (4, .int r9)] [.int u9] := by
  refine r_pop E (q := 42) dX3_giveFirst_41 rfl rfl ?_
  refine r_iinc E (q := 45) (v := r9 + 6) (lv' := [(0, .ref (ad 23)), (1, .int a9), (2, .int f9), (3, .int e9), (4, .int (r9 + 6))]) 4 [1, 2, 3, 4, 0] dX3_giveFirst_42 rfl (by rfl) (by rw [hz]; decide) rfl rfl ?_
  refine r_goto E 29 dX3_giveFirst_45 (by decide) ?_
  exact k1 
