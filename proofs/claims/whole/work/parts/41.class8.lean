set_option maxRecDepth 100000 in
set_option maxHeartbeats 800000 in
theorem ae_a {z : Zt} (E : EN z cX3_addEmpty RX3) {w0 : va_W} {P : Option Value → va_W → Prop} {lvl : Nat} {mc9 ms9 : Nat} (T : RT z (some .int) lvl w0 P mc9 ms9) (hz : zn z = 3) {ad : Nat → Nat} {G : Nat → Nat → Int32} {V : Nat → Int32} {n : Nat} {c9 s9 : Nat} (hcs : c9 ≤ mc9 ∧ s9 ≤ ms9)  
    (k1 : (V 2) + 6 ≤ nI n → WW z c9 s9 (WC (zk z) ad G V n) 40 [(0, .ref (ad 23)), (1, .int (V 2))] []) 
    (k2 : ¬ ((V 2) + 6 ≤ nI n) → WW z c9 s9 (WC (zk z) ad G V n) 17 [(0, .ref (ad 23)), (1, .int (V 2))] []) :
    WW z c9 s9 (WC (zk z) ad G V n) 0 [(0, .ref (ad 23))] [] := by
  refine r_aload_n E (q := 1) 0 dX3_addEmpty_0 rfl rfl rfl ?_
  refine r_get E (q := 4) fX3_39 23 wc_23 rfl dX3_addEmpty_1 rfl ?_
  refine r_istore_n E (q := 5) (lv' := [(0, .ref (ad 23)), (1, .int (V 2))]) [1, 0] dX3_addEmpty_4 rfl (by rw [hz]; decide) rfl rfl ?_
  refine r_iload_n E (q := 6) 1 dX3_addEmpty_5 rfl rfl rfl ?_
  refine r_bipush E (q := 8) (v := 6) dX3_addEmpty_6 (by decide) rfl ?_
  refine r_iadd E (q := 9) dX3_addEmpty_8 rfl ?_
  refine r_aload_n E (q := 10) 0 dX3_addEmpty_9 rfl rfl rfl ?_
  refine r_get E (q := 13) fX3_13 23 wc_23 rfl dX3_addEmpty_10 rfl ?_
  refine r_alen E (q := 14) 24 wc_24 dX3_addEmpty_13 rfl ?_
  refine r_icmp_le E (q := 17) 40 dX3_addEmpty_14 (by decide) rfl (fun c1 => ?_) (fun c1 => ?_)
  · exact k1 c1
  · exact k2 c1
set_option maxRecDepth 100000 in
set_option maxHeartbeats 800000 in
theorem ae_g {z : Zt} (E : EN z cX3_addEmpty RX3) {w0 : va_W} {P : Option Value → va_W → Prop} {lvl : Nat} {mc9 ms9 : Nat} (T : RT z (some .int) lvl w0 P mc9 ms9) (hz : zn z = 3) {ad : Nat → Nat} {G : Nat → Nat → Int32} {V : Nat → Int32} {n : Nat} {c9 s9 : Nat} (hcs : c9 ≤ mc9 ∧ s9 ≤ ms9) (hlv : 2 ≤ lvl) (r9 : Int32) 
    (k1 : WW z c9 s9 (WC (zk z) ad G V n) 34 [(0, .ref (ad 23)), (1, .int r9)] [.int (if 36000 < 2 * (nI n) then 36000 else 2 * (nI n)), .ref (ad 24), .ref (ad 23)]) :
    WW z c9 s9 (WC (zk z) ad G V n) 17 [(0, .ref (ad 23)), (1, .int r9)] [] := by
  refine r_aload_n E (q := 18) 0 dX3_addEmpty_17 rfl rfl rfl ?_
  refine r_aload_n E (q := 19) 0 dX3_addEmpty_18 rfl rfl rfl ?_
  refine r_get E (q := 22) fX3_13 23 wc_23 rfl dX3_addEmpty_19 rfl ?_
  refine r_iconst E (q := 23) (v := 2) dX3_addEmpty_22 (by decide) rfl ?_
  refine r_aload_n E (q := 24) 0 dX3_addEmpty_23 rfl rfl rfl ?_
  refine r_get E (q := 27) fX3_13 23 wc_23 rfl dX3_addEmpty_24 rfl ?_
  refine r_alen E (q := 28) 24 wc_24 dX3_addEmpty_27 rfl ?_
  refine r_imul E (q := 29) dX3_addEmpty_28 rfl ?_
  refine r_ldc E (q := 31) kX3_158 dX3_addEmpty_29 rfl ?_
  refine r_min E (q := 34) (d := 0) (RR.le T.rr (show 0 + 1 ≤ lvl by omega)) mnX3_147 mn_s mn_i mn_c (Nat.le_of_ble_eq_true rfl) hcs.1 hcs.2 dX3_addEmpty_31 rfl ?_
  exact k1 
set_option maxRecDepth 100000 in
set_option maxHeartbeats 800000 in
theorem ae_b {z : Zt} (E : EN z cX3_addEmpty RX3) {w0 : va_W} {P : Option Value → va_W → Prop} {lvl : Nat} {mc9 ms9 : Nat} (T : RT z (some .int) lvl w0 P mc9 ms9) (hz : zn z = 3) {ad : Nat → Nat} {G : Nat → Nat → Int32} {V : Nat → Int32} {n : Nat} {c9 s9 : Nat} (hcs : c9 ≤ mc9 ∧ s9 ≤ ms9) (r9 : Int32) (h_r9 : ∃ a : Nat, r9 = nI a ∧ a + 6 ≤ n ∧ n < 2 ^ 31) 
    (k1 : ∀ (G1 G2 G3 G4 G5 G6 : Nat → Nat → Int32), G1 = ug G 24 (ix (r9 + 0)) 0 → G2 = ug G1 24 (ix (r9 + 1)) 0 → G3 = ug G2 24 (ix (r9 + 2)) 0 → G4 = ug G3 24 (ix (r9 + 3)) 0 → G5 = ug G4 24 (ix (r9 + 4)) 0 → G6 = ug G5 24 (ix (r9 + 5)) 0 → P (some (.int r9)) (WC (zk z) ad G6 (upd V 2 ((V 2) + 6)) n)) :
    WW z c9 s9 (WC (zk z) ad G V n) 40 [(0, .ref (ad 23)), (1, .int r9)] [] := by
  refine r_iconst E (q := 41) (v := 0) dX3_addEmpty_40 (by decide) rfl ?_
  refine r_istore_n E (q := 42) (lv' := [(0, .ref (ad 23)), (1, .int r9), (2, .int 0)]) [1, 2, 0] dX3_addEmpty_41 rfl (by rw [hz]; decide) rfl rfl ?_
  refine r_iload_n E (q := 43) 2 dX3_addEmpty_42 rfl rfl rfl ?_
  refine r_bipush E (q := 45) (v := 6) dX3_addEmpty_43 (by decide) rfl ?_
  refine r_icmp_ge E (q := 48) 63 dX3_addEmpty_45 (by decide) rfl (fun c1 => absurd c1 (by decide)) (fun _ => ?_)
  refine r_aload_n E (q := 49) 0 dX3_addEmpty_48 rfl rfl rfl ?_
  refine r_get E (q := 52) fX3_13 23 wc_23 rfl dX3_addEmpty_49 rfl ?_
  refine r_iload_n E (q := 53) 1 dX3_addEmpty_52 rfl rfl rfl ?_
  refine r_iload_n E (q := 54) 2 dX3_addEmpty_53 rfl rfl rfl ?_
  refine r_iadd E (q := 55) dX3_addEmpty_54 rfl ?_
  refine r_iconst E (q := 56) (v := 0) dX3_addEmpty_55 (by decide) rfl ?_
  refine r_iast E (q := 57) 24 wc_24 (off_in (m := 0) h_r9 (by omega)) wcu_24 dX3_addEmpty_56 rfl ?_
  refine r_nGC (fun G1 eG1 => ?_)
  refine r_iinc E (q := 60) (v := 1) (lv' := [(0, .ref (ad 23)), (1, .int r9), (2, .int 1)]) 2 [1, 2, 0] dX3_addEmpty_57 rfl (by rfl) (by rw [hz]; decide) rfl rfl ?_
  refine r_goto E 42 dX3_addEmpty_60 (by decide) ?_
  refine r_iload_n E (q := 43) 2 dX3_addEmpty_42 rfl rfl rfl ?_
  refine r_bipush E (q := 45) (v := 6) dX3_addEmpty_43 (by decide) rfl ?_
  refine r_icmp_ge E (q := 48) 63 dX3_addEmpty_45 (by decide) rfl (fun c2 => absurd c2 (by decide)) (fun _ => ?_)
  refine r_aload_n E (q := 49) 0 dX3_addEmpty_48 rfl rfl rfl ?_
  refine r_get E (q := 52) fX3_13 23 wc_23 rfl dX3_addEmpty_49 rfl ?_
  refine r_iload_n E (q := 53) 1 dX3_addEmpty_52 rfl rfl rfl ?_
  refine r_iload_n E (q := 54) 2 dX3_addEmpty_53 rfl rfl rfl ?_
  refine r_iadd E (q := 55) dX3_addEmpty_54 rfl ?_
  refine r_iconst E (q := 56) (v := 0) dX3_addEmpty_55 (by decide) rfl ?_
  refine r_iast E (q := 57) 24 wc_24 (off_in (m := 1) h_r9 (by omega)) wcu_24 dX3_addEmpty_56 rfl ?_
  refine r_nGC (fun G2 eG2 => ?_)
  refine r_iinc E (q := 60) (v := 2) (lv' := [(0, .ref (ad 23)), (1, .int r9), (2, .int 2)]) 2 [1, 2, 0] dX3_addEmpty_57 rfl (by rfl) (by rw [hz]; decide) rfl rfl ?_
  refine r_goto E 42 dX3_addEmpty_60 (by decide) ?_
  refine r_iload_n E (q := 43) 2 dX3_addEmpty_42 rfl rfl rfl ?_
  refine r_bipush E (q := 45) (v := 6) dX3_addEmpty_43 (by decide) rfl ?_
  refine r_icmp_ge E (q := 48) 63 dX3_addEmpty_45 (by decide) rfl (fun c3 => absurd c3 (by decide)) (fun _ => ?_)
  refine r_aload_n E (q := 49) 0 dX3_addEmpty_48 rfl rfl rfl ?_
  refine r_get E (q := 52) fX3_13 23 wc_23 rfl dX3_addEmpty_49 rfl ?_
  refine r_iload_n E (q := 53) 1 dX3_addEmpty_52 rfl rfl rfl ?_
  refine r_iload_n E (q := 54) 2 dX3_addEmpty_53 rfl rfl rfl ?_
  refine r_iadd E (q := 55) dX3_addEmpty_54 rfl ?_
  refine r_iconst E (q := 56) (v := 0) dX3_addEmpty_55 (by decide) rfl ?_
  refine r_iast E (q := 57) 24 wc_24 (off_in (m := 2) h_r9 (by omega)) wcu_24 dX3_addEmpty_56 rfl ?_
  refine r_nGC (fun G3 eG3 => ?_)
  refine r_iinc E (q := 60) (v := 3) (lv' := [(0, .ref (ad 23)), (1, .int r9), (2, .int 3)]) 2 [1, 2, 0] dX3_addEmpty_57 rfl (by rfl) (by rw [hz]; decide) rfl rfl ?_
  refine r_goto E 42 dX3_addEmpty_60 (by decide) ?_
  refine r_iload_n E (q := 43) 2 dX3_addEmpty_42 rfl rfl rfl ?_
  refine r_bipush E (q := 45) (v := 6) dX3_addEmpty_43 (by decide) rfl ?_
  refine r_icmp_ge E (q := 48) 63 dX3_addEmpty_45 (by decide) rfl (fun c4 => absurd c4 (by decide)) (fun _ => ?_)
  refine r_aload_n E (q := 49) 0 dX3_addEmpty_48 rfl rfl rfl ?_
  refine r_get E (q := 52) fX3_13 23 wc_23 rfl dX3_addEmpty_49 rfl ?_
  refine r_iload_n E (q := 53) 1 dX3_addEmpty_52 rfl rfl rfl ?_
  refine r_iload_n E (q := 54) 2 dX3_addEmpty_53 rfl rfl rfl ?_
  refine r_iadd E (q := 55) dX3_addEmpty_54 rfl ?_
  refine r_iconst E (q := 56) (v := 0) dX3_addEmpty_55 (by decide) rfl ?_
  refine r_iast E (q := 57) 24 wc_24 (off_in (m := 3) h_r9 (by omega)) wcu_24 dX3_addEmpty_56 rfl ?_
  refine r_nGC (fun G4 eG4 => ?_)
  refine r_iinc E (q := 60) (v := 4) (lv' := [(0, .ref (ad 23)), (1, .int r9), (2, .int 4)]) 2 [1, 2, 0] dX3_addEmpty_57 rfl (by rfl) (by rw [hz]; decide) rfl rfl ?_
  refine r_goto E 42 dX3_addEmpty_60 (by decide) ?_
  refine r_iload_n E (q := 43) 2 dX3_addEmpty_42 rfl rfl rfl ?_
  refine r_bipush E (q := 45) (v := 6) dX3_addEmpty_43 (by decide) rfl ?_
  refine r_icmp_ge E (q := 48) 63 dX3_addEmpty_45 (by decide) rfl (fun c5 => absurd c5 (by decide)) (fun _ => ?_)
  refine r_aload_n E (q := 49) 0 dX3_addEmpty_48 rfl rfl rfl ?_
  refine r_get E (q := 52) fX3_13 23 wc_23 rfl dX3_addEmpty_49 rfl ?_
  refine r_iload_n E (q := 53) 1 dX3_addEmpty_52 rfl rfl rfl ?_
  refine r_iload_n E (q := 54) 2 dX3_addEmpty_53 rfl rfl rfl ?_
  refine r_iadd E (q := 55) dX3_addEmpty_54 rfl ?_
  refine r_iconst E (q := 56) (v := 0) dX3_addEmpty_55 (by decide) rfl ?_
  refine r_iast E (q := 57) 24 wc_24 (off_in (m := 4) h_r9 (by omega)) wcu_24 dX3_addEmpty_56 rfl ?_
  refine r_nGC (fun G5 eG5 => ?_)
  refine r_iinc E (q := 60) (v := 5) (lv' := [(0, .ref (ad 23)), (1, .int r9), (2, .int 5)]) 2 [1, 2, 0] dX3_addEmpty_57 rfl (by rfl) (by rw [hz]; decide) rfl rfl ?_
  refine r_goto E 42 dX3_addEmpty_60 (by decide) ?_
  refine r_iload_n E (q := 43) 2 dX3_addEmpty_42 rfl rfl rfl ?_
  refine r_bipush E (q := 45) (v := 6) dX3_addEmpty_43 (by decide) rfl ?_
  refine r_icmp_ge E (q := 48) 63 dX3_addEmpty_45 (by decide) rfl (fun c6 => absurd c6 (by decide)) (fun _ => ?_)
  refine r_aload_n E (q := 49) 0 dX3_addEmpty_48 rfl rfl rfl ?_
  refine r_get E (q := 52) fX3_13 23 wc_23 rfl dX3_addEmpty_49 rfl ?_
  refine r_iload_n E (q := 53) 1 dX3_addEmpty_52 rfl rfl rfl ?_
  refine r_iload_n E (q := 54) 2 dX3_addEmpty_53 rfl rfl rfl ?_
  refine r_iadd E (q := 55) dX3_addEmpty_54 rfl ?_
  refine r_iconst E (q := 56) (v := 0) dX3_addEmpty_55 (by decide) rfl ?_
  refine r_iast E (q := 57) 24 wc_24 (off_in (m := 5) h_r9 (by omega)) wcu_24 dX3_addEmpty_56 rfl ?_
  refine r_nGC (fun G6 eG6 => ?_)
  refine r_iinc E (q := 60) (v := 6) (lv' := [(0, .ref (ad 23)), (1, .int r9), (2, .int 6)]) 2 [1, 2, 0] dX3_addEmpty_57 rfl (by rfl) (by rw [hz]; decide) rfl rfl ?_
  refine r_goto E 42 dX3_addEmpty_60 (by decide) ?_
  refine r_iload_n E (q := 43) 2 dX3_addEmpty_42 rfl rfl rfl ?_
  refine r_bipush E (q := 45) (v := 6) dX3_addEmpty_43 (by decide) rfl ?_
  refine r_icmp_ge E (q := 48) 63 dX3_addEmpty_45 (by decide) rfl (fun _ => ?_) (fun c7 => absurd c7 (by decide))
  refine r_aload_n E (q := 64) 0 dX3_addEmpty_63 rfl rfl rfl ?_
  refine r_dup E (q := 65) dX3_addEmpty_64 rfl rfl ?_
  refine r_get E (q := 68) fX3_39 23 wc_23 rfl dX3_addEmpty_65 rfl ?_
  refine r_bipush E (q := 70) (v := 6) dX3_addEmpty_68 (by decide) rfl ?_
  refine r_iadd E (q := 71) dX3_addEmpty_70 rfl ?_
  refine r_put E (q := 74) pX3_39 rfl 23 wc_23 rfl rfl (Nat.le_of_ble_eq_true rfl) wcv_2 dX3_addEmpty_71 rfl ?_
  refine r_iload_n E (q := 75) 1 dX3_addEmpty_74 rfl rfl rfl ?_
  refine r_widen hcs.1 hcs.2 ?_
  exact r_iret E T dX3_addEmpty_75 (k1 G1 G2 G3 G4 G5 G6 eG1 eG2 eG3 eG4 eG5 eG6)
set_option maxRecDepth 100000 in
set_option maxHeartbeats 800000 in
theorem ay_b {z : Zt} (E : EN z cX3_addCopy RX3) {w0 : va_W} {P : Option Value → va_W → Prop} {lvl : Nat} {mc9 ms9 : Nat} (T : RT z (some .int) lvl w0 P mc9 ms9) (hz : zn z = 3) {ad : Nat → Nat} {G : Nat → Nat → Int32} {V : Nat → Int32} {n : Nat} {c9 s9 : Nat} (hcs : c9 ≤ mc9 ∧ s9 ≤ ms9) (hlv : 3 ≤ lvl) (r9 u9 : Int32) {r u : Nat} (er : r9 = nI r) (eu : u9 = nI u) (hr6 : r + 6 ≤ n) (hu6 : u + 6 ≤ n) (hn31 : n < 2 ^ 31) 
    (k1 : ∀ (G1 : Nat → Nat → Int32), G1 = va_up G 24 (va_cpy (G 24) (G 24) r u 6) → P (some (.int u9)) (WC (zk z) ad G1 V n)) :
    WW z c9 s9 (WC (zk z) ad G V n) 4 [(0, .ref (ad 23)), (1, .int r9)] [.int u9] := by
  refine r_istore_n E (q := 5) (lv' := [(0, .ref (ad 23)), (1, .int r9), (2, .int u9)]) [1, 2, 0] dX3_addCopy_4 rfl (by rw [hz]; decide) rfl rfl ?_
  refine r_aload_n E (q := 6) 0 dX3_addCopy_5 rfl rfl rfl ?_
  refine r_get E (q := 9) fX3_13 23 wc_23 rfl dX3_addCopy_6 rfl ?_
  refine r_iload_n E (q := 10) 1 dX3_addCopy_9 rfl rfl rfl ?_
  refine r_aload_n E (q := 11) 0 dX3_addCopy_10 rfl rfl rfl ?_
  refine r_get E (q := 14) fX3_13 23 wc_23 rfl dX3_addCopy_11 rfl ?_
  refine r_iload_n E (q := 15) 2 dX3_addCopy_14 rfl rfl rfl ?_
  refine r_bipush E (q := 17) (v := 6) dX3_addCopy_15 (by decide) rfl ?_
  refine r_copy E (d := 0) (q := 20) (RR.le T.rr (show 0 + 1 ≤ lvl by omega)) acX3_124 24 24 wc_24 wc_24 (s0 := r) (d0 := u) (m0 := 6) er eu rfl hr6 hu6 hn31 hn31 (Nat.le_of_ble_eq_true rfl) wcs_24 dX3_addCopy_17 rfl ?_
  refine r_nGC (fun G1 eG1 => ?_)
  refine r_iload_n E (q := 21) 2 dX3_addCopy_20 rfl rfl rfl ?_
  refine r_widen hcs.1 hcs.2 ?_
  exact r_iret E T dX3_addCopy_21 (k1 G1 eG1)
set_option maxRecDepth 100000 in
set_option maxHeartbeats 800000 in
theorem cm_b {z : Zt} (E : EN z cX3_copyMembers RX3) {w0 : va_W} {P : Option Value → va_W → Prop} {lvl : Nat} (T : RT z none lvl w0 P 0 0) (hz : zn z = 5) {ad : Nat → Nat} {G : Nat → Nat → Int32} {V : Nat → Int32} {n : Nat} (hlv : 1 ≤ lvl) (t9 f9 u9 m9 : Int32) 
    (o1 : ¬ (6 ≤ m9) → ¬ (fX5_isIn m9 t9 = 0) → vp_in (f9 + m9) n) 
    (o2 : ¬ (6 ≤ m9) → ¬ (fX5_isIn m9 t9 = 0) → vp_in (u9 + m9) n)
    (k1 : 6 ≤ m9 → P none (WC (zk z) ad G V n)) 
    (k2 : ¬ (6 ≤ m9) → fX5_isIn m9 t9 = 0 → WW z 0 0 (WC (zk z) ad G V n) 3 [(0, .ref (ad 23)), (1, .int t9), (2, .int f9), (3, .int u9), (4, .int (m9 + 1))] []) 
    (k3 : ∀ (G1 : Nat → Nat → Int32), G1 = ug G 24 (ix (u9 + m9)) (G 24 (ix (f9 + m9))) → ¬ (6 ≤ m9) → ¬ (fX5_isIn m9 t9 = 0) → WW z 0 0 (WC (zk z) ad G1 V n) 3 [(0, .ref (ad 23)), (1, .int t9), (2, .int f9), (3, .int u9), (4, .int (m9 + 1))] []) :
    WW z 0 0 (WC (zk z) ad G V n) 3 [(0, .ref (ad 23)), (1, .int t9), (2, .int f9), (3, .int u9), (4, .int m9)] [] := by
  refine r_iload E (q := 5) 4 dX3_copyMembers_3 rfl rfl ?_
  refine r_bipush E (q := 7) (v := 6) dX3_copyMembers_5 (by decide) rfl ?_
  refine r_icmp_ge E (q := 10) 43 dX3_copyMembers_7 (by decide) rfl (fun c1 => ?_) (fun c1 => ?_)
  · exact r_vret E T dX3_copyMembers_43 (k1 c1)
  · refine r_iload E (q := 12) 4 dX3_copyMembers_10 rfl rfl ?_
    refine r_iload_n E (q := 13) 1 dX3_copyMembers_12 rfl rfl rfl ?_
    refine rSNi E (q := 16) cnX3_155 T.rr [.int m9, .int t9] (c_X5_isIn m9 t9) (by omega) rfl rfl (Nat.le_of_ble_eq_true rfl) ⟨Nat.zero_le _, Nat.zero_le _⟩ dX3_copyMembers_13 rfl ?_
    refine r_if_eq E (q := 19) 37 dX3_copyMembers_16 (by decide) rfl (fun c2 => ?_) (fun c2 => ?_)
    · refine r_iinc E (q := 40) (v := m9 + 1) (lv' := [(0, .ref (ad 23)), (1, .int t9), (2, .int f9), (3, .int u9), (4, .int (m9 + 1))]) 4 [1, 2, 3, 4, 0] dX3_copyMembers_37 rfl (by rfl) (by rw [hz]; decide) rfl rfl ?_
      refine r_goto E 3 dX3_copyMembers_40 (by decide) ?_
      exact k2 c1 c2
    · refine r_aload_n E (q := 20) 0 dX3_copyMembers_19 rfl rfl rfl ?_
      refine r_get E (q := 23) fX3_13 23 wc_23 rfl dX3_copyMembers_20 rfl ?_
      refine r_iload_n E (q := 24) 3 dX3_copyMembers_23 rfl rfl rfl ?_
      refine r_iload E (q := 26) 4 dX3_copyMembers_24 rfl rfl ?_
      refine r_iadd E (q := 27) dX3_copyMembers_26 rfl ?_
      refine r_aload_n E (q := 28) 0 dX3_copyMembers_27 rfl rfl rfl ?_
      refine r_get E (q := 31) fX3_13 23 wc_23 rfl dX3_copyMembers_28 rfl ?_
      refine r_iload_n E (q := 32) 2 dX3_copyMembers_31 rfl rfl rfl ?_
      refine r_iload E (q := 34) 4 dX3_copyMembers_32 rfl rfl ?_
      refine r_iadd E (q := 35) dX3_copyMembers_34 rfl ?_
      refine r_iald E (q := 36) 24 wc_24 (o1 c1 c2) dX3_copyMembers_35 rfl ?_
      refine r_iast E (q := 37) 24 wc_24 (o2 c1 c2) wcu_24 dX3_copyMembers_36 rfl ?_
      refine r_nGC (fun G1 eG1 => ?_)
      refine r_iinc E (q := 40) (v := m9 + 1) (lv' := [(0, .ref (ad 23)), (1, .int t9), (2, .int f9), (3, .int u9), (4, .int (m9 + 1))]) 4 [1, 2, 3, 4, 0] dX3_copyMembers_37 rfl (by rfl) (by rw [hz]; decide) rfl rfl ?_
      refine r_goto E 3 dX3_copyMembers_40 (by decide) ?_
      exact k3 G1 eG1 c1 c2
set_option maxRecDepth 100000 in
set_option maxHeartbeats 800000 in
theorem cm_a {z : Zt} (E : EN z cX3_copyMembers RX3) {w0 : va_W} {P : Option Value → va_W → Prop} {lvl : Nat} (T : RT z none lvl w0 P 0 0) (hz : zn z = 5) {ad : Nat → Nat} {G : Nat → Nat → Int32} {V : Nat → Int32} {n : Nat} (t9 f9 u9 : Int32) 
    (k1 : WW z 0 0 (WC (zk z) ad G V n) 3 [(0, .ref (ad 23)), (1, .int t9), (2, .int f9), (3, .int u9), (4, .int 0)] []) :
    WW z 0 0 (WC (zk z) ad G V n) 0 [(0, .ref (ad 23)), (1, .int t9), (2, .int f9), (3, .int u9)] [] := by
  refine r_iconst E (q := 1) (v := 0) dX3_copyMembers_0 (by decide) rfl ?_
  refine r_istore E (q := 3) (lv' := [(0, .ref (ad 23)), (1, .int t9), (2, .int f9), (3, .int u9), (4, .int 0)]) [1, 2, 3, 4, 0] dX3_copyMembers_1 (by rw [hz]; decide) rfl rfl ?_
  exact k1 
def fX3_isLike (G : Nat → Nat → Int32) (r9 : Int32) (o9 : Int32) : Int32 := if G 24 (ix (r9 + 0)) = G 24 (ix (o9 + 0)) then (if G 24 (ix (r9 + 1)) = G 24 (ix (o9 + 1)) then (if G 24 (ix (r9 + 2)) = G 24 (ix (o9 + 2)) then (if G 24 (ix (r9 + 3)) = G 24 (ix (o9 + 3)) then (if G 24 (ix (r9 + 4)) = G 24 (ix (o9 + 4)) then (if G 24 (ix (r9 + 5)) = G 24 (ix (o9 + 5)) then 1 else 0) else 0) else 0) else 0) else 0) else 0
theorem b_X3_isLike (G : Nat → Nat → Int32) (r9 : Int32) (o9 : Int32) : fX3_isLike G r9 o9 = 0 ∨ fX3_isLike G r9 o9 = 1 := (b01 (b01 (b01 (b01 (b01 (b01 (Or.inr rfl) (Or.inl rfl)) (Or.inl rfl)) (Or.inl rfl)) (Or.inl rfl)) (Or.inl rfl)) (Or.inl rfl))
set_option maxRecDepth 100000 in
set_option maxHeartbeats 800000 in
theorem c_X3_isLike {l : Launch} {k : Kt} {ad : Nat → Nat} {G : Nat → Nat → Int32} {V : Nat → Int32} {n : Nat} (r9 : Int32) (o9 : Int32) (h_r9 : ∃ a : Nat, r9 = nI a ∧ a + 6 ≤ n ∧ n < 2 ^ 31) (h_o9 : ∃ a : Nat, o9 = nI a ∧ a + 6 ≤ n ∧ n < 2 ^ 31) : CT l k yX3_isLike cX3_isLike 4 (some .boolean) 0 [.ref (ad 23), .int r9, .int o9] (WC k ad G V n) (eqI (fX3_isLike G r9 o9) (WC k ad G V n)) 0 0 := by
  refine ct_of (own := RX3) (lv0 := [(0, .ref (ad 23)), (1, .int r9), (2, .int o9)]) (by decide) rfl (Nat.le_of_ble_eq_true rfl) rfl ?_
  rintro z rfl rfl hz - E T
  refine r_iconst E (q := 1) (v := 0) dX3_isLike_0 (by decide) rfl ?_
  refine r_istore_n E (q := 2) (lv' := [(0, .ref (ad 23)), (1, .int r9), (2, .int o9), (3, .int 0)]) [1, 2, 3, 0] dX3_isLike_1 rfl (by rw [hz]; decide) rfl rfl ?_
  refine r_iload_n E (q := 3) 3 dX3_isLike_2 rfl rfl rfl ?_
  refine r_bipush E (q := 5) (v := 6) dX3_isLike_3 (by decide) rfl ?_
  refine r_icmp_ge E (q := 8) 35 dX3_isLike_5 (by decide) rfl (fun c1 => absurd c1 (by decide)) (fun _ => ?_)
  refine r_aload_n E (q := 9) 0 dX3_isLike_8 rfl rfl rfl ?_
  refine r_get E (q := 12) fX3_13 23 wc_23 rfl dX3_isLike_9 rfl ?_
  refine r_iload_n E (q := 13) 1 dX3_isLike_12 rfl rfl rfl ?_
  refine r_iload_n E (q := 14) 3 dX3_isLike_13 rfl rfl rfl ?_
  refine r_iadd E (q := 15) dX3_isLike_14 rfl ?_
  refine r_iald E (q := 16) 24 wc_24 (off_in (m := 0) h_r9 (by omega)) dX3_isLike_15 rfl ?_
  refine r_aload_n E (q := 17) 0 dX3_isLike_16 rfl rfl rfl ?_
  refine r_get E (q := 20) fX3_13 23 wc_23 rfl dX3_isLike_17 rfl ?_
  refine r_iload_n E (q := 21) 2 dX3_isLike_20 rfl rfl rfl ?_
  refine r_iload_n E (q := 22) 3 dX3_isLike_21 rfl rfl rfl ?_
  refine r_iadd E (q := 23) dX3_isLike_22 rfl ?_
  refine r_iald E (q := 24) 24 wc_24 (off_in (m := 0) h_o9 (by omega)) dX3_isLike_23 rfl ?_
  refine r_icmp_eq E (q := 27) 29 dX3_isLike_24 (by decide) rfl (fun c2 => ?_) (fun c2 => ?_)
  · refine r_iinc E (q := 32) (v := 1) (lv' := [(0, .ref (ad 23)), (1, .int r9), (2, .int o9), (3, .int 1)]) 3 [1, 2, 3, 0] dX3_isLike_29 rfl (by rfl) (by rw [hz]; decide) rfl rfl ?_
    refine r_goto E 2 dX3_isLike_32 (by decide) ?_
    refine r_iload_n E (q := 3) 3 dX3_isLike_2 rfl rfl rfl ?_
    refine r_bipush E (q := 5) (v := 6) dX3_isLike_3 (by decide) rfl ?_
    refine r_icmp_ge E (q := 8) 35 dX3_isLike_5 (by decide) rfl (fun c3 => absurd c3 (by decide)) (fun _ => ?_)
    refine r_aload_n E (q := 9) 0 dX3_isLike_8 rfl rfl rfl ?_
    refine r_get E (q := 12) fX3_13 23 wc_23 rfl dX3_isLike_9 rfl ?_
    refine r_iload_n E (q := 13) 1 dX3_isLike_12 rfl rfl rfl ?_
    refine r_iload_n E (q := 14) 3 dX3_isLike_13 rfl rfl rfl ?_
    refine r_iadd E (q := 15) dX3_isLike_14 rfl ?_
    refine r_iald E (q := 16) 24 wc_24 (off_in (m := 1) h_r9 (by omega)) dX3_isLike_15 rfl ?_
    refine r_aload_n E (q := 17) 0 dX3_isLike_16 rfl rfl rfl ?_
    refine r_get E (q := 20) fX3_13 23 wc_23 rfl dX3_isLike_17 rfl ?_
    refine r_iload_n E (q := 21) 2 dX3_isLike_20 rfl rfl rfl ?_
    refine r_iload_n E (q := 22) 3 dX3_isLike_21 rfl rfl rfl ?_
    refine r_iadd E (q := 23) dX3_isLike_22 rfl ?_
    refine r_iald E (q := 24) 24 wc_24 (off_in (m := 1) h_o9 (by omega)) dX3_isLike_23 rfl ?_
    refine r_icmp_eq E (q := 27) 29 dX3_isLike_24 (by decide) rfl (fun c4 => ?_) (fun c4 => ?_)
    · refine r_iinc E (q := 32) (v := 2) (lv' := [(0, .ref (ad 23)), (1, .int r9), (2, .int o9), (3, .int 2)]) 3 [1, 2, 3, 0] dX3_isLike_29 rfl (by rfl) (by rw [hz]; decide) rfl rfl ?_
      refine r_goto E 2 dX3_isLike_32 (by decide) ?_
      refine r_iload_n E (q := 3) 3 dX3_isLike_2 rfl rfl rfl ?_
      refine r_bipush E (q := 5) (v := 6) dX3_isLike_3 (by decide) rfl ?_
      refine r_icmp_ge E (q := 8) 35 dX3_isLike_5 (by decide) rfl (fun c5 => absurd c5 (by decide)) (fun _ => ?_)
      refine r_aload_n E (q := 9) 0 dX3_isLike_8 rfl rfl rfl ?_
      refine r_get E (q := 12) fX3_13 23 wc_23 rfl dX3_isLike_9 rfl ?_
      refine r_iload_n E (q := 13) 1 dX3_isLike_12 rfl rfl rfl ?_
      refine r_iload_n E (q := 14) 3 dX3_isLike_13 rfl rfl rfl ?_
      refine r_iadd E (q := 15) dX3_isLike_14 rfl ?_
      refine r_iald E (q := 16) 24 wc_24 (off_in (m := 2) h_r9 (by omega)) dX3_isLike_15 rfl ?_
      refine r_aload_n E (q := 17) 0 dX3_isLike_16 rfl rfl rfl ?_
      refine r_get E (q := 20) fX3_13 23 wc_23 rfl dX3_isLike_17 rfl ?_
      refine r_iload_n E (q := 21) 2 dX3_isLike_20 rfl rfl rfl ?_
      refine r_iload_n E (q := 22) 3 dX3_isLike_21 rfl rfl rfl ?_
      refine r_iadd E (q := 23) dX3_isLike_22 rfl ?_
      refine r_iald E (q := 24) 24 wc_24 (off_in (m := 2) h_o9 (by omega)) dX3_isLike_23 rfl ?_
      refine r_icmp_eq E (q := 27) 29 dX3_isLike_24 (by decide) rfl (fun c6 => ?_) (fun c6 => ?_)
      · refine r_iinc E (q := 32) (v := 3) (lv' := [(0, .ref (ad 23)), (1, .int r9), (2, .int o9), (3, .int 3)]) 3 [1, 2, 3, 0] dX3_isLike_29 rfl (by rfl) (by rw [hz]; decide) rfl rfl ?_
        refine r_goto E 2 dX3_isLike_32 (by decide) ?_
        refine r_iload_n E (q := 3) 3 dX3_isLike_2 rfl rfl rfl ?_
        refine r_bipush E (q := 5) (v := 6) dX3_isLike_3 (by decide) rfl ?_
        refine r_icmp_ge E (q := 8) 35 dX3_isLike_5 (by decide) rfl (fun c7 => absurd c7 (by decide)) (fun _ => ?_)
        refine r_aload_n E (q := 9) 0 dX3_isLike_8 rfl rfl rfl ?_
        refine r_get E (q := 12) fX3_13 23 wc_23 rfl dX3_isLike_9 rfl ?_
        refine r_iload_n E (q := 13) 1 dX3_isLike_12 rfl rfl rfl ?_
        refine r_iload_n E (q := 14) 3 dX3_isLike_13 rfl rfl rfl ?_
        refine r_iadd E (q := 15) dX3_isLike_14 rfl ?_
        refine r_iald E (q := 16) 24 wc_24 (off_in (m := 3) h_r9 (by omega)) dX3_isLike_15 rfl ?_
        refine r_aload_n E (q := 17) 0 dX3_isLike_16 rfl rfl rfl ?_
        refine r_get E (q := 20) fX3_13 23 wc_23 rfl dX3_isLike_17 rfl ?_
        refine r_iload_n E (q := 21) 2 dX3_isLike_20 rfl rfl rfl ?_
        refine r_iload_n E (q := 22) 3 dX3_isLike_21 rfl rfl rfl ?_
        refine r_iadd E (q := 23) dX3_isLike_22 rfl ?_
        refine r_iald E (q := 24) 24 wc_24 (off_in (m := 3) h_o9 (by omega)) dX3_isLike_23 rfl ?_
        refine r_icmp_eq E (q := 27) 29 dX3_isLike_24 (by decide) rfl (fun c8 => ?_) (fun c8 => ?_)
        · refine r_iinc E (q := 32) (v := 4) (lv' := [(0, .ref (ad 23)), (1, .int r9), (2, .int o9), (3, .int 4)]) 3 [1, 2, 3, 0] dX3_isLike_29 rfl (by rfl) (by rw [hz]; decide) rfl rfl ?_
          refine r_goto E 2 dX3_isLike_32 (by decide) ?_
          refine r_iload_n E (q := 3) 3 dX3_isLike_2 rfl rfl rfl ?_
          refine r_bipush E (q := 5) (v := 6) dX3_isLike_3 (by decide) rfl ?_
          refine r_icmp_ge E (q := 8) 35 dX3_isLike_5 (by decide) rfl (fun c9 => absurd c9 (by decide)) (fun _ => ?_)
          refine r_aload_n E (q := 9) 0 dX3_isLike_8 rfl rfl rfl ?_
          refine r_get E (q := 12) fX3_13 23 wc_23 rfl dX3_isLike_9 rfl ?_
          refine r_iload_n E (q := 13) 1 dX3_isLike_12 rfl rfl rfl ?_
          refine r_iload_n E (q := 14) 3 dX3_isLike_13 rfl rfl rfl ?_
          refine r_iadd E (q := 15) dX3_isLike_14 rfl ?_
          refine r_iald E (q := 16) 24 wc_24 (off_in (m := 4) h_r9 (by omega)) dX3_isLike_15 rfl ?_
          refine r_aload_n E (q := 17) 0 dX3_isLike_16 rfl rfl rfl ?_
          refine r_get E (q := 20) fX3_13 23 wc_23 rfl dX3_isLike_17 rfl ?_
          refine r_iload_n E (q := 21) 2 dX3_isLike_20 rfl rfl rfl ?_
          refine r_iload_n E (q := 22) 3 dX3_isLike_21 rfl rfl rfl ?_
          refine r_iadd E (q := 23) dX3_isLike_22 rfl ?_
          refine r_iald E (q := 24) 24 wc_24 (off_in (m := 4) h_o9 (by omega)) dX3_isLike_23 rfl ?_
          refine r_icmp_eq E (q := 27) 29 dX3_isLike_24 (by decide) rfl (fun c10 => ?_) (fun c10 => ?_)
          · refine r_iinc E (q := 32) (v := 5) (lv' := [(0, .ref (ad 23)), (1, .int r9), (2, .int o9), (3, .int 5)]) 3 [1, 2, 3, 0] dX3_isLike_29 rfl (by rfl) (by rw [hz]; decide) rfl rfl ?_
            refine r_goto E 2 dX3_isLike_32 (by decide) ?_
            refine r_iload_n E (q := 3) 3 dX3_isLike_2 rfl rfl rfl ?_
            refine r_bipush E (q := 5) (v := 6) dX3_isLike_3 (by decide) rfl ?_
            refine r_icmp_ge E (q := 8) 35 dX3_isLike_5 (by decide) rfl (fun c11 => absurd c11 (by decide)) (fun _ => ?_)
            refine r_aload_n E (q := 9) 0 dX3_isLike_8 rfl rfl rfl ?_
            refine r_get E (q := 12) fX3_13 23 wc_23 rfl dX3_isLike_9 rfl ?_
            refine r_iload_n E (q := 13) 1 dX3_isLike_12 rfl rfl rfl ?_
            refine r_iload_n E (q := 14) 3 dX3_isLike_13 rfl rfl rfl ?_
            refine r_iadd E (q := 15) dX3_isLike_14 rfl ?_
            refine r_iald E (q := 16) 24 wc_24 (off_in (m := 5) h_r9 (by omega)) dX3_isLike_15 rfl ?_
            refine r_aload_n E (q := 17) 0 dX3_isLike_16 rfl rfl rfl ?_
            refine r_get E (q := 20) fX3_13 23 wc_23 rfl dX3_isLike_17 rfl ?_
            refine r_iload_n E (q := 21) 2 dX3_isLike_20 rfl rfl rfl ?_
            refine r_iload_n E (q := 22) 3 dX3_isLike_21 rfl rfl rfl ?_
            refine r_iadd E (q := 23) dX3_isLike_22 rfl ?_
            refine r_iald E (q := 24) 24 wc_24 (off_in (m := 5) h_o9 (by omega)) dX3_isLike_23 rfl ?_
            refine r_icmp_eq E (q := 27) 29 dX3_isLike_24 (by decide) rfl (fun c12 => ?_) (fun c12 => ?_)
            · refine r_iinc E (q := 32) (v := 6) (lv' := [(0, .ref (ad 23)), (1, .int r9), (2, .int o9), (3, .int 6)]) 3 [1, 2, 3, 0] dX3_isLike_29 rfl (by rfl) (by rw [hz]; decide) rfl rfl ?_
              refine r_goto E 2 dX3_isLike_32 (by decide) ?_
              refine r_iload_n E (q := 3) 3 dX3_isLike_2 rfl rfl rfl ?_
              refine r_bipush E (q := 5) (v := 6) dX3_isLike_3 (by decide) rfl ?_
              refine r_icmp_ge E (q := 8) 35 dX3_isLike_5 (by decide) rfl (fun _ => ?_) (fun c13 => absurd c13 (by decide))
              refine r_iconst E (q := 36) (v := 1) dX3_isLike_35 (by decide) rfl ?_
              exact r_zret E T (Or.inr rfl) dX3_isLike_36 (eqI.mk (by unfold fX3_isLike; exact ((if_pos c2).trans ((if_pos c4).trans ((if_pos c6).trans ((if_pos c8).trans ((if_pos c10).trans (if_pos c12)))))).symm) rfl)
            · refine r_iconst E (q := 28) (v := 0) dX3_isLike_27 (by decide) rfl ?_
              exact r_zret E T (Or.inl rfl) dX3_isLike_28 (eqI.mk (by unfold fX3_isLike; exact ((if_pos c2).trans ((if_pos c4).trans ((if_pos c6).trans ((if_pos c8).trans ((if_pos c10).trans (if_neg c12)))))).symm) rfl)
          · refine r_iconst E (q := 28) (v := 0) dX3_isLike_27 (by decide) rfl ?_
            exact r_zret E T (Or.inl rfl) dX3_isLike_28 (eqI.mk (by unfold fX3_isLike; exact ((if_pos c2).trans ((if_pos c4).trans ((if_pos c6).trans ((if_pos c8).trans (if_neg c10))))).symm) rfl)
        · refine r_iconst E (q := 28) (v := 0) dX3_isLike_27 (by decide) rfl ?_
          exact r_zret E T (Or.inl rfl) dX3_isLike_28 (eqI.mk (by unfold fX3_isLike; exact ((if_pos c2).trans ((if_pos c4).trans ((if_pos c6).trans (if_neg c8)))).symm) rfl)
      · refine r_iconst E (q := 28) (v := 0) dX3_isLike_27 (by decide) rfl ?_
        exact r_zret E T (Or.inl rfl) dX3_isLike_28 (eqI.mk (by unfold fX3_isLike; exact ((if_pos c2).trans ((if_pos c4).trans (if_neg c6))).symm) rfl)
    · refine r_iconst E (q := 28) (v := 0) dX3_isLike_27 (by decide) rfl ?_
      exact r_zret E T (Or.inl rfl) dX3_isLike_28 (eqI.mk (by unfold fX3_isLike; exact ((if_pos c2).trans (if_neg c4)).symm) rfl)
  · refine r_iconst E (q := 28) (v := 0) dX3_isLike_27 (by decide) rfl ?_
    exact r_zret E T (Or.inl rfl) dX3_isLike_28 (eqI.mk (by unfold fX3_isLike; exact (if_neg c2).symm) rfl)
set_option maxRecDepth 100000 in
set_option maxHeartbeats 800000 in
theorem fm_b {z : Zt} (E : EN z cX3_findMember RX3) {w0 : va_W} {P : Option Value → va_W → Prop} {lvl : Nat} (T : RT z (some .int) lvl w0 P 0 0) (hz : zn z = 5) {ad : Nat → Nat} {G : Nat → Nat → Int32} {V : Nat → Int32} {n : Nat} (u9 m9 v9 r9 : Int32) 
    (o1 : ¬ (V 2 ≤ r9) → vp_in (r9 + m9) n)
    (k1 : V 2 ≤ r9 → P (some (.int (-1))) (WC (zk z) ad G V n)) 
    (k2 : ¬ (V 2 ≤ r9) → ¬ (G 24 (ix (r9 + m9)) = v9) → WW z 0 0 (WC (zk z) ad G V n) 3 [(0, .ref (ad 23)), (1, .int u9), (2, .int m9), (3, .int v9), (4, .int (r9 + 6))] []) 
    (k3 : ¬ (V 2 ≤ r9) → G 24 (ix (r9 + m9)) = v9 → P (some (.int r9)) (WC (zk z) ad G V n)) :
    WW z 0 0 (WC (zk z) ad G V n) 3 [(0, .ref (ad 23)), (1, .int u9), (2, .int m9), (3, .int v9), (4, .int r9)] [] := by
  refine r_iload E (q := 5) 4 dX3_findMember_3 rfl rfl ?_
  refine r_aload_n E (q := 6) 0 dX3_findMember_5 rfl rfl rfl ?_
  refine r_get E (q := 9) fX3_39 23 wc_23 rfl dX3_findMember_6 rfl ?_
  refine r_icmp_ge E (q := 12) 34 dX3_findMember_9 (by decide) rfl (fun c1 => ?_) (fun c1 => ?_)
  · refine r_iconst E (q := 35) (v := (-1)) dX3_findMember_34 (by decide) rfl ?_
    exact r_iret E T dX3_findMember_35 (k1 c1)
  · refine r_aload_n E (q := 13) 0 dX3_findMember_12 rfl rfl rfl ?_
    refine r_get E (q := 16) fX3_13 23 wc_23 rfl dX3_findMember_13 rfl ?_
    refine r_iload E (q := 18) 4 dX3_findMember_16 rfl rfl ?_
    refine r_iload_n E (q := 19) 2 dX3_findMember_18 rfl rfl rfl ?_
    refine r_iadd E (q := 20) dX3_findMember_19 rfl ?_
    refine r_iald E (q := 21) 24 wc_24 (o1 c1) dX3_findMember_20 rfl ?_
    refine r_iload_n E (q := 22) 3 dX3_findMember_21 rfl rfl rfl ?_
    refine r_icmp_ne E (q := 25) 28 dX3_findMember_22 (by decide) rfl (fun c2 => ?_) (fun c2 => ?_)
    · refine r_iinc E (q := 31) (v := r9 + 6) (lv' := [(0, .ref (ad 23)), (1, .int u9), (2, .int m9), (3, .int v9), (4, .int (r9 + 6))]) 4 [1, 2, 3, 4, 0] dX3_findMember_28 rfl (by rfl) (by rw [hz]; decide) rfl rfl ?_
      refine r_goto E 3 dX3_findMember_31 (by decide) ?_
      exact k2 c1 c2
    · refine r_iload E (q := 27) 4 dX3_findMember_25 rfl rfl ?_
      exact r_iret E T dX3_findMember_27 (k3 c1 c2)
set_option maxRecDepth 100000 in
set_option maxHeartbeats 800000 in
theorem hl_b {z : Zt} (E : EN z cX3_hasLike RX3) {w0 : va_W} {P : Option Value → va_W → Prop} {lvl : Nat} (T : RT z (some .boolean) lvl w0 P 0 0) (hz : zn z = 4) {ad : Nat → Nat} {G : Nat → Nat → Int32} {V : Nat → Int32} {n : Nat} (hlv : 1 ≤ lvl) (u9 r9 o9 : Int32) 
    (o1 : ¬ (V 2 ≤ o9) → ∃ a : Nat, r9 = nI a ∧ a + 6 ≤ n ∧ n < 2 ^ 31) 
    (o2 : ¬ (V 2 ≤ o9) → ∃ a : Nat, o9 = nI a ∧ a + 6 ≤ n ∧ n < 2 ^ 31)
    (k1 : V 2 ≤ o9 → P (some (.int 0)) (WC (zk z) ad G V n)) 
    (k2 : ¬ (V 2 ≤ o9) → fX3_isLike G r9 o9 = 0 → WW z 0 0 (WC (zk z) ad G V n) 2 [(0, .ref (ad 23)), (1, .int u9), (2, .int r9), (3, .int (o9 + 6))] []) 
    (k3 : ¬ (V 2 ≤ o9) → ¬ (fX3_isLike G r9 o9 = 0) → P (some (.int 1)) (WC (zk z) ad G V n)) :
    WW z 0 0 (WC (zk z) ad G V n) 2 [(0, .ref (ad 23)), (1, .int u9), (2, .int r9), (3, .int o9)] [] := by
  refine r_iload_n E (q := 3) 3 dX3_hasLike_2 rfl rfl rfl ?_
  refine r_aload_n E (q := 4) 0 dX3_hasLike_3 rfl rfl rfl ?_
  refine r_get E (q := 7) fX3_39 23 wc_23 rfl dX3_hasLike_4 rfl ?_
  refine r_icmp_ge E (q := 10) 27 dX3_hasLike_7 (by decide) rfl (fun c1 => ?_) (fun c1 => ?_)
  · refine r_iconst E (q := 28) (v := 0) dX3_hasLike_27 (by decide) rfl ?_
    exact r_zret E T (Or.inl rfl) dX3_hasLike_28 (k1 c1)
  · refine r_aload_n E (q := 11) 0 dX3_hasLike_10 rfl rfl rfl ?_
    refine r_iload_n E (q := 12) 2 dX3_hasLike_11 rfl rfl rfl ?_
    refine r_iload_n E (q := 13) 3 dX3_hasLike_12 rfl rfl rfl ?_
    refine rVi E (q := 16) cvX3_152 T.rr 23 wc_23 rfl [.int r9, .int o9] (c_X3_isLike r9 o9 (o1 c1) (o2 c1)) (by omega) rfl rfl (Nat.le_of_ble_eq_true rfl) ⟨Nat.zero_le _, Nat.zero_le _⟩ dX3_hasLike_13 rfl ?_
    refine r_if_eq E (q := 19) 21 dX3_hasLike_16 (by decide) rfl (fun c2 => ?_) (fun c2 => ?_)
    · refine r_iinc E (q := 24) (v := o9 + 6) (lv' := [(0, .ref (ad 23)), (1, .int u9), (2, .int r9), (3, .int (o9 + 6))]) 3 [1, 2, 3, 0] dX3_hasLike_21 rfl (by rfl) (by rw [hz]; decide) rfl rfl ?_
      refine r_goto E 2 dX3_hasLike_24 (by decide) ?_
      exact k2 c1 c2
    · refine r_iconst E (q := 20) (v := 1) dX3_hasLike_19 (by decide) rfl ?_
      exact r_zret E T (Or.inr rfl) dX3_hasLike_20 (k3 c1 c2)
set_option maxRecDepth 100000 in
set_option maxHeartbeats 800000 in
theorem fm_a {z : Zt} (E : EN z cX3_findMember RX3) {w0 : va_W} {P : Option Value → va_W → Prop} {lvl : Nat} (T : RT z (some .int) lvl w0 P 0 0) (hz : zn z = 5) {ad : Nat → Nat} {G : Nat → Nat → Int32} {V : Nat → Int32} {n : Nat} (u9 m9 v9 : Int32) 
    (k1 : WW z 0 0 (WC (zk z) ad G V n) 3 [(0, .ref (ad 23)), (1, .int u9), (2, .int m9), (3, .int v9), (4, .int u9)] []) :
    WW z 0 0 (WC (zk z) ad G V n) 0 [(0, .ref (ad 23)), (1, .int u9), (2, .int m9), (3, .int v9)] [] := by
  refine r_iload_n E (q := 1) 1 dX3_findMember_0 rfl rfl rfl ?_
  refine r_istore E (q := 3) (lv' := [(0, .ref (ad 23)), (1, .int u9), (2, .int m9), (3, .int v9), (4, .int u9)]) [1, 2, 3, 4, 0] dX3_findMember_1 (by rw [hz]; decide) rfl rfl ?_
  exact k1 
set_option maxRecDepth 100000 in
set_option maxHeartbeats 800000 in
theorem hl_a {z : Zt} (E : EN z cX3_hasLike RX3) {w0 : va_W} {P : Option Value → va_W → Prop} {lvl : Nat} (T : RT z (some .boolean) lvl w0 P 0 0) (hz : zn z = 4) {ad : Nat → Nat} {G : Nat → Nat → Int32} {V : Nat → Int32} {n : Nat} (u9 r9 : Int32) 
    (k1 : WW z 0 0 (WC (zk z) ad G V n) 2 [(0, .ref (ad 23)), (1, .int u9), (2, .int r9), (3, .int u9)] []) :
    WW z 0 0 (WC (zk z) ad G V n) 0 [(0, .ref (ad 23)), (1, .int u9), (2, .int r9)] [] := by
  refine r_iload_n E (q := 1) 1 dX3_hasLike_0 rfl rfl rfl ?_
  refine r_istore_n E (q := 2) (lv' := [(0, .ref (ad 23)), (1, .int u9), (2, .int r9), (3, .int u9)]) [1, 2, 3, 0] dX3_hasLike_1 rfl (by rw [hz]; decide) rfl rfl ?_
  exact k1 
