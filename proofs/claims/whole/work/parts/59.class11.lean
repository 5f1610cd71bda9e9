set_option maxRecDepth 100000 in
set_option maxHeartbeats 800000 in
theorem qf_a {z : Zt} (E : EN z cX5_formula RX5) {w0 : va_W} {P : Option Value → va_W → Prop} {lvl : Nat} (T : RT z (some .int) lvl w0 P 0 0) (hz : zn z = 4) {ad : Nat → Nat} {G : Nat → Nat → Int32} {V : Nat → Int32} {n : Nat} (hlv : 5 ≤ lvl) (x a b : Int32) 
    (o1 : ¬ (fX0_isAsTold V x a b = 0) → (¬ fX0_takesFirst x = 0 → vp_in a 40)) 
    (o2 : ¬ (fX0_isAsTold V x a b = 0) → (¬ fX0_takesSecond x = 0 → vp_in b 40)) 
    (o3 : ¬ (fX0_isAsTold V x a b = 0) → ∃ j : Nat, j ≤ 40 ∧ V 0 = nI j)
    (k1 : ∀ (G1 : Nat → Nat → Int32), G1 = fX0_add_G G V x a b → ¬ (fX0_isAsTold V x a b = 0) → P (some (.int (fX0_add G V x a b))) (WC (zk z) ad G1 (fX0_add_V G V x a b) n)) 
    (k2 : fX0_isAsTold V x a b = 0 → P (some (.int (-1))) (WC (zk z) ad G V n)) :
    WW z 0 0 (WC (zk z) ad G V n) 0 [(0, .ref (ad 0)), (1, .int x), (2, .int a), (3, .int b)] [] := by
  refine r_aload_n E (q := 1) 0 dX5_formula_0 rfl rfl rfl ?_
  refine r_get E (q := 4) fX5_19 0 wc_0 rfl dX5_formula_1 rfl ?_
  refine r_iload_n E (q := 5) 1 dX5_formula_4 rfl rfl rfl ?_
  refine r_iload_n E (q := 6) 2 dX5_formula_5 rfl rfl rfl ?_
  refine r_iload_n E (q := 7) 3 dX5_formula_6 rfl rfl rfl ?_
  refine rVi E (q := 10) cvX5_69 T.rr 5 wc_5 rfl [.int x, .int a, .int b] (c_X0_isAsTold x a b) (by omega) rfl rfl (Nat.le_of_ble_eq_true rfl) ⟨Nat.zero_le _, Nat.zero_le _⟩ dX5_formula_7 rfl ?_
  refine r_if_ne E (q := 13) 15 dX5_formula_10 (by decide) rfl (fun c1 => ?_) (fun c1 => ?_)
  · refine r_aload_n E (q := 16) 0 dX5_formula_15 rfl rfl rfl ?_
    refine r_get E (q := 19) fX5_19 0 wc_0 rfl dX5_formula_16 rfl ?_
    refine r_iload_n E (q := 20) 1 dX5_formula_19 rfl rfl rfl ?_
    refine r_iload_n E (q := 21) 2 dX5_formula_20 rfl rfl rfl ?_
    refine r_iload_n E (q := 22) 3 dX5_formula_21 rfl rfl rfl ?_
    refine rVi E (q := 25) cvX5_73 T.rr 5 wc_5 rfl [.int x, .int a, .int b] (c_X0_add x a b (o1 c1) (o2 c1) (o3 c1)) (by omega) rfl rfl (Nat.le_of_ble_eq_true rfl) ⟨Nat.zero_le _, Nat.zero_le _⟩ dX5_formula_22 rfl ?_
    refine r_nGC (fun G1 eG1 => ?_)
    exact r_iret E T dX5_formula_25 (k1 G1 eG1 c1)
  · refine r_iconst E (q := 14) (v := (-1)) dX5_formula_13 (by decide) rfl ?_
    exact r_iret E T dX5_formula_14 (k2 c1)
set_option maxRecDepth 100000 in
set_option maxHeartbeats 800000 in
theorem qn_a {z : Zt} (E : EN z cX5_node RX5) {w0 : va_W} {P : Option Value → va_W → Prop} {lvl : Nat} (T : RT z (some .int) lvl w0 P 0 0) (hz : zn z = 6) {ad : Nat → Nat} {G : Nat → Nat → Int32} {V : Nat → Int32} {n : Nat} (hlv : 5 ≤ lvl) (x a b m v : Int32) 
    (o1 : ¬ (fX1_isAsTold V x a b m v = 0) → ¬ (fX1_hasRoom V 1 = 0) → (¬ x = 0 → vp_in a 60)) 
    (o2 : ¬ (fX1_isAsTold V x a b m v = 0) → ¬ (fX1_hasRoom V 1 = 0) → (x = 4 ∨ x = 5 → vp_in b 60)) 
    (o3 : ¬ (fX1_isAsTold V x a b m v = 0) → ¬ (fX1_hasRoom V 1 = 0) → fX1_boundOf G x a b v ≤ 100 → vp_in (V 1) 60) 
    (o4 : ¬ (fX1_isAsTold V x a b m v = 0) → ¬ (fX1_hasRoom V 1 = 0) → fX1_boundOf G x a b v ≤ 100 → (¬ x = 0 → vp_in a 60)) 
    (o5 : ¬ (fX1_isAsTold V x a b m v = 0) → ¬ (fX1_hasRoom V 1 = 0) → fX1_boundOf G x a b v ≤ 100 → (x = 4 ∨ x = 5 → vp_in b 60)) 
    (o6 : ¬ (fX1_isAsTold V x a b m v = 0) → ¬ (fX1_hasRoom V 1 = 0) → fX1_boundOf G x a b v ≤ 100 → (x = 1 ∨ x = 2 → vp_in v 40))
    (k1 : ¬ (fX1_isAsTold V x a b m v = 0) → fX1_hasRoom V 1 = 0 → P (some (.int (-2))) (WC (zk z) ad G V n)) 
    (k2 : ∀ (G1 : Nat → Nat → Int32), G1 = fX1_add_G G V x a b m v → ¬ (fX1_isAsTold V x a b m v = 0) → ¬ (fX1_hasRoom V 1 = 0) → fX1_boundOf G x a b v ≤ 100 → P (some (.int (fX1_add G V x a b m v))) (WC (zk z) ad G1 (fX1_add_V G V x a b m v) n)) 
    (k3 : ¬ (fX1_isAsTold V x a b m v = 0) → ¬ (fX1_hasRoom V 1 = 0) → ¬ (fX1_boundOf G x a b v ≤ 100) → P (some (.int (-2))) (WC (zk z) ad G V n)) 
    (k4 : fX1_isAsTold V x a b m v = 0 → P (some (.int (-1))) (WC (zk z) ad G V n)) :
    WW z 0 0 (WC (zk z) ad G V n) 0 [(0, .ref (ad 0)), (1, .int x), (2, .int a), (3, .int b), (4, .int m), (5, .int v)] [] := by
  refine r_aload_n E (q := 1) 0 dX5_node_0 rfl rfl rfl ?_
  refine r_get E (q := 4) fX5_28 0 wc_0 rfl dX5_node_1 rfl ?_
  refine r_iload_n E (q := 5) 1 dX5_node_4 rfl rfl rfl ?_
  refine r_iload_n E (q := 6) 2 dX5_node_5 rfl rfl rfl ?_
  refine r_iload_n E (q := 7) 3 dX5_node_6 rfl rfl rfl ?_
  refine r_iload E (q := 9) 4 dX5_node_7 rfl rfl ?_
  refine r_iload E (q := 11) 5 dX5_node_9 rfl rfl ?_
  refine rVi E (q := 14) cvX5_88 T.rr 12 wc_12 rfl [.int x, .int a, .int b, .int m, .int v] (c_X1_isAsTold x a b m v) (by omega) rfl rfl (Nat.le_of_ble_eq_true rfl) ⟨Nat.zero_le _, Nat.zero_le _⟩ dX5_node_11 rfl ?_
  refine r_if_ne E (q := 17) 19 dX5_node_14 (by decide) rfl (fun c1 => ?_) (fun c1 => ?_)
  · refine r_aload_n E (q := 20) 0 dX5_node_19 rfl rfl rfl ?_
    refine r_get E (q := 23) fX5_28 0 wc_0 rfl dX5_node_20 rfl ?_
    refine r_iconst E (q := 24) (v := 1) dX5_node_23 (by decide) rfl ?_
    refine rVi E (q := 27) cvX5_91 T.rr 12 wc_12 rfl [.int 1] (c_X1_hasRoom 1) (by omega) rfl rfl (Nat.le_of_ble_eq_true rfl) ⟨Nat.zero_le _, Nat.zero_le _⟩ dX5_node_24 rfl ?_
    refine r_if_eq E (q := 30) 47 dX5_node_27 (by decide) rfl (fun c2 => ?_) (fun c2 => ?_)
    · refine r_bipush E (q := 49) (v := (-2)) dX5_node_47 (by decide) rfl ?_
      exact r_iret E T dX5_node_49 (k1 c1 c2)
    · refine r_aload_n E (q := 31) 0 dX5_node_30 rfl rfl rfl ?_
      refine r_get E (q := 34) fX5_28 0 wc_0 rfl dX5_node_31 rfl ?_
      refine r_iload_n E (q := 35) 1 dX5_node_34 rfl rfl rfl ?_
      refine r_iload_n E (q := 36) 2 dX5_node_35 rfl rfl rfl ?_
      refine r_iload_n E (q := 37) 3 dX5_node_36 rfl rfl rfl ?_
      refine r_iload E (q := 39) 5 dX5_node_37 rfl rfl ?_
      refine rVi E (q := 42) cvX5_94 T.rr 12 wc_12 rfl [.int x, .int a, .int b, .int v] (c_X1_boundOf x a b v (o1 c1 c2) (o2 c1 c2)) (by omega) rfl rfl (Nat.le_of_ble_eq_true rfl) ⟨Nat.zero_le _, Nat.zero_le _⟩ dX5_node_39 rfl ?_
      refine r_bipush E (q := 44) (v := 100) dX5_node_42 (by decide) rfl ?_
      refine r_icmp_le E (q := 47) 50 dX5_node_44 (by decide) rfl (fun c3 => ?_) (fun c3 => ?_)
      · refine r_aload_n E (q := 51) 0 dX5_node_50 rfl rfl rfl ?_
        refine r_get E (q := 54) fX5_28 0 wc_0 rfl dX5_node_51 rfl ?_
        refine r_iload_n E (q := 55) 1 dX5_node_54 rfl rfl rfl ?_
        refine r_iload_n E (q := 56) 2 dX5_node_55 rfl rfl rfl ?_
        refine r_iload_n E (q := 57) 3 dX5_node_56 rfl rfl rfl ?_
        refine r_iload E (q := 59) 4 dX5_node_57 rfl rfl ?_
        refine r_iload E (q := 61) 5 dX5_node_59 rfl rfl ?_
        refine rVi E (q := 64) cvX5_97 T.rr 12 wc_12 rfl [.int x, .int a, .int b, .int m, .int v] (c_X1_add x a b m v (o3 c1 c2 c3) (o4 c1 c2 c3) (o5 c1 c2 c3) (o6 c1 c2 c3)) (by omega) rfl rfl (Nat.le_of_ble_eq_true rfl) ⟨Nat.zero_le _, Nat.zero_le _⟩ dX5_node_61 rfl ?_
        refine r_nGC (fun G1 eG1 => ?_)
        exact r_iret E T dX5_node_64 (k2 G1 eG1 c1 c2 c3)
      · refine r_bipush E (q := 49) (v := (-2)) dX5_node_47 (by decide) rfl ?_
        exact r_iret E T dX5_node_49 (k3 c1 c2 c3)
  · refine r_iconst E (q := 18) (v := (-1)) dX5_node_17 (by decide) rfl ?_
    exact r_iret E T dX5_node_18 (k4 c1)
set_option maxRecDepth 100000 in
set_option maxHeartbeats 800000 in
theorem qr_a {z : Zt} (E : EN z cX5_run RX5) {w0 : va_W} {P : Option Value → va_W → Prop} {lvl : Nat} {mc9 ms9 : Nat} (T : RT z (some .int) lvl w0 P mc9 ms9) (hz : zn z = 2) {ad : Nat → Nat} {G : Nat → Nat → Int32} {V : Nat → Int32} {n : Nat} {c9 s9 : Nat} (hcs : c9 ≤ mc9 ∧ s9 ≤ ms9) (hlv : 5 ≤ lvl) (x : Int32) 
    (k1 : ¬ (fX1_has V x = 0) → WW z c9 s9 (WC (zk z) ad G V n) 18 [(0, .ref (ad 0)), (1, .int x)] [.int x, .ref (ad 23)]) 
    (k2 : fX1_has V x = 0 → P (some (.int (-1))) (WC (zk z) ad G V n)) :
    WW z c9 s9 (WC (zk z) ad G V n) 0 [(0, .ref (ad 0)), (1, .int x)] [] := by
  refine r_aload_n E (q := 1) 0 dX5_run_0 rfl rfl rfl ?_
  refine r_get E (q := 4) fX5_28 0 wc_0 rfl dX5_run_1 rfl ?_
  refine r_iload_n E (q := 5) 1 dX5_run_4 rfl rfl rfl ?_
  refine rVi E (q := 8) cvX5_100 T.rr 12 wc_12 rfl [.int x] (c_X1_has x) (by omega) rfl rfl (Nat.le_of_ble_eq_true rfl) hcs dX5_run_5 rfl ?_
  refine r_if_ne E (q := 11) 13 dX5_run_8 (by decide) rfl (fun c1 => ?_) (fun c1 => ?_)
  · refine r_aload_n E (q := 14) 0 dX5_run_13 rfl rfl rfl ?_
    refine r_get E (q := 17) fX5_37 0 wc_0 rfl dX5_run_14 rfl ?_
    refine r_iload_n E (q := 18) 1 dX5_run_17 rfl rfl rfl ?_
    exact k1 c1
  · refine r_iconst E (q := 12) (v := (-1)) dX5_run_11 (by decide) rfl ?_
    refine r_widen hcs.1 hcs.2 ?_
    exact r_iret E T dX5_run_12 (k2 c1)
set_option maxRecDepth 100000 in
set_option maxHeartbeats 800000 in
theorem qm_a {z : Zt} (E : EN z cX5_member RX5) {w0 : va_W} {P : Option Value → va_W → Prop} {lvl : Nat} (T : RT z (some .int) lvl w0 P 0 0) (hz : zn z = 3) {ad : Nat → Nat} {G : Nat → Nat → Int32} {V : Nat → Int32} {n : Nat} (hlv : 5 ≤ lvl) (i m : Int32) 
    (o1 : ¬ (fX5_isMember m = 0) → (¬ i < 0 → i < V 4 → vp_in ((V 3 + i * 6) + m) n))
    (k1 : ¬ (fX5_isMember m = 0) → P (some (.int (fX3_given G V i m))) (WC (zk z) ad G V n)) 
    (k2 : fX5_isMember m = 0 → P (some (.int 0)) (WC (zk z) ad G V n)) :
    WW z 0 0 (WC (zk z) ad G V n) 0 [(0, .ref (ad 0)), (1, .int i), (2, .int m)] [] := by
  refine r_iload_n E (q := 1) 2 dX5_member_0 rfl rfl rfl ?_
  refine rSi E (q := 4) csX5_123 T.rr [.int m] (c_X5_isMember m) (by omega) rfl rfl (Nat.le_of_ble_eq_true rfl) ⟨Nat.zero_le _, Nat.zero_le _⟩ dX5_member_1 rfl ?_
  refine r_if_ne E (q := 7) 9 dX5_member_4 (by decide) rfl (fun c1 => ?_) (fun c1 => ?_)
  · refine r_aload_n E (q := 10) 0 dX5_member_9 rfl rfl rfl ?_
    refine r_get E (q := 13) fX5_37 0 wc_0 rfl dX5_member_10 rfl ?_
    refine r_iload_n E (q := 14) 1 dX5_member_13 rfl rfl rfl ?_
    refine r_iload_n E (q := 15) 2 dX5_member_14 rfl rfl rfl ?_
    refine rVi E (q := 18) cvX5_126 T.rr 23 wc_23 rfl [.int i, .int m] (c_X3_given i m (o1 c1)) (by omega) rfl rfl (Nat.le_of_ble_eq_true rfl) ⟨Nat.zero_le _, Nat.zero_le _⟩ dX5_member_15 rfl ?_
    exact r_iret E T dX5_member_18 (k1 c1)
  · refine r_iconst E (q := 8) (v := 0) dX5_member_7 (by decide) rfl ?_
    exact r_iret E T dX5_member_8 (k2 c1)
set_option maxRecDepth 100000 in
set_option maxHeartbeats 800000 in
theorem qt_a {z : Zt} (E : EN z cX5_fits RX5) {w0 : va_W} {P : Option Value → va_W → Prop} {lvl : Nat} (T : RT z (some .int) lvl w0 P 0 0) (hz : zn z = 3) {ad : Nat → Nat} {G : Nat → Nat → Int32} {V : Nat → Int32} {n : Nat} (hlv : 6 ≤ lvl) (x rule : Int32) 
    (o1 : ¬ (fX1_has V x = 0) → ¬ (fX2_has rule = 0) → vp_in x 60) 
    (o2 : ¬ (fX1_has V x = 0) → ¬ (fX2_has rule = 0) → vp_in rule 18) 
    (o3 : ¬ (fX1_has V x = 0) → ¬ (fX2_has rule = 0) → (G 13 (ix x) = uT (ix rule) → vp_in (G 14 (ix x)) 60)) 
    (o4 : ¬ (fX1_has V x = 0) → ¬ (fX2_has rule = 0) → (G 13 (ix x) = uT (ix rule) → G 13 (ix (G 14 (ix x))) = lT (ix rule) → uT (ix rule) = 1 → vp_in (G 17 (ix x)) 40 ∧ (rule = 0 → vp_in (G 17 (ix (G 14 (ix x)))) 40) ∧ (rule = 4 → vp_in (G 15 (ix (G 14 (ix x)))) 60) ∧ (rule = 7 → vp_in (G 17 (ix (G 14 (ix x)))) 40))) 
    (o5 : ¬ (fX1_has V x = 0) → ¬ (fX2_has rule = 0) → (G 13 (ix x) = uT (ix rule) → G 13 (ix (G 14 (ix x))) = lT (ix rule) → ¬ uT (ix rule) = 1 → (rule = 8 → vp_in (G 17 (ix x)) 40 ∧ vp_in (G 17 (ix (G 14 (ix x)))) 40) ∧ (rule = 10 ∨ rule = 17 → vp_in (G 17 (ix (G 14 (ix x)))) 40) ∧ (rule = 12 ∨ rule = 16 → vp_in (G 14 (ix (G 14 (ix x)))) 60 ∧ vp_in (G 15 (ix (G 14 (ix x)))) 60)))
    (k1 : fX1_has V x = 0 → P (some (.int (-1))) (WC (zk z) ad G V n)) 
    (k2 : ¬ (fX1_has V x = 0) → ¬ (fX2_has rule = 0) → P (some (.int (fX5_asNumber (fX2_suits G x rule)))) (WC (zk z) ad G V n)) 
    (k3 : ¬ (fX1_has V x = 0) → fX2_has rule = 0 → P (some (.int (-1))) (WC (zk z) ad G V n)) :
    WW z 0 0 (WC (zk z) ad G V n) 0 [(0, .ref (ad 0)), (1, .int x), (2, .int rule)] [] := by
  refine r_aload_n E (q := 1) 0 dX5_fits_0 rfl rfl rfl ?_
  refine r_get E (q := 4) fX5_28 0 wc_0 rfl dX5_fits_1 rfl ?_
  refine r_iload_n E (q := 5) 1 dX5_fits_4 rfl rfl rfl ?_
  refine rVi E (q := 8) cvX5_100 T.rr 12 wc_12 rfl [.int x] (c_X1_has x) (by omega) rfl rfl (Nat.le_of_ble_eq_true rfl) ⟨Nat.zero_le _, Nat.zero_le _⟩ dX5_fits_5 rfl ?_
  refine r_if_eq E (q := 11) 22 dX5_fits_8 (by decide) rfl (fun c1 => ?_) (fun c1 => ?_)
  · refine r_iconst E (q := 23) (v := (-1)) dX5_fits_22 (by decide) rfl ?_
    exact r_iret E T dX5_fits_23 (k1 c1)
  · refine r_aload_n E (q := 12) 0 dX5_fits_11 rfl rfl rfl ?_
    refine r_get E (q := 15) fX5_46 0 wc_0 rfl dX5_fits_12 rfl ?_
    refine r_iload_n E (q := 16) 2 dX5_fits_15 rfl rfl rfl ?_
    refine rVi E (q := 19) cvX5_143 T.rr 27 wc_27 rfl [.int rule] (c_X2_has rule) (by omega) rfl rfl (Nat.le_of_ble_eq_true rfl) ⟨Nat.zero_le _, Nat.zero_le _⟩ dX5_fits_16 rfl ?_
    refine r_if_ne E (q := 22) 24 dX5_fits_19 (by decide) rfl (fun c2 => ?_) (fun c2 => ?_)
    · refine r_aload_n E (q := 25) 0 dX5_fits_24 rfl rfl rfl ?_
      refine r_get E (q := 28) fX5_46 0 wc_0 rfl dX5_fits_25 rfl ?_
      refine r_iload_n E (q := 29) 1 dX5_fits_28 rfl rfl rfl ?_
      refine r_iload_n E (q := 30) 2 dX5_fits_29 rfl rfl rfl ?_
      refine rVi E (q := 33) cvX5_144 T.rr 27 wc_27 rfl [.int x, .int rule] (c_X2_suits x rule (o1 c1 c2) (o2 c1 c2) (o3 c1 c2) (o4 c1 c2) (o5 c1 c2)) (by omega) rfl rfl (Nat.le_of_ble_eq_true rfl) ⟨Nat.zero_le _, Nat.zero_le _⟩ dX5_fits_30 rfl ?_
      refine rSi E (q := 36) csX5_84 T.rr [.int (fX2_suits G x rule)] (c_X5_asNumber (fX2_suits G x rule)) (by omega) rfl rfl (Nat.le_of_ble_eq_true rfl) ⟨Nat.zero_le _, Nat.zero_le _⟩ dX5_fits_33 rfl ?_
      exact r_iret E T dX5_fits_36 (k2 c1 c2)
    · refine r_iconst E (q := 23) (v := (-1)) dX5_fits_22 (by decide) rfl ?_
      exact r_iret E T dX5_fits_23 (k3 c1 c2)
set_option maxRecDepth 100000 in
set_option maxHeartbeats 800000 in
theorem qw_a {z : Zt} (E : EN z cX5_rewrite RX5) {w0 : va_W} {P : Option Value → va_W → Prop} {lvl : Nat} (T : RT z (some .int) lvl w0 P 0 0) (hz : zn z = 3) {ad : Nat → Nat} {G : Nat → Nat → Int32} {V : Nat → Int32} {n : Nat} (hlv : 7 ≤ lvl) (x rule : Int32) 
    (o1 : ¬ (fX1_has V x = 0) → ¬ (fX2_has rule = 0) → vp_in x 60) 
    (o2 : ¬ (fX1_has V x = 0) → ¬ (fX2_has rule = 0) → vp_in rule 18) 
    (o3 : ¬ (fX1_has V x = 0) → ¬ (fX2_has rule = 0) → (G 13 (ix x) = uT (ix rule) → vp_in (G 14 (ix x)) 60)) 
    (o4 : ¬ (fX1_has V x = 0) → ¬ (fX2_has rule = 0) → (G 13 (ix x) = uT (ix rule) → G 13 (ix (G 14 (ix x))) = lT (ix rule) → uT (ix rule) = 1 → vp_in (G 17 (ix x)) 40 ∧ (rule = 0 → vp_in (G 17 (ix (G 14 (ix x)))) 40) ∧ (rule = 4 → vp_in (G 15 (ix (G 14 (ix x)))) 60) ∧ (rule = 7 → vp_in (G 17 (ix (G 14 (ix x)))) 40))) 
    (o5 : ¬ (fX1_has V x = 0) → ¬ (fX2_has rule = 0) → (G 13 (ix x) = uT (ix rule) → G 13 (ix (G 14 (ix x))) = lT (ix rule) → ¬ uT (ix rule) = 1 → (rule = 8 → vp_in (G 17 (ix x)) 40 ∧ vp_in (G 17 (ix (G 14 (ix x)))) 40) ∧ (rule = 10 ∨ rule = 17 → vp_in (G 17 (ix (G 14 (ix x)))) 40) ∧ (rule = 12 ∨ rule = 16 → vp_in (G 14 (ix (G 14 (ix x)))) 60 ∧ vp_in (G 15 (ix (G 14 (ix x)))) 60))) 
    (o6 : ¬ (fX1_has V x = 0) → ¬ (fX2_has rule = 0) → ¬ (fX2_suits G x rule = 0) → vp_in x 60) 
    (o7 : ¬ (fX1_has V x = 0) → ¬ (fX2_has rule = 0) → ¬ (fX2_suits G x rule = 0) → vp_in rule 18) 
    (o8 : ¬ (fX1_has V x = 0) → ¬ (fX2_has rule = 0) → ¬ (fX2_suits G x rule = 0) → (rule = 7 → vp_in (G 14 (ix x)) 60 ∧ vp_in (G 17 (ix (G 14 (ix x)))) 40 ∧ vp_in (G 17 (ix x)) 40))
    (k1 : fX1_has V x = 0 → P (some (.int (-1))) (WC (zk z) ad G V n)) 
    (k2 : ¬ (fX1_has V x = 0) → ¬ (fX2_has rule = 0) → ¬ (fX2_suits G x rule = 0) → ¬ (fX2_hasRoom G V x rule = 0) → WW z 0 0 (WC (zk z) ad G V n) 60 [(0, .ref (ad 0)), (1, .int x), (2, .int rule)] [.int rule, .int x, .ref (ad 27)]) 
    (k3 : ¬ (fX1_has V x = 0) → ¬ (fX2_has rule = 0) → ¬ (fX2_suits G x rule = 0) → fX2_hasRoom G V x rule = 0 → P (some (.int (-2))) (WC (zk z) ad G V n)) 
    (k4 : ¬ (fX1_has V x = 0) → ¬ (fX2_has rule = 0) → fX2_suits G x rule = 0 → P (some (.int (-3))) (WC (zk z) ad G V n)) 
    (k5 : ¬ (fX1_has V x = 0) → fX2_has rule = 0 → P (some (.int (-1))) (WC (zk z) ad G V n)) :
    WW z 0 0 (WC (zk z) ad G V n) 0 [(0, .ref (ad 0)), (1, .int x), (2, .int rule)] [] := by
  refine r_aload_n E (q := 1) 0 dX5_rewrite_0 rfl rfl rfl ?_
  refine r_get E (q := 4) fX5_28 0 wc_0 rfl dX5_rewrite_1 rfl ?_
  refine r_iload_n E (q := 5) 1 dX5_rewrite_4 rfl rfl rfl ?_
  refine rVi E (q := 8) cvX5_100 T.rr 12 wc_12 rfl [.int x] (c_X1_has x) (by omega) rfl rfl (Nat.le_of_ble_eq_true rfl) ⟨Nat.zero_le _, Nat.zero_le _⟩ dX5_rewrite_5 rfl ?_
  refine r_if_eq E (q := 11) 22 dX5_rewrite_8 (by decide) rfl (fun c1 => ?_) (fun c1 => ?_)
  · refine r_iconst E (q := 23) (v := (-1)) dX5_rewrite_22 (by decide) rfl ?_
    exact r_iret E T dX5_rewrite_23 (k1 c1)
  · refine r_aload_n E (q := 12) 0 dX5_rewrite_11 rfl rfl rfl ?_
    refine r_get E (q := 15) fX5_46 0 wc_0 rfl dX5_rewrite_12 rfl ?_
    refine r_iload_n E (q := 16) 2 dX5_rewrite_15 rfl rfl rfl ?_
    refine rVi E (q := 19) cvX5_143 T.rr 27 wc_27 rfl [.int rule] (c_X2_has rule) (by omega) rfl rfl (Nat.le_of_ble_eq_true rfl) ⟨Nat.zero_le _, Nat.zero_le _⟩ dX5_rewrite_16 rfl ?_
    refine r_if_ne E (q := 22) 24 dX5_rewrite_19 (by decide) rfl (fun c2 => ?_) (fun c2 => ?_)
    · refine r_aload_n E (q := 25) 0 dX5_rewrite_24 rfl rfl rfl ?_
      refine r_get E (q := 28) fX5_46 0 wc_0 rfl dX5_rewrite_25 rfl ?_
      refine r_iload_n E (q := 29) 1 dX5_rewrite_28 rfl rfl rfl ?_
      refine r_iload_n E (q := 30) 2 dX5_rewrite_29 rfl rfl rfl ?_
      refine rVi E (q := 33) cvX5_144 T.rr 27 wc_27 rfl [.int x, .int rule] (c_X2_suits x rule (o1 c1 c2) (o2 c1 c2) (o3 c1 c2) (o4 c1 c2) (o5 c1 c2)) (by omega) rfl rfl (Nat.le_of_ble_eq_true rfl) ⟨Nat.zero_le _, Nat.zero_le _⟩ dX5_rewrite_30 rfl ?_
      refine r_if_ne E (q := 36) 39 dX5_rewrite_33 (by decide) rfl (fun c3 => ?_) (fun c3 => ?_)
      · refine r_aload_n E (q := 40) 0 dX5_rewrite_39 rfl rfl rfl ?_
        refine r_get E (q := 43) fX5_46 0 wc_0 rfl dX5_rewrite_40 rfl ?_
        refine r_iload_n E (q := 44) 1 dX5_rewrite_43 rfl rfl rfl ?_
        refine r_iload_n E (q := 45) 2 dX5_rewrite_44 rfl rfl rfl ?_
        refine rVi E (q := 48) cvX5_148 T.rr 27 wc_27 rfl [.int x, .int rule] (c_X2_hasRoom x rule (o6 c1 c2 c3) (o7 c1 c2 c3) (o8 c1 c2 c3)) (by omega) rfl rfl (Nat.le_of_ble_eq_true rfl) ⟨Nat.zero_le _, Nat.zero_le _⟩ dX5_rewrite_45 rfl ?_
        refine r_if_ne E (q := 51) 54 dX5_rewrite_48 (by decide) rfl (fun c4 => ?_) (fun c4 => ?_)
        · refine r_aload_n E (q := 55) 0 dX5_rewrite_54 rfl rfl rfl ?_
          refine r_get E (q := 58) fX5_46 0 wc_0 rfl dX5_rewrite_55 rfl ?_
          refine r_iload_n E (q := 59) 1 dX5_rewrite_58 rfl rfl rfl ?_
          refine r_iload_n E (q := 60) 2 dX5_rewrite_59 rfl rfl rfl ?_
          exact k2 c1 c2 c3 c4
        · refine r_bipush E (q := 53) (v := (-2)) dX5_rewrite_51 (by decide) rfl ?_
          exact r_iret E T dX5_rewrite_53 (k3 c1 c2 c3 c4)
      · refine r_bipush E (q := 38) (v := (-3)) dX5_rewrite_36 (by decide) rfl ?_
        exact r_iret E T dX5_rewrite_38 (k4 c1 c2 c3)
    · refine r_iconst E (q := 23) (v := (-1)) dX5_rewrite_22 (by decide) rfl ?_
      exact r_iret E T dX5_rewrite_23 (k5 c1 c2)
set_option maxRecDepth 100000 in
set_option maxHeartbeats 800000 in
theorem qw_b {z : Zt} (E : EN z cX5_rewrite RX5) {w0 : va_W} {P : Option Value → va_W → Prop} {lvl : Nat} (T : RT z (some .int) lvl w0 P 0 0) (hz : zn z = 3) {ad : Nat → Nat} {G : Nat → Nat → Int32} {V : Nat → Int32} {n : Nat} (x rule : Int32) 
    (k1 : P (some (.int (V 1))) (WC (zk z) ad G V n)) :
    WW z 0 0 (WC (zk z) ad G V n) 63 [(0, .ref (ad 0)), (1, .int x), (2, .int rule)] [] := by
  refine r_aload_n E (q := 64) 0 dX5_rewrite_63 rfl rfl rfl ?_
  refine r_get E (q := 67) fX5_28 0 wc_0 rfl dX5_rewrite_64 rfl ?_
  refine r_get E (q := 70) fX5_154 12 wc_12 rfl dX5_rewrite_67 rfl ?_
  exact r_iret E T dX5_rewrite_70 (k1 )
set_option maxRecDepth 100000 in
set_option maxHeartbeats 800000 in
theorem ln_a {z : Zt} (E : EN z cX2_leastNode RX2) {w0 : va_W} {P : Option Value → va_W → Prop} {lvl : Nat} (T : RT z (some .int) lvl w0 P 0 0) (hz : zn z = 3) {ad : Nat → Nat} {G : Nat → Nat → Int32} {V : Nat → Int32} {n : Nat} (x : Int32) 
    (k1 : WW z 0 0 (WC (zk z) ad G V n) 5 [(0, .ref (ad 27)), (1, .int x)] [.int x, .ref (ad 12)]) :
    WW z 0 0 (WC (zk z) ad G V n) 0 [(0, .ref (ad 27)), (1, .int x)] [] := by
  refine r_aload_n E (q := 1) 0 dX2_leastNode_0 rfl rfl rfl ?_
  refine r_get E (q := 4) fX2_13 27 wc_27 rfl dX2_leastNode_1 rfl ?_
  refine r_iload_n E (q := 5) 1 dX2_leastNode_4 rfl rfl rfl ?_
  exact k1 
set_option maxRecDepth 100000 in
set_option maxHeartbeats 800000 in
theorem ln_b {z : Zt} (E : EN z cX2_leastNode RX2) {w0 : va_W} {P : Option Value → va_W → Prop} {lvl : Nat} (T : RT z (some .int) lvl w0 P 0 0) (hz : zn z = 3) {ad : Nat → Nat} {G : Nat → Nat → Int32} {V : Nat → Int32} {n : Nat} (x c9_ : Int32) 
    (k1 : WW z 0 0 (WC (zk z) ad G V n) 11 [(0, .ref (ad 27)), (1, .int x), (2, .int 0)] []) :
    WW z 0 0 (WC (zk z) ad G V n) 8 [(0, .ref (ad 27)), (1, .int x)] [.int c9_] := by
  refine r_pop E (q := 9) dX2_leastNode_8 rfl rfl ?_
  refine r_iconst E (q := 10) (v := 0) dX2_leastNode_9 (by decide) rfl ?_
  refine r_istore_n E (q := 11) (lv' := [(0, .ref (ad 27)), (1, .int x), (2, .int 0)]) [1, 2, 0] dX2_leastNode_10 rfl (by rw [hz]; decide) rfl rfl ?_
  exact k1 
set_option maxRecDepth 100000 in
set_option maxHeartbeats 800000 in
theorem ln_c {z : Zt} (E : EN z cX2_leastNode RX2) {w0 : va_W} {P : Option Value → va_W → Prop} {lvl : Nat} (T : RT z (some .int) lvl w0 P 0 0) (hz : zn z = 3) {ad : Nat → Nat} {G : Nat → Nat → Int32} {V : Nat → Int32} {n : Nat} (hlv : 7 ≤ lvl) (x i9 : Int32) 
    (o1 : ¬ (V 1 ≤ i9) → vp_in i9 60) 
    (o2 : ¬ (V 1 ≤ i9) → ¬ (fX1_isListed G i9 = 0) → vp_in i9 60) 
    (o3 : ¬ (V 1 ≤ i9) → ¬ (fX1_isListed G i9 = 0) → (∀ rule : Int32, vp_in rule 18 → G 13 (ix i9) = uT (ix rule) → vp_in (G 14 (ix i9)) 60)) 
    (o4 : ¬ (V 1 ≤ i9) → ¬ (fX1_isListed G i9 = 0) → (∀ rule : Int32, vp_in rule 18 → G 13 (ix i9) = uT (ix rule) → G 13 (ix (G 14 (ix i9))) = lT (ix rule) → uT (ix rule) = 1 → vp_in (G 17 (ix i9)) 40 ∧ (rule = 0 → vp_in (G 17 (ix (G 14 (ix i9)))) 40) ∧ (rule = 4 → vp_in (G 15 (ix (G 14 (ix i9)))) 60) ∧ (rule = 7 → vp_in (G 17 (ix (G 14 (ix i9)))) 40))) 
    (o5 : ¬ (V 1 ≤ i9) → ¬ (fX1_isListed G i9 = 0) → (∀ rule : Int32, vp_in rule 18 → G 13 (ix i9) = uT (ix rule) → G 13 (ix (G 14 (ix i9))) = lT (ix rule) → ¬ uT (ix rule) = 1 → (rule = 8 → vp_in (G 17 (ix i9)) 40 ∧ vp_in (G 17 (ix (G 14 (ix i9)))) 40) ∧ (rule = 10 ∨ rule = 17 → vp_in (G 17 (ix (G 14 (ix i9)))) 40) ∧ (rule = 12 ∨ rule = 16 → vp_in (G 14 (ix (G 14 (ix i9)))) 60 ∧ vp_in (G 15 (ix (G 14 (ix i9)))) 60)))
    (k1 : V 1 ≤ i9 → P (some (.int (-1))) (WC (zk z) ad G V n)) 
    (k2 : ¬ (V 1 ≤ i9) → fX1_isListed G i9 = 0 → WW z 0 0 (WC (zk z) ad G V n) 11 [(0, .ref (ad 27)), (1, .int x), (2, .int (i9 + 1))] []) 
    (k3 : ¬ (V 1 ≤ i9) → ¬ (fX1_isListed G i9 = 0) → fX2_leastRule G i9 < 0 → WW z 0 0 (WC (zk z) ad G V n) 11 [(0, .ref (ad 27)), (1, .int x), (2, .int (i9 + 1))] []) 
    (k4 : ¬ (V 1 ≤ i9) → ¬ (fX1_isListed G i9 = 0) → ¬ (fX2_leastRule G i9 < 0) → P (some (.int i9)) (WC (zk z) ad G V n)) :
    WW z 0 0 (WC (zk z) ad G V n) 11 [(0, .ref (ad 27)), (1, .int x), (2, .int i9)] [] := by
  refine r_iload_n E (q := 12) 2 dX2_leastNode_11 rfl rfl rfl ?_
  refine r_aload_n E (q := 13) 0 dX2_leastNode_12 rfl rfl rfl ?_
  refine r_get E (q := 16) fX2_13 27 wc_27 rfl dX2_leastNode_13 rfl ?_
  refine r_get E (q := 19) fX2_118 12 wc_12 rfl dX2_leastNode_16 rfl ?_
  refine r_icmp_ge E (q := 22) 49 dX2_leastNode_19 (by decide) rfl (fun c1 => ?_) (fun c1 => ?_)
  · refine r_iconst E (q := 50) (v := (-1)) dX2_leastNode_49 (by decide) rfl ?_
    exact r_iret E T dX2_leastNode_50 (k1 c1)
  · refine r_aload_n E (q := 23) 0 dX2_leastNode_22 rfl rfl rfl ?_
    refine r_get E (q := 26) fX2_13 27 wc_27 rfl dX2_leastNode_23 rfl ?_
    refine r_iload_n E (q := 27) 2 dX2_leastNode_26 rfl rfl rfl ?_
    refine rVi E (q := 30) cvX2_121 T.rr 12 wc_12 rfl [.int i9] (c_X1_isListed i9 (o1 c1)) (by omega) rfl rfl (Nat.le_of_ble_eq_true rfl) ⟨Nat.zero_le _, Nat.zero_le _⟩ dX2_leastNode_27 rfl ?_
    refine r_if_eq E (q := 33) 43 dX2_leastNode_30 (by decide) rfl (fun c2 => ?_) (fun c2 => ?_)
    · refine r_iinc E (q := 46) (v := i9 + 1) (lv' := [(0, .ref (ad 27)), (1, .int x), (2, .int (i9 + 1))]) 2 [1, 2, 0] dX2_leastNode_43 rfl (by rfl) (by rw [hz]; decide) rfl rfl ?_
      refine r_goto E 11 dX2_leastNode_46 (by decide) ?_
      exact k2 c1 c2
    · refine r_aload_n E (q := 34) 0 dX2_leastNode_33 rfl rfl rfl ?_
      refine r_iload_n E (q := 35) 2 dX2_leastNode_34 rfl rfl rfl ?_
      refine rVi E (q := 38) cvX2_124 T.rr 27 wc_27 rfl [.int i9] (c_X2_leastRule i9 (o2 c1 c2) (o3 c1 c2) (o4 c1 c2) (o5 c1 c2)) (by omega) rfl rfl (Nat.le_of_ble_eq_true rfl) ⟨Nat.zero_le _, Nat.zero_le _⟩ dX2_leastNode_35 rfl ?_
      refine r_if_lt E (q := 41) 43 dX2_leastNode_38 (by decide) rfl (fun c3 => ?_) (fun c3 => ?_)
      · refine r_iinc E (q := 46) (v := i9 + 1) (lv' := [(0, .ref (ad 27)), (1, .int x), (2, .int (i9 + 1))]) 2 [1, 2, 0] dX2_leastNode_43 rfl (by rfl) (by rw [hz]; decide) rfl rfl ?_
        refine r_goto E 11 dX2_leastNode_46 (by decide) ?_
        exact k3 c1 c2 c3
      · refine r_iload_n E (q := 42) 2 dX2_leastNode_41 rfl rfl rfl ?_
        exact r_iret E T dX2_leastNode_42 (k4 c1 c2 c3)
set_option maxRecDepth 100000 in
set_option maxHeartbeats 800000 in
theorem sw_a {z : Zt} (E : EN z cX5_sweep RX5) {w0 : va_W} {P : Option Value → va_W → Prop} {lvl : Nat} (T : RT z (some .int) lvl w0 P 0 0) (hz : zn z = 6) {ad : Nat → Nat} {G : Nat → Nat → Int32} {V : Nat → Int32} {n : Nat} (hlv : 7 ≤ lvl) (x t9 : Int32) 
    (k1 : fX1_has V x = 0 → P (some (.int (-1))) (WC (zk z) ad G V n)) 
    (k2 : ¬ (fX1_has V x = 0) → t9 < 0 → P (some (.int (-1))) (WC (zk z) ad G V n)) 
    (k3 : ¬ (fX1_has V x = 0) → ¬ (t9 < 0) → t9 ≤ 100 → WW z 0 0 (WC (zk z) ad G V n) 25 [(0, .ref (ad 0)), (1, .int x), (2, .int t9), (3, .int 0)] []) 
    (k4 : ¬ (fX1_has V x = 0) → ¬ (t9 < 0) → ¬ (t9 ≤ 100) → P (some (.int (-1))) (WC (zk z) ad G V n)) :
    WW z 0 0 (WC (zk z) ad G V n) 0 [(0, .ref (ad 0)), (1, .int x), (2, .int t9)] [] := by
  refine r_aload_n E (q := 1) 0 dX5_sweep_0 rfl rfl rfl ?_
  refine r_get E (q := 4) fX5_28 0 wc_0 rfl dX5_sweep_1 rfl ?_
  refine r_iload_n E (q := 5) 1 dX5_sweep_4 rfl rfl rfl ?_
  refine rVi E (q := 8) cvX5_100 T.rr 12 wc_12 rfl [.int x] (c_X1_has x) (by omega) rfl rfl (Nat.le_of_ble_eq_true rfl) ⟨Nat.zero_le _, Nat.zero_le _⟩ dX5_sweep_5 rfl ?_
  refine r_if_eq E (q := 11) 21 dX5_sweep_8 (by decide) rfl (fun c1 => ?_) (fun c1 => ?_)
  · refine r_iconst E (q := 22) (v := (-1)) dX5_sweep_21 (by decide) rfl ?_
    exact r_iret E T dX5_sweep_22 (k1 c1)
  · refine r_iload_n E (q := 12) 2 dX5_sweep_11 rfl rfl rfl ?_
    refine r_if_lt E (q := 15) 21 dX5_sweep_12 (by decide) rfl (fun c2 => ?_) (fun c2 => ?_)
    · refine r_iconst E (q := 22) (v := (-1)) dX5_sweep_21 (by decide) rfl ?_
      exact r_iret E T dX5_sweep_22 (k2 c1 c2)
    · refine r_iload_n E (q := 16) 2 dX5_sweep_15 rfl rfl rfl ?_
      refine r_bipush E (q := 18) (v := 100) dX5_sweep_16 (by decide) rfl ?_
      refine r_icmp_le E (q := 21) 23 dX5_sweep_18 (by decide) rfl (fun c3 => ?_) (fun c3 => ?_)
      · refine r_iconst E (q := 24) (v := 0) dX5_sweep_23 (by decide) rfl ?_
        refine r_istore_n E (q := 25) (lv' := [(0, .ref (ad 0)), (1, .int x), (2, .int t9), (3, .int 0)]) [1, 2, 3, 0] dX5_sweep_24 rfl (by rw [hz]; decide) rfl rfl ?_
        exact k3 c1 c2 c3
      · refine r_iconst E (q := 22) (v := (-1)) dX5_sweep_21 (by decide) rfl ?_
        exact r_iret E T dX5_sweep_22 (k4 c1 c2 c3)
set_option maxRecDepth 100000 in
set_option maxHeartbeats 800000 in
theorem sw_b {z : Zt} (E : EN z cX5_sweep RX5) {w0 : va_W} {P : Option Value → va_W → Prop} {lvl : Nat} (T : RT z (some .int) lvl w0 P 0 0) (hz : zn z = 6) {ad : Nat → Nat} {G : Nat → Nat → Int32} {V : Nat → Int32} {n : Nat} (x t9 i9 : Int32) 
    (k1 : t9 ≤ i9 → P (some (.int t9)) (WC (zk z) ad G V n)) 
    (k2 : ¬ (t9 ≤ i9) → WW z 0 0 (WC (zk z) ad G V n) 35 [(0, .ref (ad 0)), (1, .int x), (2, .int t9), (3, .int i9)] [.int x, .ref (ad 27)]) :
    WW z 0 0 (WC (zk z) ad G V n) 25 [(0, .ref (ad 0)), (1, .int x), (2, .int t9), (3, .int i9)] [] := by
  refine r_iload_n E (q := 26) 3 dX5_sweep_25 rfl rfl rfl ?_
  refine r_iload_n E (q := 27) 2 dX5_sweep_26 rfl rfl rfl ?_
  refine r_icmp_ge E (q := 30) 98 dX5_sweep_27 (by decide) rfl (fun c1 => ?_) (fun c1 => ?_)
  · refine r_iload_n E (q := 99) 2 dX5_sweep_98 rfl rfl rfl ?_
    exact r_iret E T dX5_sweep_99 (k1 c1)
  · refine r_aload_n E (q := 31) 0 dX5_sweep_30 rfl rfl rfl ?_
    refine r_get E (q := 34) fX5_46 0 wc_0 rfl dX5_sweep_31 rfl ?_
    refine r_iload_n E (q := 35) 1 dX5_sweep_34 rfl rfl rfl ?_
    exact k2 c1
set_option maxRecDepth 100000 in
set_option maxHeartbeats 800000 in
theorem sw_c {z : Zt} (E : EN z cX5_sweep RX5) {w0 : va_W} {P : Option Value → va_W → Prop} {lvl : Nat} (T : RT z (some .int) lvl w0 P 0 0) (hz : zn z = 6) {ad : Nat → Nat} {G : Nat → Nat → Int32} {V : Nat → Int32} {n : Nat} (hlv : 7 ≤ lvl) (x t9 i9 a9 : Int32) 
    (o1 : 0 ≤ a9 → vp_in a9 60) 
    (o2 : 0 ≤ a9 → (∀ rule : Int32, vp_in rule 18 → G 13 (ix a9) = uT (ix rule) → vp_in (G 14 (ix a9)) 60)) 
    (o3 : 0 ≤ a9 → (∀ rule : Int32, vp_in rule 18 → G 13 (ix a9) = uT (ix rule) → G 13 (ix (G 14 (ix a9))) = lT (ix rule) → uT (ix rule) = 1 → vp_in (G 17 (ix a9)) 40 ∧ (rule = 0 → vp_in (G 17 (ix (G 14 (ix a9)))) 40) ∧ (rule = 4 → vp_in (G 15 (ix (G 14 (ix a9)))) 60) ∧ (rule = 7 → vp_in (G 17 (ix (G 14 (ix a9)))) 40))) 
    (o4 : 0 ≤ a9 → (∀ rule : Int32, vp_in rule 18 → G 13 (ix a9) = uT (ix rule) → G 13 (ix (G 14 (ix a9))) = lT (ix rule) → ¬ uT (ix rule) = 1 → (rule = 8 → vp_in (G 17 (ix a9)) 40 ∧ vp_in (G 17 (ix (G 14 (ix a9)))) 40) ∧ (rule = 10 ∨ rule = 17 → vp_in (G 17 (ix (G 14 (ix a9)))) 40) ∧ (rule = 12 ∨ rule = 16 → vp_in (G 14 (ix (G 14 (ix a9)))) 60 ∧ vp_in (G 15 (ix (G 14 (ix a9)))) 60))) 
    (o5 : ¬ ((if 0 ≤ a9 then (fX2_leastRule G a9) else (-1) : Int32) < 0) → vp_in a9 60) 
    (o6 : ¬ ((if 0 ≤ a9 then (fX2_leastRule G a9) else (-1) : Int32) < 0) → vp_in (if 0 ≤ a9 then (fX2_leastRule G a9) else (-1)) 18) 
    (o7 : ¬ ((if 0 ≤ a9 then (fX2_leastRule G a9) else (-1) : Int32) < 0) → ((if 0 ≤ a9 then (fX2_leastRule G a9) else (-1)) = 7 → vp_in (G 14 (ix a9)) 60 ∧ vp_in (G 17 (ix (G 14 (ix a9)))) 40 ∧ vp_in (G 17 (ix a9)) 40))
    (k1 : (if 0 ≤ a9 then (fX2_leastRule G a9) else (-1) : Int32) < 0 → P (some (.int i9)) (WC (zk z) ad G V n)) 
    (k2 : ¬ ((if 0 ≤ a9 then (fX2_leastRule G a9) else (-1) : Int32) < 0) → ¬ (fX2_hasRoom G V a9 (if 0 ≤ a9 then (fX2_leastRule G a9) else (-1)) = 0) → WW z 0 0 (WC (zk z) ad G V n) 89 [(0, .ref (ad 0)), (1, .int x), (2, .int t9), (3, .int i9)] [.int (if 0 ≤ a9 then (fX2_leastRule G a9) else (-1)), .int a9, .ref (ad 27)]) 
    (k3 : ¬ ((if 0 ≤ a9 then (fX2_leastRule G a9) else (-1) : Int32) < 0) → fX2_hasRoom G V a9 (if 0 ≤ a9 then (fX2_leastRule G a9) else (-1)) = 0 → P (some (.int i9)) (WC (zk z) ad G V n)) :
    WW z 0 0 (WC (zk z) ad G V n) 38 [(0, .ref (ad 0)), (1, .int x), (2, .int t9), (3, .int i9)] [.int a9] := by
  refine r_istore E (q := 40) (lv' := [(0, .ref (ad 0)), (1, .int x), (2, .int t9), (3, .int i9), (4, .int a9)]) [1, 2, 3, 4, 0] dX5_sweep_38 (by rw [hz]; decide) rfl rfl ?_
  refine r_iload E (q := 42) 4 dX5_sweep_40 rfl rfl ?_
  refine r_join 58 (if 0 ≤ a9 then (fX2_leastRule G a9) else (-1)) (rest := []) ?_ (fun hj1 => ?_)
  · refine r_istore E (q := 60) (lv' := [(0, .ref (ad 0)), (1, .int x), (2, .int t9), (3, .int i9), (4, .int a9), (5, .int (if 0 ≤ a9 then (fX2_leastRule G a9) else (-1)))]) [1, 2, 3, 4, 5, 0] dX5_sweep_58 (by rw [hz]; decide) rfl rfl ?_
    refine r_iload E (q := 62) 5 dX5_sweep_60 rfl rfl ?_
    refine r_if_lt E (q := 65) 79 dX5_sweep_62 (by decide) rfl (fun c2 => ?_) (fun c2 => ?_)
    · refine r_iload_n E (q := 80) 3 dX5_sweep_79 rfl rfl rfl ?_
      exact r_iret E T dX5_sweep_80 (k1 c2)
    · refine r_aload_n E (q := 66) 0 dX5_sweep_65 rfl rfl rfl ?_
      refine r_get E (q := 69) fX5_46 0 wc_0 rfl dX5_sweep_66 rfl ?_
      refine r_iload E (q := 71) 4 dX5_sweep_69 rfl rfl ?_
      refine r_iload E (q := 73) 5 dX5_sweep_71 rfl rfl ?_
      refine rVi E (q := 76) cvX5_148 T.rr 27 wc_27 rfl [.int a9, .int (if 0 ≤ a9 then (fX2_leastRule G a9) else (-1))] (c_X2_hasRoom a9 (if 0 ≤ a9 then (fX2_leastRule G a9) else (-1)) (o5 c2) (o6 c2) (o7 c2)) (by omega) rfl rfl (Nat.le_of_ble_eq_true rfl) ⟨Nat.zero_le _, Nat.zero_le _⟩ dX5_sweep_73 rfl ?_
      refine r_if_ne E (q := 79) 81 dX5_sweep_76 (by decide) rfl (fun c3 => ?_) (fun c3 => ?_)
      · refine r_aload_n E (q := 82) 0 dX5_sweep_81 rfl rfl rfl ?_
        refine r_get E (q := 85) fX5_46 0 wc_0 rfl dX5_sweep_82 rfl ?_
        refine r_iload E (q := 87) 4 dX5_sweep_85 rfl rfl ?_
        refine r_iload E (q := 89) 5 dX5_sweep_87 rfl rfl ?_
        refine r_sub [0, 1, 2, 3] rfl ?_
        exact k2 c2 c3
      · refine r_iload_n E (q := 80) 3 dX5_sweep_79 rfl rfl rfl ?_
        exact r_iret E T dX5_sweep_80 (k3 c2 c3)
  · refine r_if_ge E (q := 45) 49 dX5_sweep_42 (by decide) rfl (fun c1 => ?_) (fun c1 => ?_)
    · refine r_aload_n E (q := 50) 0 dX5_sweep_49 rfl rfl rfl ?_
      refine r_get E (q := 53) fX5_46 0 wc_0 rfl dX5_sweep_50 rfl ?_
      refine r_iload E (q := 55) 4 dX5_sweep_53 rfl rfl ?_
      refine rVi E (q := 58) cvX5_160 T.rr 27 wc_27 rfl [.int a9] (c_X2_leastRule a9 (o1 c1) (o2 c1) (o3 c1) (o4 c1)) (by omega) rfl rfl (Nat.le_of_ble_eq_true rfl) ⟨Nat.zero_le _, Nat.zero_le _⟩ dX5_sweep_55 rfl ?_
      exact hj1 _ (if_pos c1).symm
    · refine r_iconst E (q := 46) (v := (-1)) dX5_sweep_45 (by decide) rfl ?_
      refine r_goto E 58 dX5_sweep_46 (by decide) ?_
      exact hj1 _ (if_neg c1).symm
set_option maxRecDepth 100000 in
set_option maxHeartbeats 800000 in
theorem sw_d {z : Zt} (E : EN z cX5_sweep RX5) {w0 : va_W} {P : Option Value → va_W → Prop} {lvl : Nat} (T : RT z (some .int) lvl w0 P 0 0) (hz : zn z = 6) {ad : Nat → Nat} {G : Nat → Nat → Int32} {V : Nat → Int32} {n : Nat} (x t9 i9 : Int32) 
    (k1 : WW z 0 0 (WC (zk z) ad G V n) 25 [(0, .ref (ad 0)), (1, .int x), (2, .int t9), (3, .int (i9 + 1))] []) :
    WW z 0 0 (WC (zk z) ad G V n) 92 [(0, .ref (ad 0)), (1, .int x), (2, .int t9), (3, .int i9)] [] := by
  refine r_iinc E (q := 95) (v := i9 + 1) (lv' := [(0, .ref (ad 0)), (1, .int x), (2, .int t9), (3, .int (i9 + 1))]) 3 [1, 2, 3, 0] dX5_sweep_92 rfl (by rfl) (by rw [hz]; decide) rfl rfl ?_
  refine r_goto E 25 dX5_sweep_95 (by decide) ?_
  exact k1 
