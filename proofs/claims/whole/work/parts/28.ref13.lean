set_option maxRecDepth 100000 in
set_option maxHeartbeats 800000 in
theorem d_p {z : Zt} (E : EN z cX6_does RX6) {w0 : va_W} {P : Option Value → va_W → Prop} {lvl : Nat} (T : RT z none lvl w0 P 0 0) (hz : zn z = 5) {ad : Nat → Nat} {G : Nat → Nat → Int32} {V : Nat → Int32} (hlv : 6 ≤ lvl) (x : Int32) (hx : vp_in x 60) 
    (k1 : ∀ (G1 : Nat → Nat → Int32), G1 = ug G 21 (ix x) 0 → ¬ (G1 10 (ix x) = 0) → WW z 0 0 (WM (zk z) ad G1 V) 111 [(0, .ref (ad 0)), (1, .int x), (2, .int (G 11 (ix x))), (3, .int 0)] []) 
    (k2 : ∀ (G1 : Nat → Nat → Int32), G1 = ug G 21 (ix x) 0 → G1 10 (ix x) = 0 → WW z 0 0 (WM (zk z) ad G1 V) 25 [(0, .ref (ad 0)), (1, .int x), (2, .int (G 11 (ix x))), (3, .int 0)] []) :
    WW z 0 0 (WM (zk z) ad G V) 0 [(0, .ref (ad 0)), (1, .int x)] [] := by
  refine r_aload_n E (q := 1) 0 dX6_does_0 rfl rfl rfl ?_
  refine r_get E (q := 4) fX6_41 0 wm_0 rfl dX6_does_1 rfl ?_
  refine r_iload_n E (q := 5) 1 dX6_does_4 rfl rfl rfl ?_
  refine r_iald E (q := 6) 11 wm_11 hx dX6_does_5 rfl ?_
  refine r_istore_n E (q := 7) (lv' := [(0, .ref (ad 0)), (1, .int x), (2, .int (G 11 (ix x)))]) [1, 2, 0] dX6_does_6 rfl (by rw [hz]; decide) rfl rfl ?_
  refine r_aload_n E (q := 8) 0 dX6_does_7 rfl rfl rfl ?_
  refine r_get E (q := 11) fX6_72 0 wm_0 rfl dX6_does_8 rfl ?_
  refine r_iload_n E (q := 12) 1 dX6_does_11 rfl rfl rfl ?_
  refine r_iconst E (q := 13) (v := 0) dX6_does_12 (by decide) rfl ?_
  refine r_iast E (q := 14) 21 wm_21 hx wmu_21 dX6_does_13 rfl ?_
  refine r_nGM (fun G1 eG1 => ?_)
  refine r_aload_n E (q := 15) 0 dX6_does_14 rfl rfl rfl ?_
  refine r_get E (q := 18) fX6_38 0 wm_0 rfl dX6_does_15 rfl ?_
  refine r_iload_n E (q := 19) 1 dX6_does_18 rfl rfl rfl ?_
  refine r_iald E (q := 20) 10 wm_10 hx dX6_does_19 rfl ?_
  refine r_if_ne E (q := 23) 109 dX6_does_20 (by decide) rfl (fun c1 => ?_) (fun c1 => ?_)
  · refine r_iconst E (q := 110) (v := 0) dX6_does_109 (by decide) rfl ?_
    refine r_istore_n E (q := 111) (lv' := [(0, .ref (ad 0)), (1, .int x), (2, .int (G 11 (ix x))), (3, .int 0)]) [1, 2, 3, 0] dX6_does_110 rfl (by rw [hz]; decide) rfl rfl ?_
    exact k1 G1 eG1 c1
  · refine r_iconst E (q := 24) (v := 0) dX6_does_23 (by decide) rfl ?_
    refine r_istore_n E (q := 25) (lv' := [(0, .ref (ad 0)), (1, .int x), (2, .int (G 11 (ix x))), (3, .int 0)]) [1, 2, 3, 0] dX6_does_24 rfl (by rw [hz]; decide) rfl rfl ?_
    exact k2 G1 eG1 c1
set_option maxRecDepth 100000 in
set_option maxHeartbeats 800000 in
theorem d_s {z : Zt} (E : EN z cX6_does RX6) {w0 : va_W} {P : Option Value → va_W → Prop} {lvl : Nat} (T : RT z none lvl w0 P 0 0) (hz : zn z = 5) {ad : Nat → Nat} {G : Nat → Nat → Int32} {V : Nat → Int32} (hlv : 6 ≤ lvl) (x : Int32) (hx : vp_in x 60) (a9 i9 : Int32) (ha : vp_in a9 4) (h_pl : ¬ G 1 (ix a9) ≤ i9 → ∃ a : Nat, fX6_place x i9 = nI a ∧ a + 6 ≤ 36000 ∧ 36000 < 2 ^ 31) (h_gv : ¬ G 1 (ix a9) ≤ i9 → ∀ t : Nat, t < 3 → vp_in (18 * a9 + 3 * i9 + nI t) 72) 
    (k1 : ∀ (G1 : Nat → Nat → Int32), G1 = ug G 21 (ix x) (G 1 (ix a9)) → G 1 (ix a9) ≤ i9 → P none (WM (zk z) ad G1 V)) 
    (k2 : ∀ (G1 G2 G3 G4 G5 G6 : Nat → Nat → Int32), G1 = ug G 20 (ix ((fX6_place x i9) + 0)) (G 2 (ix (((18 * a9) + (3 * i9)) + 0))) → G2 = ug G1 20 (ix ((fX6_place x i9) + 1)) (G1 2 (ix (((18 * a9) + (3 * i9)) + 1))) → G3 = ug G2 20 (ix ((fX6_place x i9) + 2)) (G2 2 (ix (((18 * a9) + (3 * i9)) + 2))) → G4 = ug G3 20 (ix ((fX6_place x i9) + 3)) 0 → G5 = ug G4 20 (ix ((fX6_place x i9) + 4)) 0 → G6 = ug G5 20 (ix ((fX6_place x i9) + 5)) 0 → ¬ (G 1 (ix a9) ≤ i9) → WW z 0 0 (WM (zk z) ad G6 V) 25 [(0, .ref (ad 0)), (1, .int x), (2, .int a9), (3, .int (i9 + 1))] []) :
    WW z 0 0 (WM (zk z) ad G V) 25 [(0, .ref (ad 0)), (1, .int x), (2, .int a9), (3, .int i9)] [] := by
  refine r_iload_n E (q := 26) 3 dX6_does_25 rfl rfl rfl ?_
  refine r_aload_n E (q := 27) 0 dX6_does_26 rfl rfl rfl ?_
  refine r_get E (q := 30) fX6_7 0 wm_0 rfl dX6_does_27 rfl ?_
  refine r_iload_n E (q := 31) 2 dX6_does_30 rfl rfl rfl ?_
  refine r_iald E (q := 32) 1 wm_1 ha dX6_does_31 rfl ?_
  refine r_icmp_ge E (q := 35) 96 dX6_does_32 (by decide) rfl (fun c1 => ?_) (fun c1 => ?_)
  · refine r_aload_n E (q := 97) 0 dX6_does_96 rfl rfl rfl ?_
    refine r_get E (q := 100) fX6_72 0 wm_0 rfl dX6_does_97 rfl ?_
    refine r_iload_n E (q := 101) 1 dX6_does_100 rfl rfl rfl ?_
    refine r_aload_n E (q := 102) 0 dX6_does_101 rfl rfl rfl ?_
    refine r_get E (q := 105) fX6_7 0 wm_0 rfl dX6_does_102 rfl ?_
    refine r_iload_n E (q := 106) 2 dX6_does_105 rfl rfl rfl ?_
    refine r_iald E (q := 107) 1 wm_1 ha dX6_does_106 rfl ?_
    refine r_iast E (q := 108) 21 wm_21 hx wmu_21 dX6_does_107 rfl ?_
    refine r_nGM (fun G1 eG1 => ?_)
    exact r_vret E T dX6_does_108 (k1 G1 eG1 c1)
  · refine r_iconst E (q := 36) (v := 0) dX6_does_35 (by decide) rfl ?_
    refine r_istore E (q := 38) (lv' := [(0, .ref (ad 0)), (1, .int x), (2, .int a9), (3, .int i9), (4, .int 0)]) [1, 2, 3, 4, 0] dX6_does_36 (by rw [hz]; decide) rfl rfl ?_
    refine r_iload E (q := 40) 4 dX6_does_38 rfl rfl ?_
    refine r_bipush E (q := 42) (v := 6) dX6_does_40 (by decide) rfl ?_
    refine r_icmp_ge E (q := 45) 90 dX6_does_42 (by decide) rfl (fun c2 => absurd c2 (by decide)) (fun _ => ?_)
    refine r_aload_n E (q := 46) 0 dX6_does_45 rfl rfl rfl ?_
    refine r_get E (q := 49) fX6_69 0 wm_0 rfl dX6_does_46 rfl ?_
    refine r_iload_n E (q := 50) 1 dX6_does_49 rfl rfl rfl ?_
    refine r_iload_n E (q := 51) 3 dX6_does_50 rfl rfl rfl ?_
    refine rSi E (q := 54) csX6_196 T.rr [.int x, .int i9] (c_X6_place x i9) (by omega) rfl rfl (Nat.le_of_ble_eq_true rfl) ⟨Nat.zero_le _, Nat.zero_le _⟩ dX6_does_51 rfl ?_
    refine r_iload E (q := 56) 4 dX6_does_54 rfl rfl ?_
    refine r_iadd E (q := 57) dX6_does_56 rfl ?_
    refine r_iload E (q := 59) 4 dX6_does_57 rfl rfl ?_
    refine r_iconst E (q := 60) (v := 3) dX6_does_59 (by decide) rfl ?_
    refine r_icmp_ge E (q := 63) 82 dX6_does_60 (by decide) rfl (fun c3 => absurd c3 (by decide)) (fun _ => ?_)
    refine r_aload_n E (q := 64) 0 dX6_does_63 rfl rfl rfl ?_
    refine r_get E (q := 67) fX6_13 0 wm_0 rfl dX6_does_64 rfl ?_
    refine r_bipush E (q := 69) (v := 18) dX6_does_67 (by decide) rfl ?_
    refine r_iload_n E (q := 70) 2 dX6_does_69 rfl rfl rfl ?_
    refine r_imul E (q := 71) dX6_does_70 rfl ?_
    refine r_iconst E (q := 72) (v := 3) dX6_does_71 (by decide) rfl ?_
    refine r_iload_n E (q := 73) 3 dX6_does_72 rfl rfl rfl ?_
    refine r_imul E (q := 74) dX6_does_73 rfl ?_
    refine r_iadd E (q := 75) dX6_does_74 rfl ?_
    refine r_iload E (q := 77) 4 dX6_does_75 rfl rfl ?_
    refine r_iadd E (q := 78) dX6_does_77 rfl ?_
    refine r_iald E (q := 79) 2 wm_2 (h_gv (by assumption) 0 (by omega)) dX6_does_78 rfl ?_
    refine r_goto E 83 dX6_does_79 (by decide) ?_
    refine r_iast E (q := 84) 20 wm_20 (off_in (m := 0) (h_pl (by assumption)) (by omega)) wmu_20 dX6_does_83 rfl ?_
    refine r_nGM (fun G1 eG1 => ?_)
    refine r_iinc E (q := 87) (v := 1) (lv' := [(0, .ref (ad 0)), (1, .int x), (2, .int a9), (3, .int i9), (4, .int 1)]) 4 [1, 2, 3, 4, 0] dX6_does_84 rfl (by rfl) (by rw [hz]; decide) rfl rfl ?_
    refine r_goto E 38 dX6_does_87 (by decide) ?_
    refine r_iload E (q := 40) 4 dX6_does_38 rfl rfl ?_
    refine r_bipush E (q := 42) (v := 6) dX6_does_40 (by decide) rfl ?_
    refine r_icmp_ge E (q := 45) 90 dX6_does_42 (by decide) rfl (fun c4 => absurd c4 (by decide)) (fun _ => ?_)
    refine r_aload_n E (q := 46) 0 dX6_does_45 rfl rfl rfl ?_
    refine r_get E (q := 49) fX6_69 0 wm_0 rfl dX6_does_46 rfl ?_
    refine r_iload_n E (q := 50) 1 dX6_does_49 rfl rfl rfl ?_
    refine r_iload_n E (q := 51) 3 dX6_does_50 rfl rfl rfl ?_
    refine rSi E (q := 54) csX6_196 T.rr [.int x, .int i9] (c_X6_place x i9) (by omega) rfl rfl (Nat.le_of_ble_eq_true rfl) ⟨Nat.zero_le _, Nat.zero_le _⟩ dX6_does_51 rfl ?_
    refine r_iload E (q := 56) 4 dX6_does_54 rfl rfl ?_
    refine r_iadd E (q := 57) dX6_does_56 rfl ?_
    refine r_iload E (q := 59) 4 dX6_does_57 rfl rfl ?_
    refine r_iconst E (q := 60) (v := 3) dX6_does_59 (by decide) rfl ?_
    refine r_icmp_ge E (q := 63) 82 dX6_does_60 (by decide) rfl (fun c5 => absurd c5 (by decide)) (fun _ => ?_)
    refine r_aload_n E (q := 64) 0 dX6_does_63 rfl rfl rfl ?_
    refine r_get E (q := 67) fX6_13 0 wm_0 rfl dX6_does_64 rfl ?_
    refine r_bipush E (q := 69) (v := 18) dX6_does_67 (by decide) rfl ?_
    refine r_iload_n E (q := 70) 2 dX6_does_69 rfl rfl rfl ?_
    refine r_imul E (q := 71) dX6_does_70 rfl ?_
    refine r_iconst E (q := 72) (v := 3) dX6_does_71 (by decide) rfl ?_
    refine r_iload_n E (q := 73) 3 dX6_does_72 rfl rfl rfl ?_
    refine r_imul E (q := 74) dX6_does_73 rfl ?_
    refine r_iadd E (q := 75) dX6_does_74 rfl ?_
    refine r_iload E (q := 77) 4 dX6_does_75 rfl rfl ?_
    refine r_iadd E (q := 78) dX6_does_77 rfl ?_
    refine r_iald E (q := 79) 2 wm_2 (h_gv (by assumption) 1 (by omega)) dX6_does_78 rfl ?_
    refine r_goto E 83 dX6_does_79 (by decide) ?_
    refine r_iast E (q := 84) 20 wm_20 (off_in (m := 1) (h_pl (by assumption)) (by omega)) wmu_20 dX6_does_83 rfl ?_
    refine r_nGM (fun G2 eG2 => ?_)
    refine r_iinc E (q := 87) (v := 2) (lv' := [(0, .ref (ad 0)), (1, .int x), (2, .int a9), (3, .int i9), (4, .int 2)]) 4 [1, 2, 3, 4, 0] dX6_does_84 rfl (by rfl) (by rw [hz]; decide) rfl rfl ?_
    refine r_goto E 38 dX6_does_87 (by decide) ?_
    refine r_iload E (q := 40) 4 dX6_does_38 rfl rfl ?_
    refine r_bipush E (q := 42) (v := 6) dX6_does_40 (by decide) rfl ?_
    refine r_icmp_ge E (q := 45) 90 dX6_does_42 (by decide) rfl (fun c6 => absurd c6 (by decide)) (fun _ => ?_)
    refine r_aload_n E (q := 46) 0 dX6_does_45 rfl rfl rfl ?_
    refine r_get E (q := 49) fX6_69 0 wm_0 rfl dX6_does_46 rfl ?_
    refine r_iload_n E (q := 50) 1 dX6_does_49 rfl rfl rfl ?_
    refine r_iload_n E (q := 51) 3 dX6_does_50 rfl rfl rfl ?_
    refine rSi E (q := 54) csX6_196 T.rr [.int x, .int i9] (c_X6_place x i9) (by omega) rfl rfl (Nat.le_of_ble_eq_true rfl) ⟨Nat.zero_le _, Nat.zero_le _⟩ dX6_does_51 rfl ?_
    refine r_iload E (q := 56) 4 dX6_does_54 rfl rfl ?_
    refine r_iadd E (q := 57) dX6_does_56 rfl ?_
    refine r_iload E (q := 59) 4 dX6_does_57 rfl rfl ?_
    refine r_iconst E (q := 60) (v := 3) dX6_does_59 (by decide) rfl ?_
    refine r_icmp_ge E (q := 63) 82 dX6_does_60 (by decide) rfl (fun c7 => absurd c7 (by decide)) (fun _ => ?_)
    refine r_aload_n E (q := 64) 0 dX6_does_63 rfl rfl rfl ?_
    refine r_get E (q := 67) fX6_13 0 wm_0 rfl dX6_does_64 rfl ?_
    refine r_bipush E (q := 69) (v := 18) dX6_does_67 (by decide) rfl ?_
    refine r_iload_n E (q := 70) 2 dX6_does_69 rfl rfl rfl ?_
    refine r_imul E (q := 71) dX6_does_70 rfl ?_
    refine r_iconst E (q := 72) (v := 3) dX6_does_71 (by decide) rfl ?_
    refine r_iload_n E (q := 73) 3 dX6_does_72 rfl rfl rfl ?_
    refine r_imul E (q := 74) dX6_does_73 rfl ?_
    refine r_iadd E (q := 75) dX6_does_74 rfl ?_
    refine r_iload E (q := 77) 4 dX6_does_75 rfl rfl ?_
    refine r_iadd E (q := 78) dX6_does_77 rfl ?_
    refine r_iald E (q := 79) 2 wm_2 (h_gv (by assumption) 2 (by omega)) dX6_does_78 rfl ?_
    refine r_goto E 83 dX6_does_79 (by decide) ?_
    refine r_iast E (q := 84) 20 wm_20 (off_in (m := 2) (h_pl (by assumption)) (by omega)) wmu_20 dX6_does_83 rfl ?_
    refine r_nGM (fun G3 eG3 => ?_)
    refine r_iinc E (q := 87) (v := 3) (lv' := [(0, .ref (ad 0)), (1, .int x), (2, .int a9), (3, .int i9), (4, .int 3)]) 4 [1, 2, 3, 4, 0] dX6_does_84 rfl (by rfl) (by rw [hz]; decide) rfl rfl ?_
    refine r_goto E 38 dX6_does_87 (by decide) ?_
    refine r_iload E (q := 40) 4 dX6_does_38 rfl rfl ?_
    refine r_bipush E (q := 42) (v := 6) dX6_does_40 (by decide) rfl ?_
    refine r_icmp_ge E (q := 45) 90 dX6_does_42 (by decide) rfl (fun c8 => absurd c8 (by decide)) (fun _ => ?_)
    refine r_aload_n E (q := 46) 0 dX6_does_45 rfl rfl rfl ?_
    refine r_get E (q := 49) fX6_69 0 wm_0 rfl dX6_does_46 rfl ?_
    refine r_iload_n E (q := 50) 1 dX6_does_49 rfl rfl rfl ?_
    refine r_iload_n E (q := 51) 3 dX6_does_50 rfl rfl rfl ?_
    refine rSi E (q := 54) csX6_196 T.rr [.int x, .int i9] (c_X6_place x i9) (by omega) rfl rfl (Nat.le_of_ble_eq_true rfl) ⟨Nat.zero_le _, Nat.zero_le _⟩ dX6_does_51 rfl ?_
    refine r_iload E (q := 56) 4 dX6_does_54 rfl rfl ?_
    refine r_iadd E (q := 57) dX6_does_56 rfl ?_
    refine r_iload E (q := 59) 4 dX6_does_57 rfl rfl ?_
    refine r_iconst E (q := 60) (v := 3) dX6_does_59 (by decide) rfl ?_
    refine r_icmp_ge E (q := 63) 82 dX6_does_60 (by decide) rfl (fun _ => ?_) (fun c9 => absurd c9 (by decide))
    refine r_iconst E (q := 83) (v := 0) dX6_does_82 (by decide) rfl ?_
    refine r_iast E (q := 84) 20 wm_20 (off_in (m := 3) (h_pl (by assumption)) (by omega)) wmu_20 dX6_does_83 rfl ?_
    refine r_nGM (fun G4 eG4 => ?_)
    refine r_iinc E (q := 87) (v := 4) (lv' := [(0, .ref (ad 0)), (1, .int x), (2, .int a9), (3, .int i9), (4, .int 4)]) 4 [1, 2, 3, 4, 0] dX6_does_84 rfl (by rfl) (by rw [hz]; decide) rfl rfl ?_
    refine r_goto E 38 dX6_does_87 (by decide) ?_
    refine r_iload E (q := 40) 4 dX6_does_38 rfl rfl ?_
    refine r_bipush E (q := 42) (v := 6) dX6_does_40 (by decide) rfl ?_
    refine r_icmp_ge E (q := 45) 90 dX6_does_42 (by decide) rfl (fun c10 => absurd c10 (by decide)) (fun _ => ?_)
    refine r_aload_n E (q := 46) 0 dX6_does_45 rfl rfl rfl ?_
    refine r_get E (q := 49) fX6_69 0 wm_0 rfl dX6_does_46 rfl ?_
    refine r_iload_n E (q := 50) 1 dX6_does_49 rfl rfl rfl ?_
    refine r_iload_n E (q := 51) 3 dX6_does_50 rfl rfl rfl ?_
    refine rSi E (q := 54) csX6_196 T.rr [.int x, .int i9] (c_X6_place x i9) (by omega) rfl rfl (Nat.le_of_ble_eq_true rfl) ⟨Nat.zero_le _, Nat.zero_le _⟩ dX6_does_51 rfl ?_
    refine r_iload E (q := 56) 4 dX6_does_54 rfl rfl ?_
    refine r_iadd E (q := 57) dX6_does_56 rfl ?_
    refine r_iload E (q := 59) 4 dX6_does_57 rfl rfl ?_
    refine r_iconst E (q := 60) (v := 3) dX6_does_59 (by decide) rfl ?_
    refine r_icmp_ge E (q := 63) 82 dX6_does_60 (by decide) rfl (fun _ => ?_) (fun c11 => absurd c11 (by decide))
    refine r_iconst E (q := 83) (v := 0) dX6_does_82 (by decide) rfl ?_
    refine r_iast E (q := 84) 20 wm_20 (off_in (m := 4) (h_pl (by assumption)) (by omega)) wmu_20 dX6_does_83 rfl ?_
    refine r_nGM (fun G5 eG5 => ?_)
    refine r_iinc E (q := 87) (v := 5) (lv' := [(0, .ref (ad 0)), (1, .int x), (2, .int a9), (3, .int i9), (4, .int 5)]) 4 [1, 2, 3, 4, 0] dX6_does_84 rfl (by rfl) (by rw [hz]; decide) rfl rfl ?_
    refine r_goto E 38 dX6_does_87 (by decide) ?_
    refine r_iload E (q := 40) 4 dX6_does_38 rfl rfl ?_
    refine r_bipush E (q := 42) (v := 6) dX6_does_40 (by decide) rfl ?_
    refine r_icmp_ge E (q := 45) 90 dX6_does_42 (by decide) rfl (fun c12 => absurd c12 (by decide)) (fun _ => ?_)
    refine r_aload_n E (q := 46) 0 dX6_does_45 rfl rfl rfl ?_
    refine r_get E (q := 49) fX6_69 0 wm_0 rfl dX6_does_46 rfl ?_
    refine r_iload_n E (q := 50) 1 dX6_does_49 rfl rfl rfl ?_
    refine r_iload_n E (q := 51) 3 dX6_does_50 rfl rfl rfl ?_
    refine rSi E (q := 54) csX6_196 T.rr [.int x, .int i9] (c_X6_place x i9) (by omega) rfl rfl (Nat.le_of_ble_eq_true rfl) ⟨Nat.zero_le _, Nat.zero_le _⟩ dX6_does_51 rfl ?_
    refine r_iload E (q := 56) 4 dX6_does_54 rfl rfl ?_
    refine r_iadd E (q := 57) dX6_does_56 rfl ?_
    refine r_iload E (q := 59) 4 dX6_does_57 rfl rfl ?_
    refine r_iconst E (q := 60) (v := 3) dX6_does_59 (by decide) rfl ?_
    refine r_icmp_ge E (q := 63) 82 dX6_does_60 (by decide) rfl (fun _ => ?_) (fun c13 => absurd c13 (by decide))
    refine r_iconst E (q := 83) (v := 0) dX6_does_82 (by decide) rfl ?_
    refine r_iast E (q := 84) 20 wm_20 (off_in (m := 5) (h_pl (by assumption)) (by omega)) wmu_20 dX6_does_83 rfl ?_
    refine r_nGM (fun G6 eG6 => ?_)
    refine r_iinc E (q := 87) (v := 6) (lv' := [(0, .ref (ad 0)), (1, .int x), (2, .int a9), (3, .int i9), (4, .int 6)]) 4 [1, 2, 3, 4, 0] dX6_does_84 rfl (by rfl) (by rw [hz]; decide) rfl rfl ?_
    refine r_goto E 38 dX6_does_87 (by decide) ?_
    refine r_iload E (q := 40) 4 dX6_does_38 rfl rfl ?_
    refine r_bipush E (q := 42) (v := 6) dX6_does_40 (by decide) rfl ?_
    refine r_icmp_ge E (q := 45) 90 dX6_does_42 (by decide) rfl (fun _ => ?_) (fun c14 => absurd c14 (by decide))
    refine r_iinc E (q := 93) (v := i9 + 1) (lv' := [(0, .ref (ad 0)), (1, .int x), (2, .int a9), (3, .int (i9 + 1)), (4, .int 6)]) 3 [1, 2, 3, 0, 4] dX6_does_90 rfl (by rfl) (by rw [hz]; decide) rfl rfl ?_
    refine r_goto E 25 dX6_does_93 (by decide) ?_
    refine r_sub [0, 1, 2, 3] rfl ?_
    exact k2 G1 G2 G3 G4 G5 G6 eG1 eG2 eG3 eG4 eG5 eG6 c1
set_option maxRecDepth 100000 in
set_option maxHeartbeats 800000 in
theorem d_t {z : Zt} (E : EN z cX6_does RX6) {w0 : va_W} {P : Option Value → va_W → Prop} {lvl : Nat} (T : RT z none lvl w0 P 0 0) (hz : zn z = 5) {ad : Nat → Nat} {G : Nat → Nat → Int32} {V : Nat → Int32} (hlv : 6 ≤ lvl) (x : Int32) (hx : vp_in x 60) (a9 i9 : Int32) (ha : vp_in a9 60) (Qt : (Nat → Nat → Int32) → (Nat → Int32) → Prop) (htk : ¬ G 21 (ix a9) ≤ i9 → V 5 = 0 → CT (zl z) (zk z) yX6_takes cX6_takes 5 none 5 [.ref (ad 0), .int x, .int i9, .int (fX6_place a9 i9)] (WM (zk z) ad G V) (fun v9 w' => v9 = none ∧ ∃ (G' : Nat → Nat → Int32) (V' : Nat → Int32), w' = WM (zk z) ad G' V' ∧ Qt G' V') 0 0) 
    (k1 : G 21 (ix a9) ≤ i9 → WW z 0 0 (WM (zk z) ad G V) 145 [(0, .ref (ad 0)), (1, .int x), (2, .int a9), (3, .int i9)] []) 
    (k2 : ¬ (G 21 (ix a9) ≤ i9) → ¬ (V 5 = 0) → WW z 0 0 (WM (zk z) ad G V) 145 [(0, .ref (ad 0)), (1, .int x), (2, .int a9), (3, .int i9)] []) 
    (k3 : ∀ (Ga : Nat → Nat → Int32) (Va : Nat → Int32), Qt Ga Va → ¬ (G 21 (ix a9) ≤ i9) → V 5 = 0 → WW z 0 0 (WM (zk z) ad Ga Va) 111 [(0, .ref (ad 0)), (1, .int x), (2, .int a9), (3, .int (i9 + 1))] []) :
    WW z 0 0 (WM (zk z) ad G V) 111 [(0, .ref (ad 0)), (1, .int x), (2, .int a9), (3, .int i9)] [] := by
  refine r_iload_n E (q := 112) 3 dX6_does_111 rfl rfl rfl ?_
  refine r_aload_n E (q := 113) 0 dX6_does_112 rfl rfl rfl ?_
  refine r_get E (q := 116) fX6_72 0 wm_0 rfl dX6_does_113 rfl ?_
  refine r_iload_n E (q := 117) 2 dX6_does_116 rfl rfl rfl ?_
  refine r_iald E (q := 118) 21 wm_21 ha dX6_does_117 rfl ?_
  refine r_icmp_ge E (q := 121) 145 dX6_does_118 (by decide) rfl (fun c1 => ?_) (fun c1 => ?_)
  · exact k1 c1
  · refine r_aload_n E (q := 122) 0 dX6_does_121 rfl rfl rfl ?_
    refine r_get E (q := 125) fX6_190 0 wm_0 rfl dX6_does_122 rfl ?_
    refine r_if_ne E (q := 128) 145 dX6_does_125 (by decide) rfl (fun c2 => ?_) (fun c2 => ?_)
    · exact k2 c1 c2
    · refine r_aload_n E (q := 129) 0 dX6_does_128 rfl rfl rfl ?_
      refine r_iload_n E (q := 130) 1 dX6_does_129 rfl rfl rfl ?_
      refine r_iload_n E (q := 131) 3 dX6_does_130 rfl rfl rfl ?_
      refine r_iload_n E (q := 132) 2 dX6_does_131 rfl rfl rfl ?_
      refine r_iload_n E (q := 133) 3 dX6_does_132 rfl rfl rfl ?_
      refine rSi E (q := 136) csX6_196 T.rr [.int a9, .int i9] (c_X6_place a9 i9) (by omega) rfl rfl (Nat.le_of_ble_eq_true rfl) ⟨Nat.zero_le _, Nat.zero_le _⟩ dX6_does_133 rfl ?_
      refine rV E cvX6_203 T.rr Fr.all 0 wm_0 rfl [.int x, .int i9, .int (fX6_place a9 i9)] (htk (by assumption) (by assumption)) (by omega) rfl rfl (Nat.le_of_ble_eq_true rfl) ⟨Nat.zero_le _, Nat.zero_le _⟩ dX6_does_136 (fun v9 w9 h9 => ?_)
      obtain ⟨rfl, Ga, Va, rfl, hq⟩ := h9
      show WW z 0 0 (WM (zk z) ad Ga Va) 139 [(0, .ref (ad 0)), (1, .int x), (2, .int a9), (3, .int i9)] []
      refine r_iinc E (q := 142) (v := i9 + 1) (lv' := [(0, .ref (ad 0)), (1, .int x), (2, .int a9), (3, .int (i9 + 1))]) 3 [1, 2, 3, 0] dX6_does_139 rfl (by rfl) (by rw [hz]; decide) rfl rfl ?_
      refine r_goto E 111 dX6_does_142 (by decide) ?_
      exact k3 Ga Va hq c1 c2
set_option maxRecDepth 100000 in
set_option maxHeartbeats 800000 in
theorem d_u {z : Zt} (E : EN z cX6_does RX6) {w0 : va_W} {P : Option Value → va_W → Prop} {lvl : Nat} (T : RT z none lvl w0 P 0 0) (hz : zn z = 5) {ad : Nat → Nat} {G : Nat → Nat → Int32} {V : Nat → Int32} (hlv : 6 ≤ lvl) (x : Int32) (hx : vp_in x 60) (a9 i9 : Int32) 
    (k1 : ¬ (G 10 (ix x) = 5) → P none (WM (zk z) ad G V)) 
    (k2 : G 10 (ix x) = 5 → WW z 0 0 (WM (zk z) ad G V) 157 [(0, .ref (ad 0)), (1, .int x), (2, .int a9), (3, .int 0)] []) :
    WW z 0 0 (WM (zk z) ad G V) 145 [(0, .ref (ad 0)), (1, .int x), (2, .int a9), (3, .int i9)] [] := by
  refine r_aload_n E (q := 146) 0 dX6_does_145 rfl rfl rfl ?_
  refine r_get E (q := 149) fX6_38 0 wm_0 rfl dX6_does_146 rfl ?_
  refine r_iload_n E (q := 150) 1 dX6_does_149 rfl rfl rfl ?_
  refine r_iald E (q := 151) 10 wm_10 hx dX6_does_150 rfl ?_
  refine r_iconst E (q := 152) (v := 5) dX6_does_151 (by decide) rfl ?_
  refine r_icmp_ne E (q := 155) 193 dX6_does_152 (by decide) rfl (fun c1 => ?_) (fun c1 => ?_)
  · exact r_vret E T dX6_does_193 (k1 c1)
  · refine r_iconst E (q := 156) (v := 0) dX6_does_155 (by decide) rfl ?_
    refine r_istore_n E (q := 157) (lv' := [(0, .ref (ad 0)), (1, .int x), (2, .int a9), (3, .int 0)]) [1, 2, 3, 0] dX6_does_156 rfl (by rw [hz]; decide) rfl rfl ?_
    exact k2 c1
set_option maxRecDepth 100000 in
set_option maxHeartbeats 800000 in
theorem d_v {z : Zt} (E : EN z cX6_does RX6) {w0 : va_W} {P : Option Value → va_W → Prop} {lvl : Nat} (T : RT z none lvl w0 P 0 0) (hz : zn z = 5) {ad : Nat → Nat} {G : Nat → Nat → Int32} {V : Nat → Int32} (hlv : 6 ≤ lvl) (x : Int32) (hx : vp_in x 60) (a9 i9 : Int32) (hb : vp_in (G 12 (ix x)) 60) (h_b9 : ¬ G 21 (ix (G 12 (ix x))) ≤ i9 → ∃ a : Nat, fX6_place (G 12 (ix x)) i9 = nI a ∧ a + 6 ≤ 36000 ∧ 36000 < 2 ^ 31) (h_to : ¬ G 21 (ix (G 12 (ix x))) ≤ i9 → ∃ a : Nat, fX6_place x (G 21 (ix x)) = nI a ∧ a + 6 ≤ 36000 ∧ 36000 < 2 ^ 31) 
    (k1 : G 21 (ix (G 12 (ix x))) ≤ i9 → P none (WM (zk z) ad G V)) 
    (k2 : ∀ (G1 : Nat → Nat → Int32), G1 = fX6_add_G G x (fX6_place (G 12 (ix x)) i9) → ¬ (G 21 (ix (G 12 (ix x))) ≤ i9) → WW z 0 0 (WM (zk z) ad G1 V) 157 [(0, .ref (ad 0)), (1, .int x), (2, .int a9), (3, .int (i9 + 1))] []) :
    WW z 0 0 (WM (zk z) ad G V) 157 [(0, .ref (ad 0)), (1, .int x), (2, .int a9), (3, .int i9)] [] := by
  refine r_iload_n E (q := 158) 3 dX6_does_157 rfl rfl rfl ?_
  refine r_aload_n E (q := 159) 0 dX6_does_158 rfl rfl rfl ?_
  refine r_get E (q := 162) fX6_72 0 wm_0 rfl dX6_does_159 rfl ?_
  refine r_aload_n E (q := 163) 0 dX6_does_162 rfl rfl rfl ?_
  refine r_get E (q := 166) fX6_44 0 wm_0 rfl dX6_does_163 rfl ?_
  refine r_iload_n E (q := 167) 1 dX6_does_166 rfl rfl rfl ?_
  refine r_iald E (q := 168) 12 wm_12 hx dX6_does_167 rfl ?_
  refine r_iald E (q := 169) 21 wm_21 hb dX6_does_168 rfl ?_
  refine r_icmp_ge E (q := 172) 193 dX6_does_169 (by decide) rfl (fun c1 => ?_) (fun c1 => ?_)
  · exact r_vret E T dX6_does_193 (k1 c1)
  · refine r_aload_n E (q := 173) 0 dX6_does_172 rfl rfl rfl ?_
    refine r_iload_n E (q := 174) 1 dX6_does_173 rfl rfl rfl ?_
    refine r_aload_n E (q := 175) 0 dX6_does_174 rfl rfl rfl ?_
    refine r_get E (q := 178) fX6_44 0 wm_0 rfl dX6_does_175 rfl ?_
    refine r_iload_n E (q := 179) 1 dX6_does_178 rfl rfl rfl ?_
    refine r_iald E (q := 180) 12 wm_12 hx dX6_does_179 rfl ?_
    refine r_iload_n E (q := 181) 3 dX6_does_180 rfl rfl rfl ?_
    refine rSi E (q := 184) csX6_196 T.rr [.int (G 12 (ix x)), .int i9] (c_X6_place (G 12 (ix x)) i9) (by omega) rfl rfl (Nat.le_of_ble_eq_true rfl) ⟨Nat.zero_le _, Nat.zero_le _⟩ dX6_does_181 rfl ?_
    refine rVv E (q := 187) cvX6_206 T.rr 0 wm_0 rfl [.int x, .int (fX6_place (G 12 (ix x)) i9)] (c_X6_add x (fX6_place (G 12 (ix x)) i9) hx (h_b9 (by assumption)) (h_to (by assumption))) (by omega) rfl rfl (Nat.le_of_ble_eq_true rfl) ⟨Nat.zero_le _, Nat.zero_le _⟩ dX6_does_184 rfl ?_
    refine r_nGM (fun G1 eG1 => ?_)
    refine r_iinc E (q := 190) (v := i9 + 1) (lv' := [(0, .ref (ad 0)), (1, .int x), (2, .int a9), (3, .int (i9 + 1))]) 3 [1, 2, 3, 0] dX6_does_187 rfl (by rfl) (by rw [hz]; decide) rfl rfl ?_
    refine r_goto E 157 dX6_does_190 (by decide) ?_
    exact k2 G1 eG1 c1
