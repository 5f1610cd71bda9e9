set_option maxRecDepth 100000 in
set_option maxHeartbeats 800000 in
theorem s_joins {z : Zt} (E : EN z cX6_joins RX6) {w0 : va_W} {P : Option Value → va_W → Prop} {lvl : Nat} (T : RT z none lvl w0 P 0 0) (hz : zn z = 8) {ad : Nat → Nat} {G : Nat → Nat → Int32} {V : Nat → Int32} (hlv : 4 ≤ lvl) (x at9 b9 j9 : Int32) (hx : vp_in x 60) (hb : vp_in b9 60) (h_at9 : ∃ a : Nat, at9 = nI a ∧ a + 6 ≤ 36000 ∧ 36000 < 2 ^ 31) (h_am : vp_in (at9 + G 13 (ix x)) 36000) (h_pl : ¬ G 21 (ix b9) ≤ j9 → ∃ a : Nat, fX6_place b9 j9 = nI a ∧ a + 6 ≤ 36000 ∧ 36000 < 2 ^ 31) (h_pm : ¬ G 21 (ix b9) ≤ j9 → vp_in (fX6_place b9 j9 + G 13 (ix x)) 36000) (h_t : ¬ G 21 (ix b9) ≤ j9 → ∃ a : Nat, fX6_place x (G 21 (ix x)) = nI a ∧ a + 6 ≤ 36000 ∧ 36000 < 2 ^ 31) (h_to : ∀ G1 : Nat → Nat → Int32, G1 = fX6_add_G G x at9 → ∃ a : Nat, fX6_place x (G1 21 (ix x) - 1) = nI a ∧ a + 6 ≤ 36000 ∧ 36000 < 2 ^ 31) 
    (k1 : G 21 (ix b9) ≤ j9 → P none (WM (zk z) ad G V)) 
    (k2 : ¬ (G 21 (ix b9) ≤ j9) → ¬ (G 20 (ix ((fX6_place b9 j9) + (G 13 (ix x)))) = G 20 (ix (at9 + (G 13 (ix x))))) → WW z 0 0 (WM (zk z) ad G V) 10 [(0, .ref (ad 0)), (1, .int x), (2, .int at9), (3, .int b9), (4, .int (j9 + 1))] []) 
    (k3 : ∀ (G1 G2 G3 G4 G5 G6 G7 : Nat → Nat → Int32), G1 = fX6_add_G G x at9 → G2 = ug G1 20 (ix ((fX6_place x ((G1 21 (ix x)) - 1)) + 0)) (if ((G1 14 (ix x)) >>> (0 &&& 31)) &&& 1 = 1 then (G1 20 (ix ((fX6_place b9 j9) + 0))) else (G1 20 (ix ((fX6_place x ((G1 21 (ix x)) - 1)) + 0)))) → G3 = ug G2 20 (ix ((fX6_place x ((G1 21 (ix x)) - 1)) + 1)) (if ((G2 14 (ix x)) >>> (1 &&& 31)) &&& 1 = 1 then (G2 20 (ix ((fX6_place b9 j9) + 1))) else (G2 20 (ix ((fX6_place x ((G1 21 (ix x)) - 1)) + 1)))) → G4 = ug G3 20 (ix ((fX6_place x ((G1 21 (ix x)) - 1)) + 2)) (if ((G3 14 (ix x)) >>> (2 &&& 31)) &&& 1 = 1 then (G3 20 (ix ((fX6_place b9 j9) + 2))) else (G3 20 (ix ((fX6_place x ((G1 21 (ix x)) - 1)) + 2)))) → G5 = ug G4 20 (ix ((fX6_place x ((G1 21 (ix x)) - 1)) + 3)) (if ((G4 14 (ix x)) >>> (3 &&& 31)) &&& 1 = 1 then (G4 20 (ix ((fX6_place b9 j9) + 3))) else (G4 20 (ix ((fX6_place x ((G1 21 (ix x)) - 1)) + 3)))) → G6 = ug G5 20 (ix ((fX6_place x ((G1 21 (ix x)) - 1)) + 4)) (if ((G5 14 (ix x)) >>> (4 &&& 31)) &&& 1 = 1 then (G5 20 (ix ((fX6_place b9 j9) + 4))) else (G5 20 (ix ((fX6_place x ((G1 21 (ix x)) - 1)) + 4)))) → G7 = ug G6 20 (ix ((fX6_place x ((G1 21 (ix x)) - 1)) + 5)) (if ((G6 14 (ix x)) >>> (5 &&& 31)) &&& 1 = 1 then (G6 20 (ix ((fX6_place b9 j9) + 5))) else (G6 20 (ix ((fX6_place x ((G1 21 (ix x)) - 1)) + 5)))) → ¬ (G 21 (ix b9) ≤ j9) → G 20 (ix ((fX6_place b9 j9) + (G 13 (ix x)))) = G 20 (ix (at9 + (G 13 (ix x)))) → WW z 0 0 (WM (zk z) ad G7 V) 10 [(0, .ref (ad 0)), (1, .int x), (2, .int at9), (3, .int b9), (4, .int (j9 + 1))] []) :
    WW z 0 0 (WM (zk z) ad G V) 10 [(0, .ref (ad 0)), (1, .int x), (2, .int at9), (3, .int b9), (4, .int j9)] [] := by
  refine r_iload E (q := 12) 4 dX6_joins_10 rfl rfl ?_
  refine r_aload_n E (q := 13) 0 dX6_joins_12 rfl rfl rfl ?_
  refine r_get E (q := 16) fX6_72 0 wm_0 rfl dX6_joins_13 rfl ?_
  refine r_iload_n E (q := 17) 3 dX6_joins_16 rfl rfl rfl ?_
  refine r_iald E (q := 18) 21 wm_21 hb dX6_joins_17 rfl ?_
  refine r_icmp_ge E (q := 21) 149 dX6_joins_18 (by decide) rfl (fun c1 => ?_) (fun c1 => ?_)
  · exact r_vret E T dX6_joins_149 (k1 c1)
  · refine r_iload_n E (q := 22) 3 dX6_joins_21 rfl rfl rfl ?_
    refine r_iload E (q := 24) 4 dX6_joins_22 rfl rfl ?_
    refine rSi E (q := 27) csX6_196 T.rr [.int b9, .int j9] (c_X6_place b9 j9) (by omega) rfl rfl (Nat.le_of_ble_eq_true rfl) ⟨Nat.zero_le _, Nat.zero_le _⟩ dX6_joins_24 rfl ?_
    refine r_istore E (q := 29) (lv' := [(0, .ref (ad 0)), (1, .int x), (2, .int at9), (3, .int b9), (4, .int j9), (5, .int (fX6_place b9 j9))]) [1, 2, 3, 4, 5, 0] dX6_joins_27 (by rw [hz]; decide) rfl rfl ?_
    refine r_aload_n E (q := 30) 0 dX6_joins_29 rfl rfl rfl ?_
    refine r_get E (q := 33) fX6_69 0 wm_0 rfl dX6_joins_30 rfl ?_
    refine r_iload E (q := 35) 5 dX6_joins_33 rfl rfl ?_
    refine r_aload_n E (q := 36) 0 dX6_joins_35 rfl rfl rfl ?_
    refine r_get E (q := 39) fX6_47 0 wm_0 rfl dX6_joins_36 rfl ?_
    refine r_iload_n E (q := 40) 1 dX6_joins_39 rfl rfl rfl ?_
    refine r_iald E (q := 41) 13 wm_13 hx dX6_joins_40 rfl ?_
    refine r_iadd E (q := 42) dX6_joins_41 rfl ?_
    refine r_iald E (q := 43) 20 wm_20 (h_pm (by assumption)) dX6_joins_42 rfl ?_
    refine r_aload_n E (q := 44) 0 dX6_joins_43 rfl rfl rfl ?_
    refine r_get E (q := 47) fX6_69 0 wm_0 rfl dX6_joins_44 rfl ?_
    refine r_iload_n E (q := 48) 2 dX6_joins_47 rfl rfl rfl ?_
    refine r_aload_n E (q := 49) 0 dX6_joins_48 rfl rfl rfl ?_
    refine r_get E (q := 52) fX6_47 0 wm_0 rfl dX6_joins_49 rfl ?_
    refine r_iload_n E (q := 53) 1 dX6_joins_52 rfl rfl rfl ?_
    refine r_iald E (q := 54) 13 wm_13 hx dX6_joins_53 rfl ?_
    refine r_iadd E (q := 55) dX6_joins_54 rfl ?_
    refine r_iald E (q := 56) 20 wm_20 h_am dX6_joins_55 rfl ?_
    refine r_icmp_ne E (q := 59) 143 dX6_joins_56 (by decide) rfl (fun c2 => ?_) (fun c2 => ?_)
    · refine r_iinc E (q := 146) (v := j9 + 1) (lv' := [(0, .ref (ad 0)), (1, .int x), (2, .int at9), (3, .int b9), (4, .int (j9 + 1)), (5, .int (fX6_place b9 j9))]) 4 [1, 2, 3, 4, 0, 5] dX6_joins_143 rfl (by rfl) (by rw [hz]; decide) rfl rfl ?_
      refine r_goto E 10 dX6_joins_146 (by decide) ?_
      refine r_sub [0, 1, 2, 3, 4] rfl ?_
      exact k2 c1 c2
    · refine r_aload_n E (q := 60) 0 dX6_joins_59 rfl rfl rfl ?_
      refine r_iload_n E (q := 61) 1 dX6_joins_60 rfl rfl rfl ?_
      refine r_iload_n E (q := 62) 2 dX6_joins_61 rfl rfl rfl ?_
      refine rVv E (q := 65) cvX6_206 T.rr 0 wm_0 rfl [.int x, .int at9] (c_X6_add x at9 hx h_at9 (h_t (by assumption))) (by omega) rfl rfl (Nat.le_of_ble_eq_true rfl) ⟨Nat.zero_le _, Nat.zero_le _⟩ dX6_joins_62 rfl ?_
      refine r_nGM (fun G1 eG1 => ?_)
      refine r_iload_n E (q := 66) 1 dX6_joins_65 rfl rfl rfl ?_
      refine r_aload_n E (q := 67) 0 dX6_joins_66 rfl rfl rfl ?_
      refine r_get E (q := 70) fX6_72 0 wm_0 rfl dX6_joins_67 rfl ?_
      refine r_iload_n E (q := 71) 1 dX6_joins_70 rfl rfl rfl ?_
      refine r_iald E (q := 72) 21 wm_21 hx dX6_joins_71 rfl ?_
      refine r_iconst E (q := 73) (v := 1) dX6_joins_72 (by decide) rfl ?_
      refine r_isub E (q := 74) dX6_joins_73 rfl ?_
      refine rSi E (q := 77) csX6_196 T.rr [.int x, .int ((G1 21 (ix x)) - 1)] (c_X6_place x ((G1 21 (ix x)) - 1)) (by omega) rfl rfl (Nat.le_of_ble_eq_true rfl) ⟨Nat.zero_le _, Nat.zero_le _⟩ dX6_joins_74 rfl ?_
      refine r_istore E (q := 79) (lv' := [(0, .ref (ad 0)), (1, .int x), (2, .int at9), (3, .int b9), (4, .int j9), (5, .int (fX6_place b9 j9)), (6, .int (fX6_place x ((G1 21 (ix x)) - 1)))]) [1, 2, 3, 4, 5, 6, 0] dX6_joins_77 (by rw [hz]; decide) rfl rfl ?_
      refine r_iconst E (q := 80) (v := 0) dX6_joins_79 (by decide) rfl ?_
      refine r_istore E (q := 82) (lv' := [(0, .ref (ad 0)), (1, .int x), (2, .int at9), (3, .int b9), (4, .int j9), (5, .int (fX6_place b9 j9)), (6, .int (fX6_place x ((G1 21 (ix x)) - 1))), (7, .int 0)]) [1, 2, 3, 4, 5, 6, 7, 0] dX6_joins_80 (by rw [hz]; decide) rfl rfl ?_
      refine r_iload E (q := 84) 7 dX6_joins_82 rfl rfl ?_
      refine r_bipush E (q := 86) (v := 6) dX6_joins_84 (by decide) rfl ?_
      refine r_icmp_ge E (q := 89) 143 dX6_joins_86 (by decide) rfl (fun c3 => absurd c3 (by decide)) (fun _ => ?_)
      refine r_aload_n E (q := 90) 0 dX6_joins_89 rfl rfl rfl ?_
      refine r_get E (q := 93) fX6_69 0 wm_0 rfl dX6_joins_90 rfl ?_
      refine r_iload E (q := 95) 6 dX6_joins_93 rfl rfl ?_
      refine r_iload E (q := 97) 7 dX6_joins_95 rfl rfl ?_
      refine r_iadd E (q := 98) dX6_joins_97 rfl ?_
      refine r_aload_n E (q := 99) 0 dX6_joins_98 rfl rfl rfl ?_
      refine r_get E (q := 102) fX6_50 0 wm_0 rfl dX6_joins_99 rfl ?_
      refine r_iload_n E (q := 103) 1 dX6_joins_102 rfl rfl rfl ?_
      refine r_iald E (q := 104) 14 wm_14 hx dX6_joins_103 rfl ?_
      refine r_iload E (q := 106) 7 dX6_joins_104 rfl rfl ?_
      refine r_ishr E (q := 107) dX6_joins_106 rfl ?_
      refine r_iconst E (q := 108) (v := 1) dX6_joins_107 (by decide) rfl ?_
      refine r_iand E (q := 109) dX6_joins_108 rfl ?_
      refine r_iconst E (q := 110) (v := 1) dX6_joins_109 (by decide) rfl ?_
      refine r_join 136 (if ((G1 14 (ix x)) >>> (0 &&& 31)) &&& 1 = 1 then (G1 20 (ix ((fX6_place b9 j9) + 0))) else (G1 20 (ix ((fX6_place x ((G1 21 (ix x)) - 1)) + 0)))) (rest := [.int ((fX6_place x ((G1 21 (ix x)) - 1)) + 0), .ref (ad 20)]) ?_ (fun hj1 => ?_)
      · refine r_iast E (q := 137) 20 wm_20 (off_in (m := 0) (h_to _ (by assumption)) (by omega)) wmu_20 dX6_joins_136 rfl ?_
        refine r_nGM (fun G2 eG2 => ?_)
        refine r_iinc E (q := 140) (v := 1) (lv' := [(0, .ref (ad 0)), (1, .int x), (2, .int at9), (3, .int b9), (4, .int j9), (5, .int (fX6_place b9 j9)), (6, .int (fX6_place x ((G1 21 (ix x)) - 1))), (7, .int 1)]) 7 [1, 2, 3, 4, 5, 6, 7, 0] dX6_joins_137 rfl (by rfl) (by rw [hz]; decide) rfl rfl ?_
        refine r_goto E 82 dX6_joins_140 (by decide) ?_
        refine r_iload E (q := 84) 7 dX6_joins_82 rfl rfl ?_
        refine r_bipush E (q := 86) (v := 6) dX6_joins_84 (by decide) rfl ?_
        refine r_icmp_ge E (q := 89) 143 dX6_joins_86 (by decide) rfl (fun c5 => absurd c5 (by decide)) (fun _ => ?_)
        refine r_aload_n E (q := 90) 0 dX6_joins_89 rfl rfl rfl ?_
        refine r_get E (q := 93) fX6_69 0 wm_0 rfl dX6_joins_90 rfl ?_
        refine r_iload E (q := 95) 6 dX6_joins_93 rfl rfl ?_
        refine r_iload E (q := 97) 7 dX6_joins_95 rfl rfl ?_
        refine r_iadd E (q := 98) dX6_joins_97 rfl ?_
        refine r_aload_n E (q := 99) 0 dX6_joins_98 rfl rfl rfl ?_
        refine r_get E (q := 102) fX6_50 0 wm_0 rfl dX6_joins_99 rfl ?_
        refine r_iload_n E (q := 103) 1 dX6_joins_102 rfl rfl rfl ?_
        refine r_iald E (q := 104) 14 wm_14 hx dX6_joins_103 rfl ?_
        refine r_iload E (q := 106) 7 dX6_joins_104 rfl rfl ?_
        refine r_ishr E (q := 107) dX6_joins_106 rfl ?_
        refine r_iconst E (q := 108) (v := 1) dX6_joins_107 (by decide) rfl ?_
        refine r_iand E (q := 109) dX6_joins_108 rfl ?_
        refine r_iconst E (q := 110) (v := 1) dX6_joins_109 (by decide) rfl ?_
        refine r_join 136 (if ((G2 14 (ix x)) >>> (1 &&& 31)) &&& 1 = 1 then (G2 20 (ix ((fX6_place b9 j9) + 1))) else (G2 20 (ix ((fX6_place x ((G1 21 (ix x)) - 1)) + 1)))) (rest := [.int ((fX6_place x ((G1 21 (ix x)) - 1)) + 1), .ref (ad 20)]) ?_ (fun hj2 => ?_)
        · refine r_iast E (q := 137) 20 wm_20 (off_in (m := 1) (h_to _ (by assumption)) (by omega)) wmu_20 dX6_joins_136 rfl ?_
          refine r_nGM (fun G3 eG3 => ?_)
          refine r_iinc E (q := 140) (v := 2) (lv' := [(0, .ref (ad 0)), (1, .int x), (2, .int at9), (3, .int b9), (4, .int j9), (5, .int (fX6_place b9 j9)), (6, .int (fX6_place x ((G1 21 (ix x)) - 1))), (7, .int 2)]) 7 [1, 2, 3, 4, 5, 6, 7, 0] dX6_joins_137 rfl (by rfl) (by rw [hz]; decide) rfl rfl ?_
          refine r_goto E 82 dX6_joins_140 (by decide) ?_
          refine r_iload E (q := 84) 7 dX6_joins_82 rfl rfl ?_
          refine r_bipush E (q := 86) (v := 6) dX6_joins_84 (by decide) rfl ?_
          refine r_icmp_ge E (q := 89) 143 dX6_joins_86 (by decide) rfl (fun c7 => absurd c7 (by decide)) (fun _ => ?_)
          refine r_aload_n E (q := 90) 0 dX6_joins_89 rfl rfl rfl ?_
          refine r_get E (q := 93) fX6_69 0 wm_0 rfl dX6_joins_90 rfl ?_
          refine r_iload E (q := 95) 6 dX6_joins_93 rfl rfl ?_
          refine r_iload E (q := 97) 7 dX6_joins_95 rfl rfl ?_
          refine r_iadd E (q := 98) dX6_joins_97 rfl ?_
          refine r_aload_n E (q := 99) 0 dX6_joins_98 rfl rfl rfl ?_
          refine r_get E (q := 102) fX6_50 0 wm_0 rfl dX6_joins_99 rfl ?_
          refine r_iload_n E (q := 103) 1 dX6_joins_102 rfl rfl rfl ?_
          refine r_iald E (q := 104) 14 wm_14 hx dX6_joins_103 rfl ?_
          refine r_iload E (q := 106) 7 dX6_joins_104 rfl rfl ?_
          refine r_ishr E (q := 107) dX6_joins_106 rfl ?_
          refine r_iconst E (q := 108) (v := 1) dX6_joins_107 (by decide) rfl ?_
          refine r_iand E (q := 109) dX6_joins_108 rfl ?_
          refine r_iconst E (q := 110) (v := 1) dX6_joins_109 (by decide) rfl ?_
          refine r_join 136 (if ((G3 14 (ix x)) >>> (2 &&& 31)) &&& 1 = 1 then (G3 20 (ix ((fX6_place b9 j9) + 2))) else (G3 20 (ix ((fX6_place x ((G1 21 (ix x)) - 1)) + 2)))) (rest := [.int ((fX6_place x ((G1 21 (ix x)) - 1)) + 2), .ref (ad 20)]) ?_ (fun hj3 => ?_)
          · refine r_iast E (q := 137) 20 wm_20 (off_in (m := 2) (h_to _ (by assumption)) (by omega)) wmu_20 dX6_joins_136 rfl ?_
            refine r_nGM (fun G4 eG4 => ?_)
            refine r_iinc E (q := 140) (v := 3) (lv' := [(0, .ref (ad 0)), (1, .int x), (2, .int at9), (3, .int b9), (4, .int j9), (5, .int (fX6_place b9 j9)), (6, .int (fX6_place x ((G1 21 (ix x)) - 1))), (7, .int 3)]) 7 [1, 2, 3, 4, 5, 6, 7, 0] dX6_joins_137 rfl (by rfl) (by rw [hz]; decide) rfl rfl ?_
            refine r_goto E 82 dX6_joins_140 (by decide) ?_
            refine r_iload E (q := 84) 7 dX6_joins_82 rfl rfl ?_
            refine r_bipush E (q := 86) (v := 6) dX6_joins_84 (by decide) rfl ?_
            refine r_icmp_ge E (q := 89) 143 dX6_joins_86 (by decide) rfl (fun c9 => absurd c9 (by decide)) (fun _ => ?_)
            refine r_aload_n E (q := 90) 0 dX6_joins_89 rfl rfl rfl ?_
            refine r_get E (q := 93) fX6_69 0 wm_0 rfl dX6_joins_90 rfl ?_
            refine r_iload E (q := 95) 6 dX6_joins_93 rfl rfl ?_
            refine r_iload E (q := 97) 7 dX6_joins_95 rfl rfl ?_
            refine r_iadd E (q := 98) dX6_joins_97 rfl ?_
            refine r_aload_n E (q := 99) 0 dX6_joins_98 rfl rfl rfl ?_
            refine r_get E (q := 102) fX6_50 0 wm_0 rfl dX6_joins_99 rfl ?_
            refine r_iload_n E (q := 103) 1 dX6_joins_102 rfl rfl rfl ?_
            refine r_iald E (q := 104) 14 wm_14 hx dX6_joins_103 rfl ?_
            refine r_iload E (q := 106) 7 dX6_joins_104 rfl rfl ?_
            refine r_ishr E (q := 107) dX6_joins_106 rfl ?_
            refine r_iconst E (q := 108) (v := 1) dX6_joins_107 (by decide) rfl ?_
            refine r_iand E (q := 109) dX6_joins_108 rfl ?_
            refine r_iconst E (q := 110) (v := 1) dX6_joins_109 (by decide) rfl ?_
            refine r_join 136 (if ((G4 14 (ix x)) >>> (3 &&& 31)) &&& 1 = 1 then (G4 20 (ix ((fX6_place b9 j9) + 3))) else (G4 20 (ix ((fX6_place x ((G1 21 (ix x)) - 1)) + 3)))) (rest := [.int ((fX6_place x ((G1 21 (ix x)) - 1)) + 3), .ref (ad 20)]) ?_ (fun hj4 => ?_)
            · refine r_iast E (q := 137) 20 wm_20 (off_in (m := 3) (h_to _ (by assumption)) (by omega)) wmu_20 dX6_joins_136 rfl ?_
              refine r_nGM (fun G5 eG5 => ?_)
              refine r_iinc E (q := 140) (v := 4) (lv' := [(0, .ref (ad 0)), (1, .int x), (2, .int at9), (3, .int b9), (4, .int j9), (5, .int (fX6_place b9 j9)), (6, .int (fX6_place x ((G1 21 (ix x)) - 1))), (7, .int 4)]) 7 [1, 2, 3, 4, 5, 6, 7, 0] dX6_joins_137 rfl (by rfl) (by rw [hz]; decide) rfl rfl ?_
              refine r_goto E 82 dX6_joins_140 (by decide) ?_
              refine r_iload E (q := 84) 7 dX6_joins_82 rfl rfl ?_
              refine r_bipush E (q := 86) (v := 6) dX6_joins_84 (by decide) rfl ?_
              refine r_icmp_ge E (q := 89) 143 dX6_joins_86 (by decide) rfl (fun c11 => absurd c11 (by decide)) (fun _ => ?_)
              refine r_aload_n E (q := 90) 0 dX6_joins_89 rfl rfl rfl ?_
              refine r_get E (q := 93) fX6_69 0 wm_0 rfl dX6_joins_90 rfl ?_
              refine r_iload E (q := 95) 6 dX6_joins_93 rfl rfl ?_
              refine r_iload E (q := 97) 7 dX6_joins_95 rfl rfl ?_
              refine r_iadd E (q := 98) dX6_joins_97 rfl ?_
              refine r_aload_n E (q := 99) 0 dX6_joins_98 rfl rfl rfl ?_
              refine r_get E (q := 102) fX6_50 0 wm_0 rfl dX6_joins_99 rfl ?_
              refine r_iload_n E (q := 103) 1 dX6_joins_102 rfl rfl rfl ?_
              refine r_iald E (q := 104) 14 wm_14 hx dX6_joins_103 rfl ?_
              refine r_iload E (q := 106) 7 dX6_joins_104 rfl rfl ?_
              refine r_ishr E (q := 107) dX6_joins_106 rfl ?_
              refine r_iconst E (q := 108) (v := 1) dX6_joins_107 (by decide) rfl ?_
              refine r_iand E (q := 109) dX6_joins_108 rfl ?_
              refine r_iconst E (q := 110) (v := 1) dX6_joins_109 (by decide) rfl ?_
              refine r_join 136 (if ((G5 14 (ix x)) >>> (4 &&& 31)) &&& 1 = 1 then (G5 20 (ix ((fX6_place b9 j9) + 4))) else (G5 20 (ix ((fX6_place x ((G1 21 (ix x)) - 1)) + 4)))) (rest := [.int ((fX6_place x ((G1 21 (ix x)) - 1)) + 4), .ref (ad 20)]) ?_ (fun hj5 => ?_)
              · refine r_iast E (q := 137) 20 wm_20 (off_in (m := 4) (h_to _ (by assumption)) (by omega)) wmu_20 dX6_joins_136 rfl ?_
                refine r_nGM (fun G6 eG6 => ?_)
                refine r_iinc E (q := 140) (v := 5) (lv' := [(0, .ref (ad 0)), (1, .int x), (2, .int at9), (3, .int b9), (4, .int j9), (5, .int (fX6_place b9 j9)), (6, .int (fX6_place x ((G1 21 (ix x)) - 1))), (7, .int 5)]) 7 [1, 2, 3, 4, 5, 6, 7, 0] dX6_joins_137 rfl (by rfl) (by rw [hz]; decide) rfl rfl ?_
                refine r_goto E 82 dX6_joins_140 (by decide) ?_
                refine r_iload E (q := 84) 7 dX6_joins_82 rfl rfl ?_
                refine r_bipush E (q := 86) (v := 6) dX6_joins_84 (by decide) rfl ?_
                refine r_icmp_ge E (q := 89) 143 dX6_joins_86 (by decide) rfl (fun c13 => absurd c13 (by decide)) (fun _ => ?_)
                refine r_aload_n E (q := 90) 0 dX6_joins_89 rfl rfl rfl ?_
                refine r_get E (q := 93) fX6_69 0 wm_0 rfl dX6_joins_90 rfl ?_
                refine r_iload E (q := 95) 6 dX6_joins_93 rfl rfl ?_
                refine r_iload E (q := 97) 7 dX6_joins_95 rfl rfl ?_
                refine r_iadd E (q := 98) dX6_joins_97 rfl ?_
                refine r_aload_n E (q := 99) 0 dX6_joins_98 rfl rfl rfl ?_
                refine r_get E (q := 102) fX6_50 0 wm_0 rfl dX6_joins_99 rfl ?_
                refine r_iload_n E (q := 103) 1 dX6_joins_102 rfl rfl rfl ?_
                refine r_iald E (q := 104) 14 wm_14 hx dX6_joins_103 rfl ?_
                refine r_iload E (q := 106) 7 dX6_joins_104 rfl rfl ?_
                refine r_ishr E (q := 107) dX6_joins_106 rfl ?_
                refine r_iconst E (q := 108) (v := 1) dX6_joins_107 (by decide) rfl ?_
                refine r_iand E (q := 109) dX6_joins_108 rfl ?_
                refine r_iconst E (q := 110) (v := 1) dX6_joins_109 (by decide) rfl ?_
                refine r_join 136 (if ((G6 14 (ix x)) >>> (5 &&& 31)) &&& 1 = 1 then (G6 20 (ix ((fX6_place b9 j9) + 5))) else (G6 20 (ix ((fX6_place x ((G1 21 (ix x)) - 1)) + 5)))) (rest := [.int ((fX6_place x ((G1 21 (ix x)) - 1)) + 5), .ref (ad 20)]) ?_ (fun hj6 => ?_)
                · refine r_iast E (q := 137) 20 wm_20 (off_in (m := 5) (h_to _ (by assumption)) (by omega)) wmu_20 dX6_joins_136 rfl ?_
                  refine r_nGM (fun G7 eG7 => ?_)
                  refine r_iinc E (q := 140) (v := 6) (lv' := [(0, .ref (ad 0)), (1, .int x), (2, .int at9), (3, .int b9), (4, .int j9), (5, .int (fX6_place b9 j9)), (6, .int (fX6_place x ((G1 21 (ix x)) - 1))), (7, .int 6)]) 7 [1, 2, 3, 4, 5, 6, 7, 0] dX6_joins_137 rfl (by rfl) (by rw [hz]; decide) rfl rfl ?_
                  refine r_goto E 82 dX6_joins_140 (by decide) ?_
                  refine r_iload E (q := 84) 7 dX6_joins_82 rfl rfl ?_
                  refine r_bipush E (q := 86) (v := 6) dX6_joins_84 (by decide) rfl ?_
                  refine r_icmp_ge E (q := 89) 143 dX6_joins_86 (by decide) rfl (fun _ => ?_) (fun c15 => absurd c15 (by decide))
                  refine r_iinc E (q := 146) (v := j9 + 1) (lv' := [(0, .ref (ad 0)), (1, .int x), (2, .int at9), (3, .int b9), (4, .int (j9 + 1)), (5, .int (fX6_place b9 j9)), (6, .int (fX6_place x ((G1 21 (ix x)) - 1))), (7, .int 6)]) 4 [1, 2, 3, 4, 0, 5, 6, 7] dX6_joins_143 rfl (by rfl) (by rw [hz]; decide) rfl rfl ?_
                  refine r_goto E 10 dX6_joins_146 (by decide) ?_
                  refine r_sub [0, 1, 2, 3, 4] rfl ?_
                  exact k3 G1 G2 G3 G4 G5 G6 G7 eG1 eG2 eG3 eG4 eG5 eG6 eG7 c1 c2
                · refine r_icmp_ne E (q := 113) 126 dX6_joins_110 (by decide) rfl (fun c14 => ?_) (fun c14 => ?_)
                  · refine r_aload_n E (q := 127) 0 dX6_joins_126 rfl rfl rfl ?_
                    refine r_get E (q := 130) fX6_69 0 wm_0 rfl dX6_joins_127 rfl ?_
                    refine r_iload E (q := 132) 6 dX6_joins_130 rfl rfl ?_
                    refine r_iload E (q := 134) 7 dX6_joins_132 rfl rfl ?_
                    refine r_iadd E (q := 135) dX6_joins_134 rfl ?_
                    refine r_iald E (q := 136) 20 wm_20 (off_in (m := 5) (h_to _ (by assumption)) (by omega)) dX6_joins_135 rfl ?_
                    exact hj6 _ (if_neg c14).symm
                  · refine r_aload_n E (q := 114) 0 dX6_joins_113 rfl rfl rfl ?_
                    refine r_get E (q := 117) fX6_69 0 wm_0 rfl dX6_joins_114 rfl ?_
                    refine r_iload E (q := 119) 5 dX6_joins_117 rfl rfl ?_
                    refine r_iload E (q := 121) 7 dX6_joins_119 rfl rfl ?_
                    refine r_iadd E (q := 122) dX6_joins_121 rfl ?_
                    refine r_iald E (q := 123) 20 wm_20 (off_in (m := 5) (h_pl (by assumption)) (by omega)) dX6_joins_122 rfl ?_
                    refine r_goto E 136 dX6_joins_123 (by decide) ?_
                    exact hj6 _ (if_pos c14).symm
              · refine r_icmp_ne E (q := 113) 126 dX6_joins_110 (by decide) rfl (fun c12 => ?_) (fun c12 => ?_)
                · refine r_aload_n E (q := 127) 0 dX6_joins_126 rfl rfl rfl ?_
                  refine r_get E (q := 130) fX6_69 0 wm_0 rfl dX6_joins_127 rfl ?_
                  refine r_iload E (q := 132) 6 dX6_joins_130 rfl rfl ?_
                  refine r_iload E (q := 134) 7 dX6_joins_132 rfl rfl ?_
                  refine r_iadd E (q := 135) dX6_joins_134 rfl ?_
                  refine r_iald E (q := 136) 20 wm_20 (off_in (m := 4) (h_to _ (by assumption)) (by omega)) dX6_joins_135 rfl ?_
                  exact hj5 _ (if_neg c12).symm
                · refine r_aload_n E (q := 114) 0 dX6_joins_113 rfl rfl rfl ?_
                  refine r_get E (q := 117) fX6_69 0 wm_0 rfl dX6_joins_114 rfl ?_
                  refine r_iload E (q := 119) 5 dX6_joins_117 rfl rfl ?_
                  refine r_iload E (q := 121) 7 dX6_joins_119 rfl rfl ?_
                  refine r_iadd E (q := 122) dX6_joins_121 rfl ?_
                  refine r_iald E (q := 123) 20 wm_20 (off_in (m := 4) (h_pl (by assumption)) (by omega)) dX6_joins_122 rfl ?_
                  refine r_goto E 136 dX6_joins_123 (by decide) ?_
                  exact hj5 _ (if_pos c12).symm
            · refine r_icmp_ne E (q := 113) 126 dX6_joins_110 (by decide) rfl (fun c10 => ?_) (fun c10 => ?_)
              · refine r_aload_n E (q := 127) 0 dX6_joins_126 rfl rfl rfl ?_
                refine r_get E (q := 130) fX6_69 0 wm_0 rfl dX6_joins_127 rfl ?_
                refine r_iload E (q := 132) 6 dX6_joins_130 rfl rfl ?_
                refine r_iload E (q := 134) 7 dX6_joins_132 rfl rfl ?_
                refine r_iadd E (q := 135) dX6_joins_134 rfl ?_
                refine r_iald E (q := 136) 20 wm_20 (off_in (m := 3) (h_to _ (by assumption)) (by omega)) dX6_joins_135 rfl ?_
                exact hj4 _ (if_neg c10).symm
              · refine r_aload_n E (q := 114) 0 dX6_joins_113 rfl rfl rfl ?_
                refine r_get E (q := 117) fX6_69 0 wm_0 rfl dX6_joins_114 rfl ?_
                refine r_iload E (q := 119) 5 dX6_joins_117 rfl rfl ?_
                refine r_iload E (q := 121) 7 dX6_joins_119 rfl rfl ?_
                refine r_iadd E (q := 122) dX6_joins_121 rfl ?_
                refine r_iald E (q := 123) 20 wm_20 (off_in (m := 3) (h_pl (by assumption)) (by omega)) dX6_joins_122 rfl ?_
                refine r_goto E 136 dX6_joins_123 (by decide) ?_
                exact hj4 _ (if_pos c10).symm
          · refine r_icmp_ne E (q := 113) 126 dX6_joins_110 (by decide) rfl (fun c8 => ?_) (fun c8 => ?_)
            · refine r_aload_n E (q := 127) 0 dX6_joins_126 rfl rfl rfl ?_
              refine r_get E (q := 130) fX6_69 0 wm_0 rfl dX6_joins_127 rfl ?_
              refine r_iload E (q := 132) 6 dX6_joins_130 rfl rfl ?_
              refine r_iload E (q := 134) 7 dX6_joins_132 rfl rfl ?_
              refine r_iadd E (q := 135) dX6_joins_134 rfl ?_
              refine r_iald E (q := 136) 20 wm_20 (off_in (m := 2) (h_to _ (by assumption)) (by omega)) dX6_joins_135 rfl ?_
              exact hj3 _ (if_neg c8).symm
            · refine r_aload_n E (q := 114) 0 dX6_joins_113 rfl rfl rfl ?_
              refine r_get E (q := 117) fX6_69 0 wm_0 rfl dX6_joins_114 rfl ?_
              refine r_iload E (q := 119) 5 dX6_joins_117 rfl rfl ?_
              refine r_iload E (q := 121) 7 dX6_joins_119 rfl rfl ?_
              refine r_iadd E (q := 122) dX6_joins_121 rfl ?_
              refine r_iald E (q := 123) 20 wm_20 (off_in (m := 2) (h_pl (by assumption)) (by omega)) dX6_joins_122 rfl ?_
              refine r_goto E 136 dX6_joins_123 (by decide) ?_
              exact hj3 _ (if_pos c8).symm
        · refine r_icmp_ne E (q := 113) 126 dX6_joins_110 (by decide) rfl (fun c6 => ?_) (fun c6 => ?_)
          · refine r_aload_n E (q := 127) 0 dX6_joins_126 rfl rfl rfl ?_
            refine r_get E (q := 130) fX6_69 0 wm_0 rfl dX6_joins_127 rfl ?_
            refine r_iload E (q := 132) 6 dX6_joins_130 rfl rfl ?_
            refine r_iload E (q := 134) 7 dX6_joins_132 rfl rfl ?_
            refine r_iadd E (q := 135) dX6_joins_134 rfl ?_
            refine r_iald E (q := 136) 20 wm_20 (off_in (m := 1) (h_to _ (by assumption)) (by omega)) dX6_joins_135 rfl ?_
            exact hj2 _ (if_neg c6).symm
          · refine r_aload_n E (q := 114) 0 dX6_joins_113 rfl rfl rfl ?_
            refine r_get E (q := 117) fX6_69 0 wm_0 rfl dX6_joins_114 rfl ?_
            refine r_iload E (q := 119) 5 dX6_joins_117 rfl rfl ?_
            refine r_iload E (q := 121) 7 dX6_joins_119 rfl rfl ?_
            refine r_iadd E (q := 122) dX6_joins_121 rfl ?_
            refine r_iald E (q := 123) 20 wm_20 (off_in (m := 1) (h_pl (by assumption)) (by omega)) dX6_joins_122 rfl ?_
            refine r_goto E 136 dX6_joins_123 (by decide) ?_
            exact hj2 _ (if_pos c6).symm
      · refine r_icmp_ne E (q := 113) 126 dX6_joins_110 (by decide) rfl (fun c4 => ?_) (fun c4 => ?_)
        · refine r_aload_n E (q := 127) 0 dX6_joins_126 rfl rfl rfl ?_
          refine r_get E (q := 130) fX6_69 0 wm_0 rfl dX6_joins_127 rfl ?_
          refine r_iload E (q := 132) 6 dX6_joins_130 rfl rfl ?_
          refine r_iload E (q := 134) 7 dX6_joins_132 rfl rfl ?_
          refine r_iadd E (q := 135) dX6_joins_134 rfl ?_
          refine r_iald E (q := 136) 20 wm_20 (off_in (m := 0) (h_to _ (by assumption)) (by omega)) dX6_joins_135 rfl ?_
          exact hj1 _ (if_neg c4).symm
        · refine r_aload_n E (q := 114) 0 dX6_joins_113 rfl rfl rfl ?_
          refine r_get E (q := 117) fX6_69 0 wm_0 rfl dX6_joins_114 rfl ?_
          refine r_iload E (q := 119) 5 dX6_joins_117 rfl rfl ?_
          refine r_iload E (q := 121) 7 dX6_joins_119 rfl rfl ?_
          refine r_iadd E (q := 122) dX6_joins_121 rfl ?_
          refine r_iald E (q := 123) 20 wm_20 (off_in (m := 0) (h_pl (by assumption)) (by omega)) dX6_joins_122 rfl ?_
          refine r_goto E 136 dX6_joins_123 (by decide) ?_
          exact hj1 _ (if_pos c4).symm
