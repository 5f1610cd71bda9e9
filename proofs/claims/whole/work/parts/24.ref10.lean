set_option maxRecDepth 100000 in
set_option maxHeartbeats 800000 in
theorem s_joins {z : Zt} (E : EN z cX6_joins RX6) {w0 : va_W} {P : Option Value → va_W → Prop} {lvl : Nat} (T : RT z none lvl w0 P 0 0) (hz : zn z = 8) {ad : Nat → Nat} {G : Nat → Nat → Int32} {V : Nat → Int32} (hlv : 4 ≤ lvl) (x at9 b9 j9 : Int32) (hx : vp_in x 60) (hb : vp_in b9 60) (h_at9 : ∃ a : Nat, at9 = nI a ∧ a + 6 ≤ 36000 ∧ 36000 < 2 ^ 31) (h_am : vp_in (at9 + G 13 (ix x)) 36000) (h_pl : ¬ G 21 (ix b9) ≤ j9 → ∃ a : Nat, fX6_place b9 j9 = nI a ∧ a + 6 ≤ 36000 ∧ 36000 < 2 ^ 31) (h_pm : ¬ G 21 (ix b9) ≤ j9 → vp_in (fX6_place b9 j9 + G 13 (ix x)) 36000) (h_t : ¬ G 21 (ix b9) ≤ j9 → ∃ a : Nat, fX6_place x (G 21 (ix x)) = nI a ∧ a + 6 ≤ 36000 ∧ 36000 < 2 ^ 31) (h_to : ¬ G 21 (ix b9) ≤ j9 → ∀ G1 : Nat → Nat → Int32, G1 = fX6_add_G G x at9 → ∃ a : Nat, fX6_place x (G1 21 (ix x) - 1) = nI a ∧ a + 6 ≤ 36000 ∧ 36000 < 2 ^ 31) 
    (k1 : G 21 (ix b9) ≤ j9 → P none (WM (zk z) ad G V)) 
    (k2 : ¬ (G 21 (ix b9) ≤ j9) → ¬ (G 20 (ix ((fX6_place b9 j9) + (G 13 (ix x)))) = G 20 (ix (at9 + (G 13 (ix x))))) → WW z 0 0 (WM (zk z) ad G V) 10 [(0, .ref (ad 0)), (1, .int x), (2, .int at9), (3, .int b9), (4, .int (j9 + 1))] []) 
    (k3 : ∀ (G1 G2 G3 G4 G5 G6 G7 : Nat → Nat → Int32), G1 = fX6_add_G G x at9 → G2 = ug G1 20 (ix ((fX6_place x ((G1 21 (ix x)) - 1)) + 0)) (if ((G1 14 (ix x)) >>> (0 &&& 31)) &&& 1 = 1 then (G1 20 (ix ((fX6_place b9 j9) + 0))) else (G1 20 (ix ((fX6_place x ((G1 21 (ix x)) - 1)) + 0)))) → G3 = ug G2 20 (ix ((fX6_place x ((G1 21 (ix x)) - 1)) + 1)) (if ((G2 14 (ix x)) >>> (1 &&& 31)) &&& 1 = 1 then (G2 20 (ix ((fX6_place b9 j9) + 1))) else (G2 20 (ix ((fX6_place x ((G1 21 (ix x)) - 1)) + 1)))) → G4 = ug G3 20 (ix ((fX6_place x ((G1 21 (ix x)) - 1)) + 2)) (if ((G3 14 (ix x)) >>> (2 &&& 31)) &&& 1 = 1 then (G3 20 (ix ((fX6_place b9 j9) + 2))) else (G3 20 (ix ((fX6_place x ((G1 21 (ix x)) - 1)) + 2)))) → G5 = ug G4 20 (ix ((fX6_place x ((G1 21 (ix x)) - 1)) + 3)) (if ((G4 14 (ix x)) >>> (3 &&& 31)) &&& 1 = 1 then (G4 20 (ix ((fX6_place b9 j9) + 3))) else (G4 20 (ix ((fX6_place x ((G1 21 (ix x)) - 1)) + 3)))) → G6 = ug G5 20 (ix ((fX6_place x ((G1 21 (ix x)) - 1)) + 4)) (if ((G5 14 (ix x)) >>> (4 &&& 31)) &&& 1 = 1 then (G5 20 (ix ((fX6_place b9 j9) + 4))) else (G5 20 (ix ((fX6_place x ((G1 21 (ix x)) - 1)) + 4)))) → G7 = ug G6 20 (ix ((fX6_place x ((G1 21 (ix x)) - 1)) + 5)) (if ((G6 14 (ix x)) >>> (5 &&& 31)) &&& 1 = 1 then (G6 20 (ix ((fX6_place b9 j9) + 5))) else (G6 20 (ix ((fX6_place x ((G1 21 (ix x)) - 1)) + 5)))) → ¬ (G 21 (ix b9) ≤ j9) → G 20 (ix ((fX6_place b9 j9) + (G 13 (ix x)))) = G 20 (ix (at9 + (G 13 (ix x)))) → WW z 0 0 (WM (zk z) ad G7 V) 10 [(0, .ref (ad 0)), (1, .int x), (2, .int at9), (3, .int b9), (4, .int (j9 + 1))] []) :
    WW z 0 0 (WM (zk z) ad G V) 10 [(0, .ref (ad 0)), (1, .int x), (2, .int at9), (3, .int b9), (4, .int j9)] [] := by
  refine r_iload E (q := 12) 4 dX6_joins_10 rfl rfl ?_
  refine r_aload_n E (q := 13) 0 dX6_joins_12 rfl rfl rfl ?_
  refine r_get E (q := 16) fX6_72 0 wm_0 rfl dX6_joins_13 rfl ?_
  refine r_iload_n E (q := 17) 3 dX6_joins_16 rfl rfl rfl ?_
  refine r_iald E (q := 18) 21 wm_21 hb dX6_joins_17 rfl ?_
  refine r_icmp_ge E (q := 21) 149 dX6_joins_18 (by decide) rfl (fun c1 => ?_) (fun c1 => ?_)
  · exact r_vret E T dX6_joins_149 (k1 c1)
  · refine r_iload_n E (q := 22) 3 dX6_joins_21 rfl rfl rfl ?_
    refine r_iload E (q := 24) 4 dX6_joins_22 rfl rfl ?_
    refine rSi E (q := 27) csX6_196 T.rr [.int b9, .int j9] (c_X6_place b9 j9) (by omega) rfl rfl (Nat.le_of_ble_eq_true rfl) ⟨Nat.zero_le _, Nat.zero_le _⟩ dX6_joins_24 rfl ?_
    refine r_istore E (q := 29) (lv' := [(0, .ref (ad 0)), (1, .int x), (2, .int at9), (3, .int b9), (4, .int j9), (5, .int (fX6_place b9 j9))]) [1, 2, 3, 4, 5, 0] dX6_joins_27 (by rw [hz]; decide) rfl rfl ?_
    refine r_aload_n E (q := 30) 0 dX6_joins_29 rfl rfl rfl ?_
    refine r_get E (q := 33) fX6_69 0 wm_0 rfl dX6_joins_30 rfl ?_
    refine r_iload E (q := 35) 5 dX6_joins_33 rfl rfl ?_
    refine r_aload_n E (q := 36) 0 dX6_joins_35 rfl rfl rfl ?_
    refine r_get E (q := 39) fX6_47 0 wm_0 rfl dX6_joins_36 rfl ?_
    refine r_iload_n E (q := 40) 1 dX6_joins_39 rfl rfl rfl ?_
    refine r_iald E (q := 41) 13 wm_13 hx dX6_joins_40 rfl ?_
    refine r_iadd E (q := 42) dX6_joins_41 rfl ?_
    refine r_iald E (q := 43) 20 wm_20 (h_pm (by assumption)) dX6_joins_42 rfl ?_
    refine r_aload_n E (q := 44) 0 dX6_joins_43 rfl rfl rfl ?_
    refine r_get E (q := 47) fX6_69 0 wm_0 rfl dX6_joins_44 rfl ?_
    refine r_iload_n E (q := 48) 2 dX6_joins_47 rfl rfl rfl ?_
    refine r_aload_n E (q := 49) 0 dX6_joins_48 rfl rfl rfl ?_
    refine r_get E (q := 52) fX6_47 0 wm_0 rfl dX6_joins_49 rfl ?_
    refine r_iload_n E (q := 53) 1 dX6_joins_52 rfl rfl rfl ?_
    refine r_iald E (q := 54) 13 wm_13 hx dX6_joins_53 rfl ?_
    refine r_iadd E (q := 55) dX6_joins_54 rfl ?_
    refine r_iald E (q := 56) 20 wm_20 h_am dX6_joins_55 rfl ?_
    refine r_icmp_ne E (q := 59) 143 dX6_joins_56 (by decide) rfl (fun c2 => ?_) (fun c2 => ?_)
    · refine r_iinc E (q := 146) (v := j9 + 1) (lv' := [(0, .ref (ad 0)), (1, .int x), (2, .int at9), (3, .int b9), (4, .int (j9 + 1)), (5, .int (fX6_place b9 j9))]) 4 [1, 2, 3, 4, 0, 5] dX6_joins_143 rfl (by rfl) (by rw [hz]; decide) rfl rfl ?_
      refine r_goto E 10 dX6_joins_146 (by decide) ?_
      refine r_sub [0, 1, 2, 3, 4] rfl ?_
      exact k2 c1 c2
    · refine r_aload_n E (q := 60) 0 dX6_joins_59 rfl rfl rfl ?_
      refine r_iload_n E (q := 61) 1 dX6_joins_60 rfl rfl rfl ?_
      refine r_iload_n E (q := 62) 2 dX6_joins_61 rfl rfl rfl ?_
      refine rVv E (q := 65) cvX6_206 T.rr 0 wm_0 rfl [.int x, .int at9] (c_X6_add x at9 hx h_at9 (h_t (by assumption))) (by omega) rfl rfl (Nat.le_of_ble_eq_true rfl) ⟨Nat.zero_le _, Nat.zero_le _⟩ dX6_joins_62 rfl ?_
      refine r_nGM (fun G1 eG1 => ?_)
      refine r_iload_n E (q := 66) 1 dX6_joins_65 rfl rfl rfl ?_
      refine r_aload_n E (q := 67) 0 dX6_joins_66 rfl rfl rfl ?_
      refine r_get E (q := 70) fX6_72 0 wm_0 rfl dX6_joins_67 rfl ?_
      refine r_iload_n E (q := 71) 1 dX6_joins_70 rfl rfl rfl ?_
      refine r_iald E (q := 72) 21 wm_21 hx dX6_joins_71 rfl ?_
      refine r_iconst E (q := 73) (v := 1) dX6_joins_72 (by decide) rfl ?_
      refine r_isub E (q := 74) dX6_joins_73 rfl ?_
      refine rSi E (q := 77) csX6_196 T.rr [.int x, .int ((G1 21 (ix x)) - 1)] (c_X6_place x ((G1 21 (ix x)) - 1)) (by omega) rfl rfl (Nat.le_of_ble_eq_true rfl) ⟨Nat.zero_le _, Nat.zero_le _⟩ dX6_joins_74 rfl ?_
      refine r_istore E (q := 79) (lv' := [(0, .ref (ad 0)), (1, .int x), (2, .int at9), (3, .int b9), (4, .int j9), (5, .int (fX6_place b9 j9)), (6, .int (fX6_place x ((G1 21 (ix x)) - 1)))]) [1, 2, 3, 4, 5, 6, 0] dX6_joins_77 (by rw [hz]; decide) rfl rfl ?_
      refine r_iconst E (q := 80) (v := 0) dX6_joins_79 (by decide) rfl ?_
      refine r_istore E (q := 82) (lv' := [(0, .ref (ad 0)), (1, .int x), (2, .int at9), (3, .int b9), (4, .int j9), (5, .int (fX6_place b9 j9)), (6, .int (fX6_place x ((G1 21 (ix x)) - 1))), (7, .int 0)]) [1, 2, 3, 4, 5, 6, 7, 0] dX6_joins_80 (by rw [hz]; decide) rfl rfl ?_
      refine r_iload E (q := 84) 7 dX6_joins_82 rfl rfl ?_
      refine r_bipush E (q := 86) (v := 6) dX6_joins_84 (by decide) rfl ?_
      refine r_icmp_ge E (q := 89) 143 dX6_joins_86 (by decide) rfl (fun c3 => absurd c3 (by decide)) (fun _ => ?_)
      refine r_aload_n E (q := 90) 0 dX6_joins_89 rfl rfl rfl ?_
      refine r_get E (q := 93) fX6_69 0 wm_0 rfl dX6_joins_90 rfl ?_
      refine r_iload E (q := 95) 6 dX6_joins_93 rfl rfl ?_
      refine r_iload E (q := 97) 7 dX6_joins_95 rfl rfl ?_
      refine r_iadd E (q := 98) dX6_joins_97 rfl ?_
      refine r_aload_n E (q := 99) 0 dX6_joins_98 rfl rfl rfl ?_
      refine r_get E (q := 102) fX6_50 0 wm_0 rfl dX6_joins_99 rfl ?_
      refine r_iload_n E (q := 103) 1 dX6_joins_102 rfl rfl rfl ?_
      refine r_iald E (q := 104) 14 wm_14 hx dX6_joins_103 rfl ?_
      refine r_iload E (q := 106) 7 dX6_joins_104 rfl rfl ?_
      refine r_ishr E (q := 107) dX6_joins_106 rfl ?_
      refine r_iconst E (q := 108) (v := 1) dX6_joins_107 (by decide) rfl ?_
      refine r_iand E (q := 109) dX6_joins_108 rfl ?_
      refine r_iconst E (q := 110) (v := 1) dX6_joins_109 (by decide) rfl ?_
      refine r_join 136 (if ((G1 14 (ix x)) >>> (0 &&& 31)) &&& 1 = 1 then (G1 20 (ix ((fX6_place b9 j9) + 0))) else (G1 20 (ix ((fX6_place x ((G1 21 (ix x)) - 1)) + 0)))) (rest := [.int ((fX6_place x ((G1 21 (ix x)) - 1)) + 0), .ref (ad 20)]) ?_ (fun hj1 => ?_)
      · refine r_iast E (q := 137) 20 wm_20 (off_in (m := 0) (h_to (by assumption) _ (by assumption)) (by omega)) wmu_20 dX6_joins_136 rfl ?_
        refine r_nGM (fun G2 eG2 => ?_)
        refine r_iinc E (q := 140) (v := 1) (lv' := [(0, .ref (ad 0)), (1, .int x), (2, .int at9), (3, .int b9), (4, .int j9), (5, .int (fX6_place b9 j9)), (6, .int (fX6_place x ((G1 21 (ix x)) - 1))), (7, .int 1)]) 7 [1, 2, 3, 4, 5, 6, 7, 0] dX6_joins_137 rfl (by rfl) (by rw [hz]; decide) rfl rfl ?_
        refine r_goto E 82 dX6_joins_140 (by decide) ?_
        refine r_iload E (q := 84) 7 dX6_joins_82 rfl rfl ?_
        refine r_bipush E (q := 86) (v := 6) dX6_joins_84 (by decide) rfl ?_
        refine r_icmp_ge E (q := 89) 143 dX6_joins_86 (by decide) rfl (fun c5 => absurd c5 (by decide)) (fun _ => ?_)
        refine r_aload_n E (q := 90) 0 dX6_joins_89 rfl rfl rfl ?_
        refine r_get E (q := 93) fX6_69 0 wm_0 rfl dX6_joins_90 rfl ?_
        refine r_iload E (q := 95) 6 dX6_joins_93 rfl rfl ?_
        refine r_iload E (q := 97) 7 dX6_joins_95 rfl rfl ?_
        refine r_iadd E (q := 98) dX6_joins_97 rfl ?_
        refine r_aload_n E (q := 99) 0 dX6_joins_98 rfl rfl rfl ?_
        refine r_get E (q := 102) fX6_50 0 wm_0 rfl dX6_joins_99 rfl ?_
        refine r_iload_n E (q := 103) 1 dX6_joins_102 rfl rfl rfl ?_
        refine r_iald E (q := 104) 14 wm_14 hx dX6_joins_103 rfl ?_
        refine r_iload E (q := 106) 7 dX6_joins_104 rfl rfl ?_
        refine r_ishr E (q := 107) dX6_joins_106 rfl ?_
        refine r_iconst E (q := 108) (v := 1) dX6_joins_107 (by decide) rfl ?_
        refine r_iand E (q := 109) dX6_joins_108 rfl ?_
        refine r_iconst E (q := 110) (v := 1) dX6_joins_109 (by decide) rfl ?_
        refine r_join 136 (if ((G2 14 (ix x)) >>> (1 &&& 31)) &&& 1 = 1 then (G2 20 (ix ((fX6_place b9 j9) + 1))) else (G2 20 (ix ((fX6_place x ((G1 21 (ix x)) - 1)) + 1)))) (rest := [.int ((fX6_place x ((G1 21 (ix x)) - 1)) + 1), .ref (ad 20)]) ?_ (fun hj2 => ?_)
        · refine r_iast E (q := 137) 20 wm_20 (off_in (m := 1) (h_to (by assumption) _ (by assumption)) (by omega)) wmu_20 dX6_joins_136 rfl ?_
          refine r_nGM (fun G3 eG3 => ?_)
          refine r_iinc E (q := 140) (v := 2) (lv' := [(0, .ref (ad 0)), (1, .int x), (2, .int at9), (3, .int b9), (4, .int j9), (5, .int (fX6_place b9 j9)), (6, .int (fX6_place x ((G1 21 (ix x)) - 1))), (7, .int 2)]) 7 [1, 2, 3, 4, 5, 6, 7, 0] dX6_joins_137 rfl (by rfl) (by rw [hz]; decide) rfl rfl ?_
          refine r_goto E 82 dX6_joins_140 (by decide) ?_
          refine r_iload E (q := 84) 7 dX6_joins_82 rfl rfl ?_
          refine r_bipush E (q := 86) (v := 6) dX6_joins_84 (by decide) rfl ?_
          refine r_icmp_ge E (q := 89) 143 dX6_joins_86 (by decide) rfl (fun c7 => absurd c7 (by decide)) (fun _ => ?_)
          refine r_aload_n E (q := 90) 0 dX6_joins_89 rfl rfl rfl ?_
          refine r_get E (q := 93) fX6_69 0 wm_0 rfl dX6_joins_90 rfl ?_
          refine r_iload E (q := 95) 6 dX6_joins_93 rfl rfl ?_
          refine r_iload E (q := 97) 7 dX6_joins_95 rfl rfl ?_
          refine r_iadd E (q := 98) dX6_joins_97 rfl ?_
          refine r_aload_n E (q := 99) 0 dX6_joins_98 rfl rfl rfl ?_
          refine r_get E (q := 102) fX6_50 0 wm_0 rfl dX6_joins_99 rfl ?_
          refine r_iload_n E (q := 103) 1 dX6_joins_102 rfl rfl rfl ?_
          refine r_iald E (q := 104) 14 wm_14 hx dX6_joins_103 rfl ?_
          refine r_iload E (q := 106) 7 dX6_joins_104 rfl rfl ?_
          refine r_ishr E (q := 107) dX6_joins_106 rfl ?_
          refine r_iconst E (q := 108) (v := 1) dX6_joins_107 (by decide) rfl ?_
          refine r_iand E (q := 109) dX6_joins_108 rfl ?_
          refine r_iconst E (q := 110) (v := 1) dX6_joins_109 (by decide) rfl ?_
          refine r_join 136 (if ((G3 14 (ix x)) >>> (2 &&& 31)) &&& 1 = 1 then (G3 20 (ix ((fX6_place b9 j9) + 2))) else (G3 20 (ix ((fX6_place x ((G1 21 (ix x)) - 1)) + 2)))) (rest := [.int ((fX6_place x ((G1 21 (ix x)) - 1)) + 2), .ref (ad 20)]) ?_ (fun hj3 => ?_)
          · refine r_iast E (q := 137) 20 wm_20 (off_in (m := 2) (h_to (by assumption) _ (by assumption)) (by omega)) wmu_20 dX6_joins_136 rfl ?_
            refine r_nGM (fun G4 eG4 => ?_)
            refine r_iinc E (q := 140) (v := 3) (lv' := [(0, .ref (ad 0)), (1, .int x), (2, .int at9), (3, .int b9), (4, .int j9), (5, .int (fX6_place b9 j9)), (6, .int (fX6_place x ((G1 21 (ix x)) - 1))), (7, .int 3)]) 7 [1, 2, 3, 4, 5, 6, 7, 0] dX6_joins_137 rfl (by rfl) (by rw [hz]; decide) rfl rfl ?_
            refine r_goto E 82 dX6_joins_140 (by decide) ?_
            refine r_iload E (q := 84) 7 dX6_joins_82 rfl rfl ?_
            refine r_bipush E (q := 86) (v := 6) dX6_joins_84 (by decide) rfl ?_
            refine r_icmp_ge E (q := 89) 143 dX6_joins_86 (by decide) rfl (fun c9 => absurd c9 (by decide)) (fun _ => ?_)
            refine r_aload_n E (q := 90) 0 dX6_joins_89 rfl rfl rfl ?_
            refine r_get E (q := 93) fX6_69 0 wm_0 rfl dX6_joins_90 rfl ?_
            refine r_iload E (q := 95) 6 dX6_joins_93 rfl rfl ?_
            refine r_iload E (q := 97) 7 dX6_joins_95 rfl rfl ?_
            refine r_iadd E (q := 98) dX6_joins_97 rfl ?_
            refine r_aload_n E (q := 99) 0 dX6_joins_98 rfl rfl rfl ?_
            refine r_get E (q := 102) fX6_50 0 wm_0 rfl dX6_joins_99 rfl ?_
            refine r_iload_n E (q := 103) 1 dX6_joins_102 rfl rfl rfl ?_
            refine r_iald E (q := 104) 14 wm_14 hx dX6_joins_103 rfl ?_
            refine r_iload E (q := 106) 7 dX6_joins_104 rfl rfl ?_
            refine r_ishr E (q := 107) dX6_joins_106 rfl ?_
            refine r_iconst E (q := 108) (v := 1) dX6_joins_107 (by decide) rfl ?_
            refine r_iand E (q := 109) dX6_joins_108 rfl ?_
            refine r_iconst E (q := 110) (v := 1) dX6_joins_109 (by decide) rfl ?_
            refine r_join 136 (if ((G4 14 (ix x)) >>> (3 &&& 31)) &&& 1 = 1 then (G4 20 (ix ((fX6_place b9 j9) + 3))) else (G4 20 (ix ((fX6_place x ((G1 21 (ix x)) - 1)) + 3)))) (rest := [.int ((fX6_place x ((G1 21 (ix x)) - 1)) + 3), .ref (ad 20)]) ?_ (fun hj4 => ?_)
            · refine r_iast E (q := 137) 20 wm_20 (off_in (m := 3) (h_to (by assumption) _ (by assumption)) (by omega)) wmu_20 dX6_joins_136 rfl ?_
              refine r_nGM (fun G5 eG5 => ?_)
              refine r_iinc E (q := 140) (v := 4) (lv' := [(0, .ref (ad 0)), (1, .int x), (2, .int at9), (3, .int b9), (4, .int j9), (5, .int (fX6_place b9 j9)), (6, .int (fX6_place x ((G1 21 (ix x)) - 1))), (7, .int 4)]) 7 [1, 2, 3, 4, 5, 6, 7, 0] dX6_joins_137 rfl (by rfl) (by rw [hz]; decide) rfl rfl ?_
              refine r_goto E 82 dX6_joins_140 (by decide) ?_
              refine r_iload E (q := 84) 7 dX6_joins_82 rfl rfl ?_
              refine r_bipush E (q := 86) (v := 6) dX6_joins_84 (by decide) rfl ?_
              refine r_icmp_ge E (q := 89) 143 dX6_joins_86 (by decide) rfl (fun c11 => absurd c11 (by decide)) (fun _ => ?_)
              refine r_aload_n E (q := 90) 0 dX6_joins_89 rfl rfl rfl ?_
              refine r_get E (q := 93) fX6_69 0 wm_0 rfl dX6_joins_90 rfl ?_
              refine r_iload E (q := 95) 6 dX6_joins_93 rfl rfl ?_
              refine r_iload E (q := 97) 7 dX6_joins_95 rfl rfl ?_
              refine r_iadd E (q := 98) dX6_joins_97 rfl ?_
              refine r_aload_n E (q := 99) 0 dX6_joins_98 rfl rfl rfl ?_
              refine r_get E (q := 102) fX6_50 0 wm_0 rfl dX6_joins_99 rfl ?_
              refine r_iload_n E (q := 103) 1 dX6_joins_102 rfl rfl rfl ?_
              refine r_iald E (q := 104) 14 wm_14 hx dX6_joins_103 rfl ?_
              refine r_iload E (q := 106) 7 dX6_joins_104 rfl rfl ?_
              refine r_ishr E (q := 107) dX6_joins_106 rfl ?_
              refine r_iconst E (q := 108) (v := 1) dX6_joins_107 (by decide) rfl ?_
              refine r_iand E (q := 109) dX6_joins_108 rfl ?_
              refine r_iconst E (q := 110) (v := 1) dX6_joins_109 (by decide) rfl ?_
              refine r_join 136 (if ((G5 14 (ix x)) >>> (4 &&& 31)) &&& 1 = 1 then (G5 20 (ix ((fX6_place b9 j9) + 4))) else (G5 20 (ix ((fX6_place x ((G1 21 (ix x)) - 1)) + 4)))) (rest := [.int ((fX6_place x ((G1 21 (ix x)) - 1)) + 4), .ref (ad 20)]) ?_ (fun hj5 => ?_)
              · refine r_iast E (q := 137) 20 wm_20 (off_in (m := 4) (h_to (by assumption) _ (by assumption)) (by omega)) wmu_20 dX6_joins_136 rfl ?_
                refine r_nGM (fun G6 eG6 => ?_)
                refine r_iinc E (q := 140) (v := 5) (lv' := [(0, .ref (ad 0)), (1, .int x), (2, .int at9), (3, .int b9), (4, .int j9), (5, .int (fX6_place b9 j9)), (6, .int (fX6_place x ((G1 21 (ix x)) - 1))), (7, .int 5)]) 7 [1, 2, 3, 4, 5, 6, 7, 0] dX6_joins_137 rfl (by rfl) (by rw [hz]; decide) rfl rfl ?_
                refine r_goto E 82 dX6_joins_140 (by decide) ?_
                refine r_iload E (q := 84) 7 dX6_joins_82 rfl rfl ?_
                refine r_bipush E (q := 86) (v := 6) dX6_joins_84 (by decide) rfl ?_
                refine r_icmp_ge E (q := 89) 143 dX6_joins_86 (by decide) rfl (fun c13 => absurd c13 (by decide)) (fun _ => ?_)
                refine r_aload_n E (q := 90) 0 dX6_joins_89 rfl rfl rfl ?_
                refine r_get E (q := 93) fX6_69 0 wm_0 rfl dX6_joins_90 rfl ?_
                refine r_iload E (q := 95) 6 dX6_joins_93 rfl rfl ?_
                refine r_iload E (q := 97) 7 dX6_joins_95 rfl rfl ?_
                refine r_iadd E (q := 98) dX6_joins_97 rfl ?_
                refine r_aload_n E (q := 99) 0 dX6_joins_98 rfl rfl rfl ?_
                refine r_get E (q := 102) fX6_50 0 wm_0 rfl dX6_joins_99 rfl ?_
                refine r_iload_n E (q := 103) 1 dX6_joins_102 rfl rfl rfl ?_
                refine r_iald E (q := 104) 14 wm_14 hx dX6_joins_103 rfl ?_
                refine r_iload E (q := 106) 7 dX6_joins_104 rfl rfl ?_
                refine r_ishr E (q := 107) dX6_joins_106 rfl ?_
                refine r_iconst E (q := 108) (v := 1) dX6_joins_107 (by decide) rfl ?_
                refine r_iand E (q := 109) dX6_joins_108 rfl ?_
                refine r_iconst E (q := 110) (v := 1) dX6_joins_109 (by decide) rfl ?_
                refine r_join 136 (if ((G6 14 (ix x)) >>> (5 &&& 31)) &&& 1 = 1 then (G6 20 (ix ((fX6_place b9 j9) + 5))) else (G6 20 (ix ((fX6_place x ((G1 21 (ix x)) - 1)) + 5)))) (rest := [.int ((fX6_place x ((G1 21 (ix x)) - 1)) + 5), .ref (ad 20)]) ?_ (fun hj6 => ?_)
                · refine r_iast E (q := 137) 20 wm_20 (off_in (m := 5) (h_to (by assumption) _ (by assumption)) (by omega)) wmu_20 dX6_joins_136 rfl ?_
                  refine r_nGM (fun G7 eG7 => ?_)
                  refine r_iinc E (q := 140) (v := 6) (lv' := [(0, .ref (ad 0)), (1, .int x), (2, .int at9), (3, .int b9), (4, .int j9), (5, .int (fX6_place b9 j9)), (6, .int (fX6_place x ((G1 21 (ix x)) - 1))), (7, .int 6)]) 7 [1, 2, 3, 4, 5, 6, 7, 0] dX6_joins_137 rfl (by rfl) (by rw [hz]; decide) rfl rfl ?_
                  refine r_goto E 82 dX6_joins_140 (by decide) ?_
                  refine r_iload E (q := 84) 7 dX6_joins_82 rfl rfl ?_
                  refine r_bipush E (q := 86) (v := 6) dX6_joins_84 (by decide) rfl ?_
                  refine r_icmp_ge E (q := 89) 143 dX6_joins_86 (by decide) rfl (fun _ => ?_) (fun c15 => absurd c15 (by decide))
                  refine r_iinc E (q := 146) (v := j9 + 1) (lv' := [(0, .ref (ad 0)), (1, .int x), (2, .int at9), (3, .int b9), (4, .int (j9 + 1)), (5, .int (fX6_place b9 j9)), (6, .int (fX6_place x ((G1 21 (ix x)) - 1))), (7, .int 6)]) 4 [1, 2, 3, 4, 0, 5, 6, 7] dX6_joins_143 rfl (by rfl) (by rw [hz]; decide) rfl rfl ?_
                  refine r_goto E 10 dX6_joins_146 (by decide) ?_
                  refine r_sub [0, 1, 2, 3, 4] rfl ?_
                  exact k3 G1 G2 G3 G4 G5 G6 G7 eG1 eG2 eG3 eG4 eG5 eG6 eG7 c1 c2
                · refine r_icmp_ne E (q := 113) 126 dX6_joins_110 (by decide) rfl (fun c14 => ?_) (fun c14 => ?_)
                  · refine r_aload_n E (q := 127) 0 dX6_joins_126 rfl rfl rfl ?_
                    refine r_get E (q := 130) fX6_69 0 wm_0 rfl dX6_joins_127 rfl ?_
                    refine r_iload E (q := 132) 6 dX6_joins_130 rfl rfl ?_
                    refine r_iload E (q := 134) 7 dX6_joins_132 rfl rfl ?_
                    refine r_iadd E (q := 135) dX6_joins_134 rfl ?_
                    refine r_iald E (q := 136) 20 wm_20 (off_in (m := 5) (h_to (by assumption) _ (by assumption)) (by omega)) dX6_joins_135 rfl ?_
                    exact hj6 _ (if_neg c14).symm
                  · refine r_aload_n E (q := 114) 0 dX6_joins_113 rfl rfl rfl ?_
                    refine r_get E (q := 117) fX6_69 0 wm_0 rfl dX6_joins_114 rfl ?_
                    refine r_iload E (q := 119) 5 dX6_joins_117 rfl rfl ?_
                    refine r_iload E (q := 121) 7 dX6_joins_119 rfl rfl ?_
                    refine r_iadd E (q := 122) dX6_joins_121 rfl ?_
                    refine r_iald E (q := 123) 20 wm_20 (off_in (m := 5) (h_pl (by assumption)) (by omega)) dX6_joins_122 rfl ?_
                    refine r_goto E 136 dX6_joins_123 (by decide) ?_
                    exact hj6 _ (if_pos c14).symm
              · refine r_icmp_ne E (q := 113) 126 dX6_joins_110 (by decide) rfl (fun c12 => ?_) (fun c12 => ?_)
                · refine r_aload_n E (q := 127) 0 dX6_joins_126 rfl rfl rfl ?_
                  refine r_get E (q := 130) fX6_69 0 wm_0 rfl dX6_joins_127 rfl ?_
                  refine r_iload E (q := 132) 6 dX6_joins_130 rfl rfl ?_
                  refine r_iload E (q := 134) 7 dX6_joins_132 rfl rfl ?_
                  refine r_iadd E (q := 135) dX6_joins_134 rfl ?_
                  refine r_iald E (q := 136) 20 wm_20 (off_in (m := 4) (h_to (by assumption) _ (by assumption)) (by omega)) dX6_joins_135 rfl ?_
                  exact hj5 _ (if_neg c12).symm
                · refine r_aload_n E (q := 114) 0 dX6_joins_113 rfl rfl rfl ?_
                  refine r_get E (q := 117) fX6_69 0 wm_0 rfl dX6_joins_114 rfl ?_
                  refine r_iload E (q := 119) 5 dX6_joins_117 rfl rfl ?_
                  refine r_iload E (q := 121) 7 dX6_joins_119 rfl rfl ?_
                  refine r_iadd E (q := 122) dX6_joins_121 rfl ?_
                  refine r_iald E (q := 123) 20 wm_20 (off_in (m := 4) (h_pl (by assumption)) (by omega)) dX6_joins_122 rfl ?_
                  refine r_goto E 136 dX6_joins_123 (by decide) ?_
                  exact hj5 _ (if_pos c12).symm
            · refine r_icmp_ne E (q := 113) 126 dX6_joins_110 (by decide) rfl (fun c10 => ?_) (fun c10 => ?_)
              · refine r_aload_n E (q := 127) 0 dX6_joins_126 rfl rfl rfl ?_
                refine r_get E (q := 130) fX6_69 0 wm_0 rfl dX6_joins_127 rfl ?_
                refine r_iload E (q := 132) 6 dX6_joins_130 rfl rfl ?_
                refine r_iload E (q := 134) 7 dX6_joins_132 rfl rfl ?_
                refine r_iadd E (q := 135) dX6_joins_134 rfl ?_
                refine r_iald E (q := 136) 20 wm_20 (off_in (m := 3) (h_to (by assumption) _ (by assumption)) (by omega)) dX6_joins_135 rfl ?_
                exact hj4 _ (if_neg c10).symm
              · refine r_aload_n E (q := 114) 0 dX6_joins_113 rfl rfl rfl ?_
                refine r_get E (q := 117) fX6_69 0 wm_0 rfl dX6_joins_114 rfl ?_
                refine r_iload E (q := 119) 5 dX6_joins_117 rfl rfl ?_
                refine r_iload E (q := 121) 7 dX6_joins_119 rfl rfl ?_
                refine r_iadd E (q := 122) dX6_joins_121 rfl ?_
                refine r_iald E (q := 123) 20 wm_20 (off_in (m := 3) (h_pl (by assumption)) (by omega)) dX6_joins_122 rfl ?_
                refine r_goto E 136 dX6_joins_123 (by decide) ?_
                exact hj4 _ (if_pos c10).symm
          · refine r_icmp_ne E (q := 113) 126 dX6_joins_110 (by decide) rfl (fun c8 => ?_) (fun c8 => ?_)
            · refine r_aload_n E (q := 127) 0 dX6_joins_126 rfl rfl rfl ?_
              refine r_get E (q := 130) fX6_69 0 wm_0 rfl dX6_joins_127 rfl ?_
              refine r_iload E (q := 132) 6 dX6_joins_130 rfl rfl ?_
              refine r_iload E (q := 134) 7 dX6_joins_132 rfl rfl ?_
              refine r_iadd E (q := 135) dX6_joins_134 rfl ?_
              refine r_iald E (q := 136) 20 wm_20 (off_in (m := 2) (h_to (by assumption) _ (by assumption)) (by omega)) dX6_joins_135 rfl ?_
              exact hj3 _ (if_neg c8).symm
            · refine r_aload_n E (q := 114) 0 dX6_joins_113 rfl rfl rfl ?_
              refine r_get E (q := 117) fX6_69 0 wm_0 rfl dX6_joins_114 rfl ?_
              refine r_iload E (q := 119) 5 dX6_joins_117 rfl rfl ?_
              refine r_iload E (q := 121) 7 dX6_joins_119 rfl rfl ?_
              refine r_iadd E (q := 122) dX6_joins_121 rfl ?_
              refine r_iald E (q := 123) 20 wm_20 (off_in (m := 2) (h_pl (by assumption)) (by omega)) dX6_joins_122 rfl ?_
              refine r_goto E 136 dX6_joins_123 (by decide) ?_
              exact hj3 _ (if_pos c8).symm
        · refine r_icmp_ne E (q := 113) 126 dX6_joins_110 (by decide) rfl (fun c6 => ?_) (fun c6 => ?_)
          · refine r_aload_n E (q := 127) 0 dX6_joins_126 rfl rfl rfl ?_
            refine r_get E (q := 130) fX6_69 0 wm_0 rfl dX6_joins_127 rfl ?_
            refine r_iload E (q := 132) 6 dX6_joins_130 rfl rfl ?_
            refine r_iload E (q := 134) 7 dX6_joins_132 rfl rfl ?_
            refine r_iadd E (q := 135) dX6_joins_134 rfl ?_
            refine r_iald E (q := 136) 20 wm_20 (off_in (m := 1) (h_to (by assumption) _ (by assumption)) (by omega)) dX6_joins_135 rfl ?_
            exact hj2 _ (if_neg c6).symm
          · refine r_aload_n E (q := 114) 0 dX6_joins_113 rfl rfl rfl ?_
            refine r_get E (q := 117) fX6_69 0 wm_0 rfl dX6_joins_114 rfl ?_
            refine r_iload E (q := 119) 5 dX6_joins_117 rfl rfl ?_
            refine r_iload E (q := 121) 7 dX6_joins_119 rfl rfl ?_
            refine r_iadd E (q := 122) dX6_joins_121 rfl ?_
            refine r_iald E (q := 123) 20 wm_20 (off_in (m := 1) (h_pl (by assumption)) (by omega)) dX6_joins_122 rfl ?_
            refine r_goto E 136 dX6_joins_123 (by decide) ?_
            exact hj2 _ (if_pos c6).symm
      · refine r_icmp_ne E (q := 113) 126 dX6_joins_110 (by decide) rfl (fun c4 => ?_) (fun c4 => ?_)
        · refine r_aload_n E (q := 127) 0 dX6_joins_126 rfl rfl rfl ?_
          refine r_get E (q := 130) fX6_69 0 wm_0 rfl dX6_joins_127 rfl ?_
          refine r_iload E (q := 132) 6 dX6_joins_130 rfl rfl ?_
          refine r_iload E (q := 134) 7 dX6_joins_132 rfl rfl ?_
          refine r_iadd E (q := 135) dX6_joins_134 rfl ?_
          refine r_iald E (q := 136) 20 wm_20 (off_in (m := 0) (h_to (by assumption) _ (by assumption)) (by omega)) dX6_joins_135 rfl ?_
          exact hj1 _ (if_neg c4).symm
        · refine r_aload_n E (q := 114) 0 dX6_joins_113 rfl rfl rfl ?_
          refine r_get E (q := 117) fX6_69 0 wm_0 rfl dX6_joins_114 rfl ?_
          refine r_iload E (q := 119) 5 dX6_joins_117 rfl rfl ?_
          refine r_iload E (q := 121) 7 dX6_joins_119 rfl rfl ?_
          refine r_iadd E (q := 122) dX6_joins_121 rfl ?_
          refine r_iald E (q := 123) 20 wm_20 (off_in (m := 0) (h_pl (by assumption)) (by omega)) dX6_joins_122 rfl ?_
          refine r_goto E 136 dX6_joins_123 (by decide) ?_
          exact hj1 _ (if_pos c4).symm
set_option maxRecDepth 100000 in
set_option maxHeartbeats 800000 in
theorem p_joins {z : Zt} (E : EN z cX6_joins RX6) {w0 : va_W} {P : Option Value → va_W → Prop} {lvl : Nat} (T : RT z none lvl w0 P 0 0) (hz : zn z = 8) {ad : Nat → Nat} {G : Nat → Nat → Int32} {V : Nat → Int32} (x at9 : Int32) (hx : vp_in x 60) 
    (k1 : WW z 0 0 (WM (zk z) ad G V) 10 [(0, .ref (ad 0)), (1, .int x), (2, .int at9), (3, .int (G 12 (ix x))), (4, .int 0)] []) :
    WW z 0 0 (WM (zk z) ad G V) 0 [(0, .ref (ad 0)), (1, .int x), (2, .int at9)] [] := by
  refine r_aload_n E (q := 1) 0 dX6_joins_0 rfl rfl rfl ?_
  refine r_get E (q := 4) fX6_44 0 wm_0 rfl dX6_joins_1 rfl ?_
  refine r_iload_n E (q := 5) 1 dX6_joins_4 rfl rfl rfl ?_
  refine r_iald E (q := 6) 12 wm_12 hx dX6_joins_5 rfl ?_
  refine r_istore_n E (q := 7) (lv' := [(0, .ref (ad 0)), (1, .int x), (2, .int at9), (3, .int (G 12 (ix x)))]) [1, 2, 3, 0] dX6_joins_6 rfl (by rw [hz]; decide) rfl rfl ?_
  refine r_iconst E (q := 8) (v := 0) dX6_joins_7 (by decide) rfl ?_
  refine r_istore E (q := 10) (lv' := [(0, .ref (ad 0)), (1, .int x), (2, .int at9), (3, .int (G 12 (ix x))), (4, .int 0)]) [1, 2, 3, 4, 0] dX6_joins_8 (by rw [hz]; decide) rfl rfl ?_
  exact k1 
theorem joinL_append (m : Nat) (s : Int32) (row y : List Int32) (bs : List (List Int32)) : joinL m s row (bs ++ [y]) = joinL m s row bs ++ (if y.getD m 0 = row.getD m 0 then [joinR s row y] else []) := by
  unfold joinL
  rw [List.filter_append, List.map_append]
  congr 1
  by_cases h : y.getD m 0 = row.getD m 0
  · rw [if_pos h]
    have : (y.getD m 0 == row.getD m 0) = true := by simpa using h
    simp only [List.filter, this, List.map_cons, List.map_nil]
  · rw [if_neg h]
    have : (y.getD m 0 == row.getD m 0) = false := by simpa using h
    simp only [List.filter, this, List.map_nil]
theorem joinL_len (m : Nat) (s : Int32) (row : List Int32) (bs : List (List Int32)) : (joinL m s row bs).length ≤ bs.length := by
  unfold joinL; rw [List.length_map]; exact List.length_filter_le _ _
theorem stM.last {G0 : Nat → Nat → Int32} {V0 : Nat → Int32} {n : Nat} {G : Nat → Nat → Int32} {V : Nat → Int32} {os : List (List Int32)} {r : List Int32} {e : Int32 × Int32} (h : stM G0 V0 n G V (os ++ [r], e)) : r = rd (G 20) (600 * n + 6 * os.length) := by
  have h5 := h.2.2.2.2.1
  dsimp only at h5
  rw [show (os ++ [r]).length = os.length + 1 by rw [List.length_append]; rfl, tb_succ] at h5
  have := (List.append_inj h5 (by
    have := congrArg List.length h5
    simp only [List.length_append, tb_len, List.length_singleton] at this
    rw [tb_len])).2
  simpa using this
theorem jn1 {G0 : Nat → Nat → Int32} {V0 : Nat → Int32} {n : Nat} {G G' : Nat → Nat → Int32} {V : Nat → Int32} {os : List (List Int32)} {r : List Int32} {e : Int32 × Int32} (h : stM G0 V0 n G V (os ++ [r], e)) {x t ot sh s : Int32} {m p : Nat} (hm : m < 6) (ht : ix t = 600 * n + 6 * os.length + m) (ho : ix ot = p + m) (hl : os.length < 100) (hp : p + 6 ≤ 600 * n ∨ 600 * n + 600 ≤ p) (hs : G0 14 (ix x) = s)
    (e1 : G' = ug G 20 (ix t) (if (G 14 (ix x) >>> sh) &&& 1 = 1 then G 20 (ix ot) else G 20 (ix t))) : stM G0 V0 n G' V (os ++ [r.set m (if (s >>> sh) &&& 1 = 1 then G0 20 (p + m) else r.getD m 0)], e) := by
  have hL := h.last
  have e14 : G 14 (ix x) = s := by rw [h.1 14 (by decide) (by decide) (by decide) (by decide) (by decide)]; exact hs
  have eo : G 20 (ix ot) = G0 20 (p + m) := by rw [ho]; exact h.2.2.2.1 (p + m) (by omega)
  have et : G 20 (ix t) = r.getD m 0 := by rw [hL, rd_get hm, ht]
  rw [e1, e14, eo, et, ht]
  exact h.put hm rfl hl
set_option maxHeartbeats 1600000 in
theorem c_joins {l : Launch} {k : Kt} {ad : Nat → Nat} {G0 : Nat → Nat → Int32} {V0 : Nat → Int32} {n bN a lb m : Nat} {x at9 s : Int32} (hx : x = nI n) (hn : n < 60) (hbn : bN < 60) (hne : bN ≠ n) (ha : at9 = nI a) (ha6 : a + 6 ≤ 36000) (hap : a + 6 ≤ 600 * n ∨ 600 * n + 600 ≤ a) (hb : G0 12 n = nI bN) (hlb : G0 21 bN = nI lb) (hm : m < 6) (hmn : G0 13 n = nI m) (hs : G0 14 n = s)
    {G : Nat → Nat → Int32} {V : Nat → Int32} {o : Ot} (hst : stM G0 V0 n G V o) (hcap : o.1.length + lb ≤ 100) :
    CT l k yX6_joins cX6_joins 8 none 4 [.ref (ad 0), .int x, .int at9] (WM k ad G V) (fun v w' => v = none ∧ ∃ G', w' = WM k ad G' V ∧ stM G0 V0 n G' V (o.1 ++ joinL m s (rd (G0 20) a) (tb (G0 20) (600 * bN) lb), o.2)) 0 0 := by
  refine ct_of (own := RX6) (lv0 := [(0, .ref (ad 0)), (1, .int x), (2, .int at9)]) (by decide) rfl (Nat.le_of_ble_eq_true rfl) rfl ?_
  rintro z rfl rfl hz - E T
  have exn : ix x = n := by rw [hx]; exact ix_nI (by omega)
  have hxv : vp_in x 60 := by rw [hx]; exact vp_in_nI hn (by omega)
  have step : ∀ (j : Nat) (j9 : Int32) (G : Nat → Nat → Int32), j9 = nI j → j ≤ lb → stM G0 V0 n G V (o.1 ++ joinL m s (rd (G0 20) a) (tb (G0 20) (600 * bN) j), o.2) → (j < lb → ∀ G' : Nat → Nat → Int32, stM G0 V0 n G' V (o.1 ++ joinL m s (rd (G0 20) a) (tb (G0 20) (600 * bN) (j + 1)), o.2) → WW z 0 0 (WM (zk z) ad G' V) 10 [(0, .ref (ad 0)), (1, .int x), (2, .int at9), (3, .int (nI bN)), (4, .int (j9 + 1))] []) → WW z 0 0 (WM (zk z) ad G V) 10 [(0, .ref (ad 0)), (1, .int x), (2, .int at9), (3, .int (nI bN)), (4, .int j9)] [] := by
    intro j j9 G hj h1 h K
    generalize hos : o.1 ++ joinL m s (rd (G0 20) a) (tb (G0 20) (600 * bN) j) = os at h
    have q21 : G 21 (ix (nI bN)) = nI lb := by rw [ix_nI (by omega), h.2.1 bN hne]; exact hlb
    have q13 : G 13 (ix x) = nI m := by rw [exn, h.1 13 (by decide) (by decide) (by decide) (by decide) (by decide)]; exact hmn
    have hlt : ¬ G 21 (ix (nI bN)) ≤ j9 → j < lb := fun c => by
      rcases Nat.lt_or_ge j lb with q | q
      · exact q
      · exact absurd (by rw [q21, hj]; exact nI_le q (by omega)) c
    have hol : j < lb → os.length < 100 := fun q => by
      rw [← hos, List.length_append]
      have := joinL_len m s (rd (G0 20) a) (tb (G0 20) (600 * bN) j)
      rw [tb_len] at this
      omega
    have hpl : j < lb → fX6_place (nI bN) j9 = nI (600 * bN + 6 * j) := fun q => by rw [hj]; exact place_n hbn (by omega)
    have hto : ∀ q : j < lb, fX6_place x ((fX6_add_G G x at9) 21 (ix x) - 1) = nI (600 * n + 6 * os.length) := fun q => by
      have h' := h.add hx hn ha ha6 hap (hol q)
      rw [exn, h'.2.2.1]
      show fX6_place x (nI (os ++ [rd (G0 20) a]).length - 1) = _
      rw [List.length_append]
      show fX6_place x (nI (os.length + 1) - 1) = _
      rw [nI_pred, hx]; exact place_n hn (hol q)
    have hcond : j < lb → (G 20 (ix (fX6_place (nI bN) j9 + G 13 (ix x))) = (rd (G0 20) (600 * bN + 6 * j)).getD m 0 ∧ G 20 (ix (at9 + G 13 (ix x))) = (rd (G0 20) a).getD m 0) := fun q => by
      rw [hpl q, q13, ha, nIadd (by omega), nIadd (by omega), rd_get hm, rd_get hm]
      exact ⟨h.2.2.2.1 _ (by omega), h.2.2.2.1 _ (by omega)⟩
    refine s_joins E T hz (Nat.le_refl 4) x at9 (nI bN) j9 hxv (vp_in_nI hbn (by omega)) ⟨a, ha, ha6, by decide⟩ (by rw [q13, ha, nI_add]; exact vp_in_nI (by omega) (by omega)) (fun c => ⟨_, hpl (hlt c), by have := hlt c; omega, by decide⟩) (fun c => by rw [hpl (hlt c), q13, nI_add]; have := hlt c; exact vp_in_nI (by omega) (by omega)) (fun c => h.to hx hn (hol (hlt c))) (fun c G1 e1 => ⟨600 * n + 6 * os.length, by rw [e1]; exact hto (hlt c), by have := hol (hlt c); omega, by decide⟩) (fun c => ⟨rfl, G, rfl, ?_⟩) (fun c cc => ?_) (fun G1 G2 G3 G4 G5 G6 G7 e1 e2 e3 e4 e5 e6 e7 c cc => ?_)
    · have e : j = lb := by
        rw [q21, hj, nI_leI (by omega) (by omega)] at c; omega
      rw [← e, hos]; exact h
    · have q := hlt c
      rw [(hcond q).1, (hcond q).2] at cc
      refine K q G ?_
      rw [tb_succ, joinL_append, if_neg cc, List.append_nil, hos]; exact h
    · have q := hlt c
      rw [(hcond q).1, (hcond q).2] at cc
      have s1 : stM G0 V0 n G1 V (os ++ [rd (G0 20) a], o.2) := by rw [e1]; exact h.add hx hn ha ha6 hap (hol q)
      have hT : fX6_place x (G1 21 (ix x) - 1) = nI (600 * n + 6 * os.length) := by rw [e1]; exact hto q
      have hl := hol q
      have tt : ∀ mm : Nat, mm < 6 → ix (fX6_place x (G1 21 (ix x) - 1) + nI mm) = 600 * n + 6 * os.length + mm := fun mm hmm => by rw [hT]; exact nIadd (by omega)
      have oo : ∀ mm : Nat, mm < 6 → ix (fX6_place (nI bN) j9 + nI mm) = 600 * bN + 6 * j + mm := fun mm hmm => by rw [hpl q]; exact nIadd (by omega)
      have hap2 : 600 * bN + 6 * j + 6 ≤ 600 * n ∨ 600 * n + 600 ≤ 600 * bN + 6 * j := by
        rcases Nat.lt_or_gt_of_ne hne with w | w
        · left; omega
        · right; omega
      have hs' : G0 14 (ix x) = s := by rw [exn]; exact hs
      have s2 := jn1 (m := 0) s1 (by omega) (tt 0 (by omega)) (oo 0 (by omega)) hl hap2 hs' e2
      have s3 := jn1 (m := 1) s2 (by omega) (tt 1 (by omega)) (oo 1 (by omega)) hl hap2 hs' e3
      have s4 := jn1 (m := 2) s3 (by omega) (tt 2 (by omega)) (oo 2 (by omega)) hl hap2 hs' e4
      have s5 := jn1 (m := 3) s4 (by omega) (tt 3 (by omega)) (oo 3 (by omega)) hl hap2 hs' e5
      have s6 := jn1 (m := 4) s5 (by omega) (tt 4 (by omega)) (oo 4 (by omega)) hl hap2 hs' e6
      have s7 := jn1 (m := 5) s6 (by omega) (tt 5 (by omega)) (oo 5 (by omega)) hl hap2 hs' e7
      refine K q G7 ?_
      rw [tb_succ, joinL_append, if_pos cc, ← List.append_assoc, hos]
      exact s7
  have main : ∀ (N j : Nat) (j9 : Int32) (G : Nat → Nat → Int32), j9 = nI j → j ≤ lb → lb ≤ j + N → stM G0 V0 n G V (o.1 ++ joinL m s (rd (G0 20) a) (tb (G0 20) (600 * bN) j), o.2) → WW z 0 0 (WM (zk z) ad G V) 10 [(0, .ref (ad 0)), (1, .int x), (2, .int at9), (3, .int (nI bN)), (4, .int j9)] [] := by
    intro N
    induction N with
    | zero => intro j j9 G hj h1 h2 h; exact step j j9 G hj h1 h (fun q => absurd q (by omega))
    | succ N ih => intro j j9 G hj h1 h2 h; exact step j j9 G hj h1 h (fun q G' h' => ih (j + 1) (j9 + 1) G' (by rw [hj]; exact nI_1 j) (by omega) (by omega) h')
  have q12 : G 12 (ix x) = nI bN := by rw [exn, hst.1 12 (by decide) (by decide) (by decide) (by decide) (by decide)]; exact hb
  refine p_joins E T hz x at9 hxv ?_
  rw [q12]
  exact main lb 0 0 G rfl (Nat.zero_le _) (by omega) (by rw [tb_0]; show stM G0 V0 n G V (o.1 ++ [], o.2); rw [List.append_nil]; exact hst)
