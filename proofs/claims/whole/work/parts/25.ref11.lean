set_option maxRecDepth 100000 in
set_option maxHeartbeats 800000 in
theorem p_folds {z : Zt} (E : EN z cX6_folds RX6) {w0 : va_W} {P : Option Value → va_W → Prop} {lvl : Nat} (T : RT z none lvl w0 P 0 0) (hz : zn z = 6) {ad : Nat → Nat} {G : Nat → Nat → Int32} {V : Nat → Int32} (x at9 : Int32) 
    (k1 : WW z 0 0 (WM (zk z) ad G V) 2 [(0, .ref (ad 0)), (1, .int x), (2, .int at9), (3, .int 0)] []) :
    WW z 0 0 (WM (zk z) ad G V) 0 [(0, .ref (ad 0)), (1, .int x), (2, .int at9)] [] := by
  refine r_iconst E (q := 1) (v := 0) dX6_folds_0 (by decide) rfl ?_
  refine r_istore_n E (q := 2) (lv' := [(0, .ref (ad 0)), (1, .int x), (2, .int at9), (3, .int 0)]) [1, 2, 3, 0] dX6_folds_1 rfl (by rw [hz]; decide) rfl rfl ?_
  exact k1 
set_option maxRecDepth 100000 in
set_option maxHeartbeats 800000 in
theorem s_folds {z : Zt} (E : EN z cX6_folds RX6) {w0 : va_W} {P : Option Value → va_W → Prop} {lvl : Nat} (T : RT z none lvl w0 P 0 0) (hz : zn z = 6) {ad : Nat → Nat} {G : Nat → Nat → Int32} {V : Nat → Int32} (hlv : 1 ≤ lvl) (x at9 i9 : Int32) (hx : vp_in x 60) (h_am : vp_in (at9 + G 13 (ix x)) 36000) (h_pm : ¬ G 21 (ix x) ≤ i9 → vp_in (fX6_place x i9 + G 13 (ix x)) 36000) 
    (k1 : G 21 (ix x) ≤ i9 → WW z 0 0 (WM (zk z) ad G V) 51 [(0, .ref (ad 0)), (1, .int x), (2, .int at9), (3, .int i9)] []) 
    (k2 : ¬ (G 21 (ix x) ≤ i9) → G 20 (ix ((fX6_place x i9) + (G 13 (ix x)))) = G 20 (ix (at9 + (G 13 (ix x)))) → WW z 0 0 (WM (zk z) ad G V) 51 [(0, .ref (ad 0)), (1, .int x), (2, .int at9), (3, .int i9)] []) 
    (k3 : ¬ (G 21 (ix x) ≤ i9) → ¬ (G 20 (ix ((fX6_place x i9) + (G 13 (ix x)))) = G 20 (ix (at9 + (G 13 (ix x))))) → WW z 0 0 (WM (zk z) ad G V) 2 [(0, .ref (ad 0)), (1, .int x), (2, .int at9), (3, .int (i9 + 1))] []) :
    WW z 0 0 (WM (zk z) ad G V) 2 [(0, .ref (ad 0)), (1, .int x), (2, .int at9), (3, .int i9)] [] := by
  refine r_iload_n E (q := 3) 3 dX6_folds_2 rfl rfl rfl ?_
  refine r_aload_n E (q := 4) 0 dX6_folds_3 rfl rfl rfl ?_
  refine r_get E (q := 7) fX6_72 0 wm_0 rfl dX6_folds_4 rfl ?_
  refine r_iload_n E (q := 8) 1 dX6_folds_7 rfl rfl rfl ?_
  refine r_iald E (q := 9) 21 wm_21 hx dX6_folds_8 rfl ?_
  refine r_icmp_ge E (q := 12) 51 dX6_folds_9 (by decide) rfl (fun c1 => ?_) (fun c1 => ?_)
  · exact k1 c1
  · refine r_aload_n E (q := 13) 0 dX6_folds_12 rfl rfl rfl ?_
    refine r_get E (q := 16) fX6_69 0 wm_0 rfl dX6_folds_13 rfl ?_
    refine r_iload_n E (q := 17) 1 dX6_folds_16 rfl rfl rfl ?_
    refine r_iload_n E (q := 18) 3 dX6_folds_17 rfl rfl rfl ?_
    refine rSi E (q := 21) csX6_196 T.rr [.int x, .int i9] (c_X6_place x i9) (by omega) rfl rfl (Nat.le_of_ble_eq_true rfl) ⟨Nat.zero_le _, Nat.zero_le _⟩ dX6_folds_18 rfl ?_
    refine r_aload_n E (q := 22) 0 dX6_folds_21 rfl rfl rfl ?_
    refine r_get E (q := 25) fX6_47 0 wm_0 rfl dX6_folds_22 rfl ?_
    refine r_iload_n E (q := 26) 1 dX6_folds_25 rfl rfl rfl ?_
    refine r_iald E (q := 27) 13 wm_13 hx dX6_folds_26 rfl ?_
    refine r_iadd E (q := 28) dX6_folds_27 rfl ?_
    refine r_iald E (q := 29) 20 wm_20 (h_pm (by assumption)) dX6_folds_28 rfl ?_
    refine r_aload_n E (q := 30) 0 dX6_folds_29 rfl rfl rfl ?_
    refine r_get E (q := 33) fX6_69 0 wm_0 rfl dX6_folds_30 rfl ?_
    refine r_iload_n E (q := 34) 2 dX6_folds_33 rfl rfl rfl ?_
    refine r_aload_n E (q := 35) 0 dX6_folds_34 rfl rfl rfl ?_
    refine r_get E (q := 38) fX6_47 0 wm_0 rfl dX6_folds_35 rfl ?_
    refine r_iload_n E (q := 39) 1 dX6_folds_38 rfl rfl rfl ?_
    refine r_iald E (q := 40) 13 wm_13 hx dX6_folds_39 rfl ?_
    refine r_iadd E (q := 41) dX6_folds_40 rfl ?_
    refine r_iald E (q := 42) 20 wm_20 h_am dX6_folds_41 rfl ?_
    refine r_icmp_eq E (q := 45) 51 dX6_folds_42 (by decide) rfl (fun c2 => ?_) (fun c2 => ?_)
    · exact k2 c1 c2
    · refine r_iinc E (q := 48) (v := i9 + 1) (lv' := [(0, .ref (ad 0)), (1, .int x), (2, .int at9), (3, .int (i9 + 1))]) 3 [1, 2, 3, 0] dX6_folds_45 rfl (by rfl) (by rw [hz]; decide) rfl rfl ?_
      refine r_goto E 2 dX6_folds_48 (by decide) ?_
      exact k3 c1 c2
set_option maxRecDepth 100000 in
set_option maxHeartbeats 800000 in
theorem t_folds {z : Zt} (E : EN z cX6_folds RX6) {w0 : va_W} {P : Option Value → va_W → Prop} {lvl : Nat} (T : RT z none lvl w0 P 0 0) (hz : zn z = 6) {ad : Nat → Nat} {G : Nat → Nat → Int32} {V : Nat → Int32} (hlv : 1 ≤ lvl) (x at9 i9 : Int32) (hx : vp_in x 60) (h_pl : ∃ a : Nat, fX6_place x i9 = nI a ∧ a + 6 ≤ 36000 ∧ 36000 < 2 ^ 31) (hM : ∀ G1 : Nat → Nat → Int32, G1 13 = G 13 → vp_in (fX6_place x i9 + G1 13 (ix x)) 36000 ∧ vp_in (at9 + G1 13 (ix x)) 36000) (hV : ∀ G1 : Nat → Nat → Int32, G1 14 = G 14 → vp_in (fX6_place x i9 + G1 14 (ix x)) 36000 ∧ vp_in (at9 + G1 14 (ix x)) 36000) 
    (k1 : ∀ (G1 : Nat → Nat → Int32), G1 = ug G 20 (ix ((fX6_place x i9) + (G 14 (ix x)))) ((G 20 (ix ((fX6_place x i9) + (G 14 (ix x))))) + (G 20 (ix (at9 + (G 14 (ix x)))))) → ¬ (i9 = G 21 (ix x)) → P none (WM (zk z) ad G1 V)) 
    (k2 : ∀ (G1 G2 G3 G4 G5 G6 G7 G8 G9 : Nat → Nat → Int32), G1 = ug G 20 (ix ((fX6_place x i9) + 0)) 0 → G2 = ug G1 20 (ix ((fX6_place x i9) + 1)) 0 → G3 = ug G2 20 (ix ((fX6_place x i9) + 2)) 0 → G4 = ug G3 20 (ix ((fX6_place x i9) + 3)) 0 → G5 = ug G4 20 (ix ((fX6_place x i9) + 4)) 0 → G6 = ug G5 20 (ix ((fX6_place x i9) + 5)) 0 → G7 = ug G6 20 (ix ((fX6_place x i9) + (G6 13 (ix x)))) (G6 20 (ix (at9 + (G6 13 (ix x))))) → G8 = ug G7 21 (ix x) ((G7 21 (ix x)) + 1) → G9 = ug G8 20 (ix ((fX6_place x i9) + (G8 14 (ix x)))) ((G8 20 (ix ((fX6_place x i9) + (G8 14 (ix x))))) + (G8 20 (ix (at9 + (G8 14 (ix x)))))) → i9 = G 21 (ix x) → P none (WM (zk z) ad G9 V)) :
    WW z 0 0 (WM (zk z) ad G V) 51 [(0, .ref (ad 0)), (1, .int x), (2, .int at9), (3, .int i9)] [] := by
  refine r_iload_n E (q := 52) 1 dX6_folds_51 rfl rfl rfl ?_
  refine r_iload_n E (q := 53) 3 dX6_folds_52 rfl rfl rfl ?_
  refine rSi E (q := 56) csX6_196 T.rr [.int x, .int i9] (c_X6_place x i9) (by omega) rfl rfl (Nat.le_of_ble_eq_true rfl) ⟨Nat.zero_le _, Nat.zero_le _⟩ dX6_folds_53 rfl ?_
  refine r_istore E (q := 58) (lv' := [(0, .ref (ad 0)), (1, .int x), (2, .int at9), (3, .int i9), (4, .int (fX6_place x i9))]) [1, 2, 3, 4, 0] dX6_folds_56 (by rw [hz]; decide) rfl rfl ?_
  refine r_iload_n E (q := 59) 3 dX6_folds_58 rfl rfl rfl ?_
  refine r_aload_n E (q := 60) 0 dX6_folds_59 rfl rfl rfl ?_
  refine r_get E (q := 63) fX6_72 0 wm_0 rfl dX6_folds_60 rfl ?_
  refine r_iload_n E (q := 64) 1 dX6_folds_63 rfl rfl rfl ?_
  refine r_iald E (q := 65) 21 wm_21 hx dX6_folds_64 rfl ?_
  refine r_icmp_ne E (q := 68) 132 dX6_folds_65 (by decide) rfl (fun c1 => ?_) (fun c1 => ?_)
  · refine r_aload_n E (q := 133) 0 dX6_folds_132 rfl rfl rfl ?_
    refine r_get E (q := 136) fX6_69 0 wm_0 rfl dX6_folds_133 rfl ?_
    refine r_iload E (q := 138) 4 dX6_folds_136 rfl rfl ?_
    refine r_aload_n E (q := 139) 0 dX6_folds_138 rfl rfl rfl ?_
    refine r_get E (q := 142) fX6_50 0 wm_0 rfl dX6_folds_139 rfl ?_
    refine r_iload_n E (q := 143) 1 dX6_folds_142 rfl rfl rfl ?_
    refine r_iald E (q := 144) 14 wm_14 hx dX6_folds_143 rfl ?_
    refine r_iadd E (q := 145) dX6_folds_144 rfl ?_
    refine r_aload_n E (q := 146) 0 dX6_folds_145 rfl rfl rfl ?_
    refine r_get E (q := 149) fX6_69 0 wm_0 rfl dX6_folds_146 rfl ?_
    refine r_iload E (q := 151) 4 dX6_folds_149 rfl rfl ?_
    refine r_aload_n E (q := 152) 0 dX6_folds_151 rfl rfl rfl ?_
    refine r_get E (q := 155) fX6_50 0 wm_0 rfl dX6_folds_152 rfl ?_
    refine r_iload_n E (q := 156) 1 dX6_folds_155 rfl rfl rfl ?_
    refine r_iald E (q := 157) 14 wm_14 hx dX6_folds_156 rfl ?_
    refine r_iadd E (q := 158) dX6_folds_157 rfl ?_
    refine r_iald E (q := 159) 20 wm_20 (hV _ (by subst_vars; simp only [ug_other (show (13 : Nat) ≠ 20 by decide), ug_other (show (14 : Nat) ≠ 20 by decide), ug_other (show (13 : Nat) ≠ 21 by decide), ug_other (show (14 : Nat) ≠ 21 by decide)])).1 dX6_folds_158 rfl ?_
    refine r_aload_n E (q := 160) 0 dX6_folds_159 rfl rfl rfl ?_
    refine r_get E (q := 163) fX6_69 0 wm_0 rfl dX6_folds_160 rfl ?_
    refine r_iload_n E (q := 164) 2 dX6_folds_163 rfl rfl rfl ?_
    refine r_aload_n E (q := 165) 0 dX6_folds_164 rfl rfl rfl ?_
    refine r_get E (q := 168) fX6_50 0 wm_0 rfl dX6_folds_165 rfl ?_
    refine r_iload_n E (q := 169) 1 dX6_folds_168 rfl rfl rfl ?_
    refine r_iald E (q := 170) 14 wm_14 hx dX6_folds_169 rfl ?_
    refine r_iadd E (q := 171) dX6_folds_170 rfl ?_
    refine r_iald E (q := 172) 20 wm_20 (hV _ (by subst_vars; simp only [ug_other (show (13 : Nat) ≠ 20 by decide), ug_other (show (14 : Nat) ≠ 20 by decide), ug_other (show (13 : Nat) ≠ 21 by decide), ug_other (show (14 : Nat) ≠ 21 by decide)])).2 dX6_folds_171 rfl ?_
    refine r_iadd E (q := 173) dX6_folds_172 rfl ?_
    refine r_iast E (q := 174) 20 wm_20 (hV _ (by subst_vars; simp only [ug_other (show (13 : Nat) ≠ 20 by decide), ug_other (show (14 : Nat) ≠ 20 by decide), ug_other (show (13 : Nat) ≠ 21 by decide), ug_other (show (14 : Nat) ≠ 21 by decide)])).1 wmu_20 dX6_folds_173 rfl ?_
    refine r_nGM (fun G1 eG1 => ?_)
    exact r_vret E T dX6_folds_174 (k1 G1 eG1 c1)
  · refine r_iconst E (q := 69) (v := 0) dX6_folds_68 (by decide) rfl ?_
    refine r_istore E (q := 71) (lv' := [(0, .ref (ad 0)), (1, .int x), (2, .int at9), (3, .int i9), (4, .int (fX6_place x i9)), (5, .int 0)]) [1, 2, 3, 4, 5, 0] dX6_folds_69 (by rw [hz]; decide) rfl rfl ?_
    refine r_iload E (q := 73) 5 dX6_folds_71 rfl rfl ?_
    refine r_bipush E (q := 75) (v := 6) dX6_folds_73 (by decide) rfl ?_
    refine r_icmp_ge E (q := 78) 95 dX6_folds_75 (by decide) rfl (fun c2 => absurd c2 (by decide)) (fun _ => ?_)
    refine r_aload_n E (q := 79) 0 dX6_folds_78 rfl rfl rfl ?_
    refine r_get E (q := 82) fX6_69 0 wm_0 rfl dX6_folds_79 rfl ?_
    refine r_iload E (q := 84) 4 dX6_folds_82 rfl rfl ?_
    refine r_iload E (q := 86) 5 dX6_folds_84 rfl rfl ?_
    refine r_iadd E (q := 87) dX6_folds_86 rfl ?_
    refine r_iconst E (q := 88) (v := 0) dX6_folds_87 (by decide) rfl ?_
    refine r_iast E (q := 89) 20 wm_20 (off_in (m := 0) h_pl (by omega)) wmu_20 dX6_folds_88 rfl ?_
    refine r_nGM (fun G1 eG1 => ?_)
    refine r_iinc E (q := 92) (v := 1) (lv' := [(0, .ref (ad 0)), (1, .int x), (2, .int at9), (3, .int i9), (4, .int (fX6_place x i9)), (5, .int 1)]) 5 [1, 2, 3, 4, 5, 0] dX6_folds_89 rfl (by rfl) (by rw [hz]; decide) rfl rfl ?_
    refine r_goto E 71 dX6_folds_92 (by decide) ?_
    refine r_iload E (q := 73) 5 dX6_folds_71 rfl rfl ?_
    refine r_bipush E (q := 75) (v := 6) dX6_folds_73 (by decide) rfl ?_
    refine r_icmp_ge E (q := 78) 95 dX6_folds_75 (by decide) rfl (fun c3 => absurd c3 (by decide)) (fun _ => ?_)
    refine r_aload_n E (q := 79) 0 dX6_folds_78 rfl rfl rfl ?_
    refine r_get E (q := 82) fX6_69 0 wm_0 rfl dX6_folds_79 rfl ?_
    refine r_iload E (q := 84) 4 dX6_folds_82 rfl rfl ?_
    refine r_iload E (q := 86) 5 dX6_folds_84 rfl rfl ?_
    refine r_iadd E (q := 87) dX6_folds_86 rfl ?_
    refine r_iconst E (q := 88) (v := 0) dX6_folds_87 (by decide) rfl ?_
    refine r_iast E (q := 89) 20 wm_20 (off_in (m := 1) h_pl (by omega)) wmu_20 dX6_folds_88 rfl ?_
    refine r_nGM (fun G2 eG2 => ?_)
    refine r_iinc E (q := 92) (v := 2) (lv' := [(0, .ref (ad 0)), (1, .int x), (2, .int at9), (3, .int i9), (4, .int (fX6_place x i9)), (5, .int 2)]) 5 [1, 2, 3, 4, 5, 0] dX6_folds_89 rfl (by rfl) (by rw [hz]; decide) rfl rfl ?_
    refine r_goto E 71 dX6_folds_92 (by decide) ?_
    refine r_iload E (q := 73) 5 dX6_folds_71 rfl rfl ?_
    refine r_bipush E (q := 75) (v := 6) dX6_folds_73 (by decide) rfl ?_
    refine r_icmp_ge E (q := 78) 95 dX6_folds_75 (by decide) rfl (fun c4 => absurd c4 (by decide)) (fun _ => ?_)
    refine r_aload_n E (q := 79) 0 dX6_folds_78 rfl rfl rfl ?_
    refine r_get E (q := 82) fX6_69 0 wm_0 rfl dX6_folds_79 rfl ?_
    refine r_iload E (q := 84) 4 dX6_folds_82 rfl rfl ?_
    refine r_iload E (q := 86) 5 dX6_folds_84 rfl rfl ?_
    refine r_iadd E (q := 87) dX6_folds_86 rfl ?_
    refine r_iconst E (q := 88) (v := 0) dX6_folds_87 (by decide) rfl ?_
    refine r_iast E (q := 89) 20 wm_20 (off_in (m := 2) h_pl (by omega)) wmu_20 dX6_folds_88 rfl ?_
    refine r_nGM (fun G3 eG3 => ?_)
    refine r_iinc E (q := 92) (v := 3) (lv' := [(0, .ref (ad 0)), (1, .int x), (2, .int at9), (3, .int i9), (4, .int (fX6_place x i9)), (5, .int 3)]) 5 [1, 2, 3, 4, 5, 0] dX6_folds_89 rfl (by rfl) (by rw [hz]; decide) rfl rfl ?_
    refine r_goto E 71 dX6_folds_92 (by decide) ?_
    refine r_iload E (q := 73) 5 dX6_folds_71 rfl rfl ?_
    refine r_bipush E (q := 75) (v := 6) dX6_folds_73 (by decide) rfl ?_
    refine r_icmp_ge E (q := 78) 95 dX6_folds_75 (by decide) rfl (fun c5 => absurd c5 (by decide)) (fun _ => ?_)
    refine r_aload_n E (q := 79) 0 dX6_folds_78 rfl rfl rfl ?_
    refine r_get E (q := 82) fX6_69 0 wm_0 rfl dX6_folds_79 rfl ?_
    refine r_iload E (q := 84) 4 dX6_folds_82 rfl rfl ?_
    refine r_iload E (q := 86) 5 dX6_folds_84 rfl rfl ?_
    refine r_iadd E (q := 87) dX6_folds_86 rfl ?_
    refine r_iconst E (q := 88) (v := 0) dX6_folds_87 (by decide) rfl ?_
    refine r_iast E (q := 89) 20 wm_20 (off_in (m := 3) h_pl (by omega)) wmu_20 dX6_folds_88 rfl ?_
    refine r_nGM (fun G4 eG4 => ?_)
    refine r_iinc E (q := 92) (v := 4) (lv' := [(0, .ref (ad 0)), (1, .int x), (2, .int at9), (3, .int i9), (4, .int (fX6_place x i9)), (5, .int 4)]) 5 [1, 2, 3, 4, 5, 0] dX6_folds_89 rfl (by rfl) (by rw [hz]; decide) rfl rfl ?_
    refine r_goto E 71 dX6_folds_92 (by decide) ?_
    refine r_iload E (q := 73) 5 dX6_folds_71 rfl rfl ?_
    refine r_bipush E (q := 75) (v := 6) dX6_folds_73 (by decide) rfl ?_
    refine r_icmp_ge E (q := 78) 95 dX6_folds_75 (by decide) rfl (fun c6 => absurd c6 (by decide)) (fun _ => ?_)
    refine r_aload_n E (q := 79) 0 dX6_folds_78 rfl rfl rfl ?_
    refine r_get E (q := 82) fX6_69 0 wm_0 rfl dX6_folds_79 rfl ?_
    refine r_iload E (q := 84) 4 dX6_folds_82 rfl rfl ?_
    refine r_iload E (q := 86) 5 dX6_folds_84 rfl rfl ?_
    refine r_iadd E (q := 87) dX6_folds_86 rfl ?_
    refine r_iconst E (q := 88) (v := 0) dX6_folds_87 (by decide) rfl ?_
    refine r_iast E (q := 89) 20 wm_20 (off_in (m := 4) h_pl (by omega)) wmu_20 dX6_folds_88 rfl ?_
    refine r_nGM (fun G5 eG5 => ?_)
    refine r_iinc E (q := 92) (v := 5) (lv' := [(0, .ref (ad 0)), (1, .int x), (2, .int at9), (3, .int i9), (4, .int (fX6_place x i9)), (5, .int 5)]) 5 [1, 2, 3, 4, 5, 0] dX6_folds_89 rfl (by rfl) (by rw [hz]; decide) rfl rfl ?_
    refine r_goto E 71 dX6_folds_92 (by decide) ?_
    refine r_iload E (q := 73) 5 dX6_folds_71 rfl rfl ?_
    refine r_bipush E (q := 75) (v := 6) dX6_folds_73 (by decide) rfl ?_
    refine r_icmp_ge E (q := 78) 95 dX6_folds_75 (by decide) rfl (fun c7 => absurd c7 (by decide)) (fun _ => ?_)
    refine r_aload_n E (q := 79) 0 dX6_folds_78 rfl rfl rfl ?_
    refine r_get E (q := 82) fX6_69 0 wm_0 rfl dX6_folds_79 rfl ?_
    refine r_iload E (q := 84) 4 dX6_folds_82 rfl rfl ?_
    refine r_iload E (q := 86) 5 dX6_folds_84 rfl rfl ?_
    refine r_iadd E (q := 87) dX6_folds_86 rfl ?_
    refine r_iconst E (q := 88) (v := 0) dX6_folds_87 (by decide) rfl ?_
    refine r_iast E (q := 89) 20 wm_20 (off_in (m := 5) h_pl (by omega)) wmu_20 dX6_folds_88 rfl ?_
    refine r_nGM (fun G6 eG6 => ?_)
    refine r_iinc E (q := 92) (v := 6) (lv' := [(0, .ref (ad 0)), (1, .int x), (2, .int at9), (3, .int i9), (4, .int (fX6_place x i9)), (5, .int 6)]) 5 [1, 2, 3, 4, 5, 0] dX6_folds_89 rfl (by rfl) (by rw [hz]; decide) rfl rfl ?_
    refine r_goto E 71 dX6_folds_92 (by decide) ?_
    refine r_iload E (q := 73) 5 dX6_folds_71 rfl rfl ?_
    refine r_bipush E (q := 75) (v := 6) dX6_folds_73 (by decide) rfl ?_
    refine r_icmp_ge E (q := 78) 95 dX6_folds_75 (by decide) rfl (fun _ => ?_) (fun c8 => absurd c8 (by decide))
    refine r_aload_n E (q := 96) 0 dX6_folds_95 rfl rfl rfl ?_
    refine r_get E (q := 99) fX6_69 0 wm_0 rfl dX6_folds_96 rfl ?_
    refine r_iload E (q := 101) 4 dX6_folds_99 rfl rfl ?_
    refine r_aload_n E (q := 102) 0 dX6_folds_101 rfl rfl rfl ?_
    refine r_get E (q := 105) fX6_47 0 wm_0 rfl dX6_folds_102 rfl ?_
    refine r_iload_n E (q := 106) 1 dX6_folds_105 rfl rfl rfl ?_
    refine r_iald E (q := 107) 13 wm_13 hx dX6_folds_106 rfl ?_
    refine r_iadd E (q := 108) dX6_folds_107 rfl ?_
    refine r_aload_n E (q := 109) 0 dX6_folds_108 rfl rfl rfl ?_
    refine r_get E (q := 112) fX6_69 0 wm_0 rfl dX6_folds_109 rfl ?_
    refine r_iload_n E (q := 113) 2 dX6_folds_112 rfl rfl rfl ?_
    refine r_aload_n E (q := 114) 0 dX6_folds_113 rfl rfl rfl ?_
    refine r_get E (q := 117) fX6_47 0 wm_0 rfl dX6_folds_114 rfl ?_
    refine r_iload_n E (q := 118) 1 dX6_folds_117 rfl rfl rfl ?_
    refine r_iald E (q := 119) 13 wm_13 hx dX6_folds_118 rfl ?_
    refine r_iadd E (q := 120) dX6_folds_119 rfl ?_
    refine r_iald E (q := 121) 20 wm_20 (hM _ (by subst_vars; simp only [ug_other (show (13 : Nat) ≠ 20 by decide), ug_other (show (14 : Nat) ≠ 20 by decide), ug_other (show (13 : Nat) ≠ 21 by decide), ug_other (show (14 : Nat) ≠ 21 by decide)])).2 dX6_folds_120 rfl ?_
    refine r_iast E (q := 122) 20 wm_20 (hM _ (by subst_vars; simp only [ug_other (show (13 : Nat) ≠ 20 by decide), ug_other (show (14 : Nat) ≠ 20 by decide), ug_other (show (13 : Nat) ≠ 21 by decide), ug_other (show (14 : Nat) ≠ 21 by decide)])).1 wmu_20 dX6_folds_121 rfl ?_
    refine r_nGM (fun G7 eG7 => ?_)
    refine r_aload_n E (q := 123) 0 dX6_folds_122 rfl rfl rfl ?_
    refine r_get E (q := 126) fX6_72 0 wm_0 rfl dX6_folds_123 rfl ?_
    refine r_iload_n E (q := 127) 1 dX6_folds_126 rfl rfl rfl ?_
    refine r_dup2 E (q := 128) dX6_folds_127 rfl rfl rfl ?_
    refine r_iald E (q := 129) 21 wm_21 hx dX6_folds_128 rfl ?_
    refine r_iconst E (q := 130) (v := 1) dX6_folds_129 (by decide) rfl ?_
    refine r_iadd E (q := 131) dX6_folds_130 rfl ?_
    refine r_iast E (q := 132) 21 wm_21 hx wmu_21 dX6_folds_131 rfl ?_
    refine r_nGM (fun G8 eG8 => ?_)
    refine r_aload_n E (q := 133) 0 dX6_folds_132 rfl rfl rfl ?_
    refine r_get E (q := 136) fX6_69 0 wm_0 rfl dX6_folds_133 rfl ?_
    refine r_iload E (q := 138) 4 dX6_folds_136 rfl rfl ?_
    refine r_aload_n E (q := 139) 0 dX6_folds_138 rfl rfl rfl ?_
    refine r_get E (q := 142) fX6_50 0 wm_0 rfl dX6_folds_139 rfl ?_
    refine r_iload_n E (q := 143) 1 dX6_folds_142 rfl rfl rfl ?_
    refine r_iald E (q := 144) 14 wm_14 hx dX6_folds_143 rfl ?_
    refine r_iadd E (q := 145) dX6_folds_144 rfl ?_
    refine r_aload_n E (q := 146) 0 dX6_folds_145 rfl rfl rfl ?_
    refine r_get E (q := 149) fX6_69 0 wm_0 rfl dX6_folds_146 rfl ?_
    refine r_iload E (q := 151) 4 dX6_folds_149 rfl rfl ?_
    refine r_aload_n E (q := 152) 0 dX6_folds_151 rfl rfl rfl ?_
    refine r_get E (q := 155) fX6_50 0 wm_0 rfl dX6_folds_152 rfl ?_
    refine r_iload_n E (q := 156) 1 dX6_folds_155 rfl rfl rfl ?_
    refine r_iald E (q := 157) 14 wm_14 hx dX6_folds_156 rfl ?_
    refine r_iadd E (q := 158) dX6_folds_157 rfl ?_
    refine r_iald E (q := 159) 20 wm_20 (hV _ (by subst_vars; simp only [ug_other (show (13 : Nat) ≠ 20 by decide), ug_other (show (14 : Nat) ≠ 20 by decide), ug_other (show (13 : Nat) ≠ 21 by decide), ug_other (show (14 : Nat) ≠ 21 by decide)])).1 dX6_folds_158 rfl ?_
    refine r_aload_n E (q := 160) 0 dX6_folds_159 rfl rfl rfl ?_
    refine r_get E (q := 163) fX6_69 0 wm_0 rfl dX6_folds_160 rfl ?_
    refine r_iload_n E (q := 164) 2 dX6_folds_163 rfl rfl rfl ?_
    refine r_aload_n E (q := 165) 0 dX6_folds_164 rfl rfl rfl ?_
    refine r_get E (q := 168) fX6_50 0 wm_0 rfl dX6_folds_165 rfl ?_
    refine r_iload_n E (q := 169) 1 dX6_folds_168 rfl rfl rfl ?_
    refine r_iald E (q := 170) 14 wm_14 hx dX6_folds_169 rfl ?_
    refine r_iadd E (q := 171) dX6_folds_170 rfl ?_
    refine r_iald E (q := 172) 20 wm_20 (hV _ (by subst_vars; simp only [ug_other (show (13 : Nat) ≠ 20 by decide), ug_other (show (14 : Nat) ≠ 20 by decide), ug_other (show (13 : Nat) ≠ 21 by decide), ug_other (show (14 : Nat) ≠ 21 by decide)])).2 dX6_folds_171 rfl ?_
    refine r_iadd E (q := 173) dX6_folds_172 rfl ?_
    refine r_iast E (q := 174) 20 wm_20 (hV _ (by subst_vars; simp only [ug_other (show (13 : Nat) ≠ 20 by decide), ug_other (show (14 : Nat) ≠ 20 by decide), ug_other (show (13 : Nat) ≠ 21 by decide), ug_other (show (14 : Nat) ≠ 21 by decide)])).1 wmu_20 dX6_folds_173 rfl ?_
    refine r_nGM (fun G9 eG9 => ?_)
    exact r_vret E T dX6_folds_174 (k2 G1 G2 G3 G4 G5 G6 G7 G8 G9 eG1 eG2 eG3 eG4 eG5 eG6 eG7 eG8 eG9 c1)
theorem foldL_none {m k : Nat} {row : List Int32} : ∀ {os : List (List Int32)}, (∀ r ∈ os, ¬ r.getD m 0 = row.getD m 0) → foldL m k row os = os ++ [((List.replicate 6 (0 : Int32)).set m (row.getD m 0)).set k (0 + row.getD k 0)]
  | [], _ => rfl
  | r :: rs, h => by
    show (if r.getD m 0 = row.getD m 0 then _ else r :: foldL m k row rs) = _
    rw [if_neg (h r List.mem_cons_self), foldL_none (fun q hq => h q (List.mem_cons_of_mem _ hq))]; rfl
theorem foldL_at {m k : Nat} {row : List Int32} : ∀ {os : List (List Int32)} {i : Nat} {r : List Int32}, os[i]? = some r → r.getD m 0 = row.getD m 0 → (∀ i' r', i' < i → os[i']? = some r' → ¬ r'.getD m 0 = row.getD m 0) → foldL m k row os = os.set i (r.set k (r.getD k 0 + row.getD k 0))
  | [], i, r, h, _, _ => by simp at h
  | o :: os, 0, r, h, e, _ => by
    have : o = r := by simpa using h
    subst this
    show (if o.getD m 0 = row.getD m 0 then _ else _) = _
    rw [if_pos e]; rfl
  | o :: os, i + 1, r, h, e, hn => by
    show (if o.getD m 0 = row.getD m 0 then _ else o :: foldL m k row os) = _
    rw [if_neg (hn 0 o (by omega) rfl), foldL_at (i := i) (r := r) (by simpa using h) e (fun i' r' hi hr => hn (i' + 1) r' (by omega) (by simpa using hr))]; rfl
theorem tb_set {C D : Nat → Int32} {b n i : Nat} {r : List Int32} (hi : i < n) (hr : rd D (b + 6 * i) = r) (ho : ∀ j, j < 6 * n → (j < 6 * i ∨ 6 * i + 6 ≤ j) → D (b + j) = C (b + j)) : tb D b n = (tb C b n).set i r := by
  apply List.ext_getElem?
  intro t
  rw [List.getElem?_set]
  by_cases ht : t < n
  · rw [tb_get ht]
    by_cases e : i = t
    · subst e; rw [if_pos rfl, tb_len, if_pos ht, hr]
    · rw [if_neg e, tb_get ht]
      congr 1
      refine rd_congr fun m hm => ?_
      have := ho (6 * t + m) (by omega) (by omega)
      rw [show b + 6 * t + m = b + (6 * t + m) by omega]; exact this
  · have e : ¬ i = t := by omega
    rw [if_neg e]
    rw [List.getElem?_eq_none (by rw [tb_len]; omega), List.getElem?_eq_none (by rw [tb_len]; omega)]
/-- one member of one row -/
theorem stM.putAt {G0 : Nat → Nat → Int32} {V0 : Nat → Int32} {n : Nat} {G : Nat → Nat → Int32} {V : Nat → Int32} {os : List (List Int32)} {e : Int32 × Int32} (h : stM G0 V0 n G V (os, e)) {i m q : Nat} {y : Int32} {r : List Int32} (hi : os[i]? = some r) (hm : m < 6) (hq : q = 600 * n + 6 * i + m) (hl : os.length ≤ 100) : stM G0 V0 n (ug G 20 q y) V (os.set i (r.set m y), e) := by
  obtain ⟨h1, h2, h3, h4, h5, h6, h7, h8⟩ := h
  dsimp only at h3 h5
  have hil : i < os.length := (List.getElem?_eq_some_iff.mp hi).1
  have hr : r = rd (G 20) (600 * n + 6 * i) := by
    rw [h5, tb_get hil] at hi
    exact (Option.some.inj hi).symm
  refine ⟨fun p p1 p2 p3 p4 p5 => ?_, fun i hi => ?_, ?_, fun j hj => ?_, ?_, h6, h7, h8⟩
  · rw [ug_other p4]; exact h1 p p1 p2 p3 p4 p5
  · rw [ug_p (by decide)]; exact h2 i hi
  · dsimp only; rw [ug_p (by decide), h3, List.length_set]
  · rw [ug_i (by omega)]; exact h4 j hj
  · dsimp only
    rw [List.length_set]
    have e2 : ug G 20 q y 20 = fun j => if j = 600 * n + 6 * i + m then y else G 20 j := by
      funext j; rw [ug_if2, hq]
    rw [e2]
    conv => lhs; rw [h5]
    symm
    refine tb_set hil ?_ (fun j h1 h2 => ?_)
    · rw [rd_set hm, hr]
    · rw [if_neg (by omega)]
/-- a row more, however it was written -/
theorem stM.push {G0 : Nat → Nat → Int32} {V0 : Nat → Int32} {n : Nat} {G G' : Nat → Nat → Int32} {V : Nat → Int32} {os : List (List Int32)} {e : Int32 × Int32} (h : stM G0 V0 n G V (os, e)) (hl : os.length < 100) {r : List Int32} (a1 : ∀ p, p ≠ 20 → p ≠ 21 → G' p = G p) (a2 : ∀ i, i ≠ n → G' 21 i = G 21 i) (a3 : G' 21 n = nI (os.length + 1)) (a4 : ∀ j, j < 600 * n + 6 * os.length ∨ 600 * n + 6 * os.length + 6 ≤ j → G' 20 j = G 20 j) (hr : rd (G' 20) (600 * n + 6 * os.length) = r) : stM G0 V0 n G' V (os ++ [r], e) := by
  obtain ⟨h1, h2, h3, h4, h5, h6, h7, h8⟩ := h
  dsimp only at h3 h5
  refine ⟨fun p p1 p2 p3 p4 p5 => (a1 p p4 p5).trans (h1 p p1 p2 p3 p4 p5), fun i hi => (a2 i hi).trans (h2 i hi), ?_, fun j hj => (a4 j (by omega)).trans (h4 j hj), ?_, h6, h7, h8⟩
  · dsimp only; rw [a3, List.length_append]; rfl
  · dsimp only
    rw [List.length_append]
    show os ++ [r] = tb (G' 20) (600 * n) (os.length + 1)
    rw [tb_succ, hr]
    congr 1
    exact h5.trans (tb_congr fun j hj => (a4 _ (by omega)).symm)
set_option maxHeartbeats 1600000 in
theorem c_folds {l : Launch} {k : Kt} {ad : Nat → Nat} {G0 : Nat → Nat → Int32} {V0 : Nat → Int32} {n a m kk : Nat} {x at9 : Int32} (hx : x = nI n) (hn : n < 60) (ha : at9 = nI a) (ha6 : a + 6 ≤ 36000) (hap : a + 6 ≤ 600 * n ∨ 600 * n + 600 ≤ a) (hm : m < 6) (hmn : G0 13 n = nI m) (hk6 : kk < 6) (hkm : kk ≠ m) (hkn : G0 14 n = nI kk)
    {G : Nat → Nat → Int32} {V : Nat → Int32} {o : Ot} (hst : stM G0 V0 n G V o) (hcap : o.1.length < 100) :
    CT l k yX6_folds cX6_folds 6 none 1 [.ref (ad 0), .int x, .int at9] (WM k ad G V) (fun v w' => v = none ∧ ∃ G', w' = WM k ad G' V ∧ stM G0 V0 n G' V (foldL m kk (rd (G0 20) a) o.1, o.2)) 0 0 := by
  refine ct_of (own := RX6) (lv0 := [(0, .ref (ad 0)), (1, .int x), (2, .int at9)]) (by decide) rfl (Nat.le_of_ble_eq_true rfl) rfl ?_
  rintro z rfl rfl hz - E T
  obtain ⟨os, e0⟩ := o
  dsimp only at hcap
  have exn : ix x = n := by rw [hx]; exact ix_nI (by omega)
  have hxv : vp_in x 60 := by rw [hx]; exact vp_in_nI hn (by omega)
  have q13 : G 13 (ix x) = nI m := by rw [exn, hst.1 13 (by decide) (by decide) (by decide) (by decide) (by decide)]; exact hmn
  have q14 : G 14 (ix x) = nI kk := by rw [exn, hst.1 14 (by decide) (by decide) (by decide) (by decide) (by decide)]; exact hkn
  have q21 : G 21 (ix x) = nI os.length := by rw [exn]; exact hst.2.2.1
  have hos : os = tb (G 20) (600 * n) os.length := hst.2.2.2.2.1
  have hrow : ∀ t, t < 6 → G 20 (a + t) = (rd (G0 20) a).getD t 0 := fun t ht => by rw [rd_get ht]; exact hst.2.2.2.1 _ (by omega)
  have fin : ∀ (i : Nat) (i9 : Int32), i9 = nI i → i ≤ os.length → (∀ i' r', i' < i → os[i']? = some r' → ¬ r'.getD m 0 = (rd (G0 20) a).getD m 0) → (i < os.length → (rd (G 20) (600 * n + 6 * i)).getD m 0 = (rd (G0 20) a).getD m 0) → WW z 0 0 (WM (zk z) ad G V) 51 [(0, .ref (ad 0)), (1, .int x), (2, .int at9), (3, .int i9)] [] := by
    intro i i9 hi hil hno hyes
    have hpl : fX6_place x i9 = nI (600 * n + 6 * i) := by rw [hx, hi]; exact place_n hn (by omega)
    refine t_folds E T hz (Nat.le_refl 1) x at9 i9 hxv ⟨_, hpl, by omega, by decide⟩ (fun G1 e => ?_) (fun G1 e => ?_) (fun G1 e1 c => ?_) (fun G1 G2 G3 G4 G5 G6 G7 G8 G9 e1 e2 e3 e4 e5 e6 e7 e8 e9 c => ?_)
    · rw [e, q13, hpl, ha, nI_add, nI_add]; exact ⟨vp_in_nI (by omega) (by omega), vp_in_nI (by omega) (by omega)⟩
    · rw [e, q14, hpl, ha, nI_add, nI_add]; exact ⟨vp_in_nI (by omega) (by omega), vp_in_nI (by omega) (by omega)⟩
    · have hlt : i < os.length := by
        rcases Nat.lt_or_ge i os.length with q | q
        · exact q
        · exact absurd (by rw [q21, hi, Nat.le_antisymm hil q]) c
      have hget : os[i]? = some (rd (G 20) (600 * n + 6 * i)) := by rw [hos, tb_get hlt]
      refine ⟨rfl, G1, rfl, ?_⟩
      rw [foldL_at hget (hyes hlt) hno]
      rw [e1, q14, hpl, ha, nIadd (by omega), nIadd (by omega), hrow kk hk6, ← rd_get (C := G 20) (p := 600 * n + 6 * i) hk6]
      exact hst.putAt hget hk6 rfl (by omega)
    · have he : i = os.length := by
        rw [q21, hi, nI_eq (by omega) (by omega)] at c; exact c
      have tt : ∀ t, t < 6 → ix (fX6_place x i9 + nI t) = 600 * n + 6 * os.length + t := fun t ht => by rw [hpl, he]; exact nIadd (by omega)
      have o13 : G6 13 (ix x) = nI m := by rw [e6, e5, e4, e3, e2, e1, ug_other (by decide), ug_other (by decide), ug_other (by decide), ug_other (by decide), ug_other (by decide), ug_other (by decide)]; exact q13
      have G6_20 : ∀ j, G6 20 j = if 600 * n + 6 * os.length ≤ j ∧ j < 600 * n + 6 * os.length + 6 then 0 else G 20 j := by
        intro j
        rw [e6, ug_if2, e5, ug_if2, e4, ug_if2, e3, ug_if2, e2, ug_if2, e1, ug_if2]
        rw [show ix (fX6_place x i9 + 0) = _ from tt 0 (by omega), show ix (fX6_place x i9 + 1) = _ from tt 1 (by omega), show ix (fX6_place x i9 + 2) = _ from tt 2 (by omega), show ix (fX6_place x i9 + 3) = _ from tt 3 (by omega), show ix (fX6_place x i9 + 4) = _ from tt 4 (by omega), show ix (fX6_place x i9 + 5) = _ from tt 5 (by omega)]
        by_cases hj : 600 * n + 6 * os.length ≤ j ∧ j < 600 * n + 6 * os.length + 6
        · rw [if_pos hj]
          repeat' split
          all_goals first | rfl | (exfalso; omega)
        · rw [if_neg hj]
          repeat' split
          all_goals first | rfl | (exfalso; omega)
      have G7_20 : ∀ j, G7 20 j = if j = 600 * n + 6 * os.length + m then (rd (G0 20) a).getD m 0 else if 600 * n + 6 * os.length ≤ j ∧ j < 600 * n + 6 * os.length + 6 then 0 else G 20 j := by
        intro j
        have ea : G6 20 (a + m) = (rd (G0 20) a).getD m 0 := by rw [G6_20, if_neg (by omega)]; exact hrow m hm
        rw [e7, ug_if2, o13, hpl, he, ha, nIadd (by omega), nIadd (by omega), ea, G6_20 j]
      have G8_20 : G8 20 = G7 20 := by rw [e8, ug_other (by decide)]
      have G7o : ∀ p, p ≠ 20 → G7 p = G p := fun p hp => by rw [e7, ug_other hp, e6, ug_other hp, e5, ug_other hp, e4, ug_other hp, e3, ug_other hp, e2, ug_other hp, e1, ug_other hp]
      have s8 : stM G0 V0 n G8 V (os ++ [(List.replicate 6 (0 : Int32)).set m ((rd (G0 20) a).getD m 0)], e0) := by
        refine hst.push hcap (fun p p1 p2 => ?_) (fun i hi => ?_) ?_ (fun j hj => ?_) ?_
        · rw [e8, ug_other p2]; exact G7o p p1
        · rw [e8, exn, ug_i hi, G7o 21 (by decide)]
        · rw [e8, exn, ug_same, G7o 21 (by decide), ← exn, q21, nI_1]
        · rw [G8_20, G7_20, if_neg (by omega), if_neg (by omega)]
        · rw [G8_20]
          have : rd (G7 20) (600 * n + 6 * os.length) = rd (fun j => if j = 600 * n + 6 * os.length + m then (rd (G0 20) a).getD m 0 else (fun _ => (0 : Int32)) j) (600 * n + 6 * os.length) := rd_congr fun t ht => by
            rw [G7_20]
            by_cases w : 600 * n + 6 * os.length + t = 600 * n + 6 * os.length + m
            · rw [if_pos w, if_pos w]
            · rw [if_neg w, if_neg w, if_pos (by omega)]
          rw [this, rd_set hm]
          rfl
      have o14 : G8 14 (ix x) = nI kk := by rw [e8, ug_other (by decide), G7o 14 (by decide)]; exact q14
      have hk0 : (List.replicate 6 (0 : Int32)).set m ((rd (G0 20) a).getD m 0) = rd (G8 20) (600 * n + 6 * os.length) := s8.last
      refine ⟨rfl, G9, rfl, ?_⟩
      rw [foldL_none (fun r hr => by
        obtain ⟨t, ht⟩ := List.getElem?_of_mem hr
        exact hno t r (by rw [he]; exact (List.getElem?_eq_some_iff.mp ht).1) ht)]
      have key := s8.put (m := kk) (q := 600 * n + 6 * os.length + kk) (y := G8 20 (600 * n + 6 * os.length + kk) + (rd (G0 20) a).getD kk 0) hk6 rfl hcap
      have eA : G8 20 (ix (at9 + G8 14 (ix x))) = (rd (G0 20) a).getD kk 0 := by
        rw [o14, ha, nIadd (by omega), G8_20, G7_20, if_neg (by omega), if_neg (by omega)]; exact hrow kk hk6
      have eT : ix (fX6_place x i9 + G8 14 (ix x)) = 600 * n + 6 * os.length + kk := by rw [o14]; exact tt kk hk6
      rw [e9, eA, eT]
      have e0' : G8 20 (600 * n + 6 * os.length + kk) = 0 := by rw [G8_20, G7_20, if_neg (by omega), if_pos (by omega)]
      rw [e0'] at key ⊢
      exact key
  have step : ∀ (i : Nat) (i9 : Int32), i9 = nI i → i ≤ os.length → (∀ i' r', i' < i → os[i']? = some r' → ¬ r'.getD m 0 = (rd (G0 20) a).getD m 0) → (i < os.length → (∀ i' r', i' < i + 1 → os[i']? = some r' → ¬ r'.getD m 0 = (rd (G0 20) a).getD m 0) → WW z 0 0 (WM (zk z) ad G V) 2 [(0, .ref (ad 0)), (1, .int x), (2, .int at9), (3, .int (i9 + 1))] []) → WW z 0 0 (WM (zk z) ad G V) 2 [(0, .ref (ad 0)), (1, .int x), (2, .int at9), (3, .int i9)] [] := by
    intro i i9 hi hil hno K
    have hlt : ¬ G 21 (ix x) ≤ i9 → i < os.length := fun c => by
      rcases Nat.lt_or_ge i os.length with q | q
      · exact q
      · exact absurd (by rw [q21, hi]; exact nI_le q (by omega)) c
    have hpl : i < os.length → fX6_place x i9 = nI (600 * n + 6 * i) := fun q => by rw [hx, hi]; exact place_n hn (by omega)
    have hc : i < os.length → (G 20 (ix (fX6_place x i9 + G 13 (ix x))) = (rd (G 20) (600 * n + 6 * i)).getD m 0 ∧ G 20 (ix (at9 + G 13 (ix x))) = (rd (G0 20) a).getD m 0) := fun q => by
      rw [hpl q, q13, ha, nIadd (by omega), nIadd (by omega), rd_get hm]
      exact ⟨rfl, hrow m hm⟩
    refine s_folds E T hz (Nat.le_refl 1) x at9 i9 hxv (by rw [q13, ha, nI_add]; exact vp_in_nI (by omega) (by omega)) (fun c => by rw [hpl (hlt c), q13, nI_add]; have := hlt c; exact vp_in_nI (by omega) (by omega)) (fun c => ?_) (fun c cc => ?_) (fun c cc => ?_)
    · refine fin i i9 hi hil hno (fun q => ?_)
      rw [q21, hi, nI_leI (by omega) (by omega)] at c
      omega
    · refine fin i i9 hi hil hno (fun q => ?_)
      rw [(hc q).1, (hc q).2] at cc
      exact cc
    · have q := hlt c
      rw [(hc q).1, (hc q).2] at cc
      refine K q (fun i' r' h1 h2 => ?_)
      rcases Nat.lt_or_ge i' i with w | w
      · exact hno i' r' w h2
      · have : i' = i := by omega
        subst this
        rw [hos, tb_get q] at h2
        rw [← Option.some.inj h2]; exact cc
  have main : ∀ (N i : Nat) (i9 : Int32), i9 = nI i → i ≤ os.length → os.length ≤ i + N → (∀ i' r', i' < i → os[i']? = some r' → ¬ r'.getD m 0 = (rd (G0 20) a).getD m 0) → WW z 0 0 (WM (zk z) ad G V) 2 [(0, .ref (ad 0)), (1, .int x), (2, .int at9), (3, .int i9)] [] := by
    intro N
    induction N with
    | zero => intro i i9 hi h1 h2 h; exact step i i9 hi h1 h (fun q => absurd q (by omega))
    | succ N ih => intro i i9 hi h1 h2 h; exact step i i9 hi h1 h (fun q h' => ih (i + 1) (i9 + 1) (by rw [hi]; exact nI_1 i) (by omega) (by omega) h')
  refine p_folds E T hz x at9 ?_
  exact main os.length 0 0 rfl (Nat.zero_le _) (by omega) (fun i' r' h => absurd h (Nat.not_lt_zero _))
