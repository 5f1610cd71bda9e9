set_option maxRecDepth 100000 in
set_option maxHeartbeats 800000 in
theorem p_folds {z : Zt} (E : EN z cX6_folds RX6) {w0 : va_W} {P : Option Value → va_W → Prop} {lvl : Nat} (T : RT z none lvl w0 P 0 0) (hz : zn z = 6) {ad : Nat → Nat} {G : Nat → Nat → Int32} {V : Nat → Int32} (x at9 : Int32) 
    (k1 : WW z 0 0 (WM (zk z) ad G V) 2 [(0, .ref (ad 0)), (1, .int x), (2, .int at9), (3, .int 0)] []) :
    WW z 0 0 (WM (zk z) ad G V) 0 [(0, .ref (ad 0)), (1, .int x), (2, .int at9)] [] := by
  refine r_iconst E (q := 1) (v := 0) dX6_folds_0 (by decide) rfl ?_
  refine r_istore_n E (q := 2) (lv' := [(0, .ref (ad 0)), (1, .int x), (2, .int at9), (3, .int 0)]) [1, 2, 3, 0] dX6_folds_1 rfl (by rw [hz]; decide) rfl rfl ?_
  exact k1 
set_option maxRecDepth 100000 in
set_option maxHeartbeats 800000 in
theorem s_folds {z : Zt} (E : EN z cX6_folds RX6) {w0 : va_W} {P : Option Value → va_W → Prop} {lvl : Nat} (T : RT z none lvl w0 P 0 0) (hz : zn z = 6) {ad : Nat → Nat} {G : Nat → Nat → Int32} {V : Nat → Int32} (hlv : 1 ≤ lvl) (x at9 i9 : Int32) (hx : vp_in x 60) (h_am : vp_in (at9 + G 13 (ix x)) 36000) (h_pm : ¬ G 21 (ix x) ≤ i9 → vp_in (fX6_place x i9 + G 13 (ix x)) 36000) 
    (k1 : G 21 (ix x) ≤ i9 → WW z 0 0 (WM (zk z) ad G V) 51 [(0, .ref (ad 0)), (1, .int x), (2, .int at9), (3, .int i9)] []) 
    (k2 : ¬ (G 21 (ix x) ≤ i9) → G 20 (ix ((fX6_place x i9) + (G 13 (ix x)))) = G 20 (ix (at9 + (G 13 (ix x)))) → WW z 0 0 (WM (zk z) ad G V) 51 [(0, .ref (ad 0)), (1, .int x), (2, .int at9), (3, .int i9)] []) 
    (k3 : ¬ (G 21 (ix x) ≤ i9) → ¬ (G 20 (ix ((fX6_place x i9) + (G 13 (ix x)))) = G 20 (ix (at9 + (G 13 (ix x))))) → WW z 0 0 (WM (zk z) ad G V) 2 [(0, .ref (ad 0)), (1, .int x), (2, .int at9), (3, .int (i9 + 1))] []) :
    WW z 0 0 (WM (zk z) ad G V) 2 [(0, .ref (ad 0)), (1, .int x), (2, .int at9), (3, .int i9)] [] := by
  refine r_iload_n E (q := 3) 3 dX6_folds_2 rfl rfl rfl ?_
  refine r_aload_n E (q := 4) 0 dX6_folds_3 rfl rfl rfl ?_
  refine r_get E (q := 7) fX6_72 0 wm_0 rfl dX6_folds_4 rfl ?_
  refine r_iload_n E (q := 8) 1 dX6_folds_7 rfl rfl rfl ?_
  refine r_iald E (q := 9) 21 wm_21 hx dX6_folds_8 rfl ?_
  refine r_icmp_ge E (q := 12) 51 dX6_folds_9 (by decide) rfl (fun c1 => ?_) (fun c1 => ?_)
  · exact k1 c1
  · refine r_aload_n E (q := 13) 0 dX6_folds_12 rfl rfl rfl ?_
    refine r_get E (q := 16) fX6_69 0 wm_0 rfl dX6_folds_13 rfl ?_
    refine r_iload_n E (q := 17) 1 dX6_folds_16 rfl rfl rfl ?_
    refine r_iload_n E (q := 18) 3 dX6_folds_17 rfl rfl rfl ?_
    refine rSi E (q := 21) csX6_196 T.rr [.int x, .int i9] (c_X6_place x i9) (by omega) rfl rfl (Nat.le_of_ble_eq_true rfl) ⟨Nat.zero_le _, Nat.zero_le _⟩ dX6_folds_18 rfl ?_
    refine r_aload_n E (q := 22) 0 dX6_folds_21 rfl rfl rfl ?_
    refine r_get E (q := 25) fX6_47 0 wm_0 rfl dX6_folds_22 rfl ?_
    refine r_iload_n E (q := 26) 1 dX6_folds_25 rfl rfl rfl ?_
    refine r_iald E (q := 27) 13 wm_13 hx dX6_folds_26 rfl ?_
    refine r_iadd E (q := 28) dX6_folds_27 rfl ?_
    refine r_iald E (q := 29) 20 wm_20 (h_pm (by assumption)) dX6_folds_28 rfl ?_
    refine r_aload_n E (q := 30) 0 dX6_folds_29 rfl rfl rfl ?_
    refine r_get E (q := 33) fX6_69 0 wm_0 rfl dX6_folds_30 rfl ?_
    refine r_iload_n E (q := 34) 2 dX6_folds_33 rfl rfl rfl ?_
    refine r_aload_n E (q := 35) 0 dX6_folds_34 rfl rfl rfl ?_
    refine r_get E (q := 38) fX6_47 0 wm_0 rfl dX6_folds_35 rfl ?_
    refine r_iload_n E (q := 39) 1 dX6_folds_38 rfl rfl rfl ?_
    refine r_iald E (q := 40) 13 wm_13 hx dX6_folds_39 rfl ?_
    refine r_iadd E (q := 41) dX6_folds_40 rfl ?_
    refine r_iald E (q := 42) 20 wm_20 h_am dX6_folds_41 rfl ?_
    refine r_icmp_eq E (q := 45) 51 dX6_folds_42 (by decide) rfl (fun c2 => ?_) (fun c2 => ?_)
    · exact k2 c1 c2
    · refine r_iinc E (q := 48) (v := i9 + 1) (lv' := [(0, .ref (ad 0)), (1, .int x), (2, .int at9), (3, .int (i9 + 1))]) 3 [1, 2, 3, 0] dX6_folds_45 rfl (by rfl) (by rw [hz]; decide) rfl rfl ?_
      refine r_goto E 2 dX6_folds_48 (by decide) ?_
      exact k3 c1 c2
set_option maxRecDepth 100000 in
set_option maxHeartbeats 800000 in
theorem t_folds {z : Zt} (E : EN z cX6_folds RX6) {w0 : va_W} {P : Option Value → va_W → Prop} {lvl : Nat} (T : RT z none lvl w0 P 0 0) (hz : zn z = 6) {ad : Nat → Nat} {G : Nat → Nat → Int32} {V : Nat → Int32} (hlv : 1 ≤ lvl) (x at9 i9 : Int32) (hx : vp_in x 60) (h_pl : ∃ a : Nat, fX6_place x i9 = nI a ∧ a + 6 ≤ 36000 ∧ 36000 < 2 ^ 31) (hM : ∀ G1 : Nat → Nat → Int32, G1 13 = G 13 → vp_in (fX6_place x i9 + G1 13 (ix x)) 36000 ∧ vp_in (at9 + G1 13 (ix x)) 36000) (hV : ∀ G1 : Nat → Nat → Int32, G1 14 = G 14 → vp_in (fX6_place x i9 + G1 14 (ix x)) 36000 ∧ vp_in (at9 + G1 14 (ix x)) 36000) 
    (k1 : ∀ (G1 : Nat → Nat → Int32), G1 = ug G 20 (ix ((fX6_place x i9) + (G 14 (ix x)))) ((G 20 (ix ((fX6_place x i9) + (G 14 (ix x))))) + (G 20 (ix (at9 + (G 14 (ix x)))))) → ¬ (i9 = G 21 (ix x)) → P none (WM (zk z) ad G1 V)) 
    (k2 : ∀ (G1 G2 G3 G4 G5 G6 G7 G8 G9 : Nat → Nat → Int32), G1 = ug G 20 (ix ((fX6_place x i9) + 0)) 0 → G2 = ug G1 20 (ix ((fX6_place x i9) + 1)) 0 → G3 = ug G2 20 (ix ((fX6_place x i9) + 2)) 0 → G4 = ug G3 20 (ix ((fX6_place x i9) + 3)) 0 → G5 = ug G4 20 (ix ((fX6_place x i9) + 4)) 0 → G6 = ug G5 20 (ix ((fX6_place x i9) + 5)) 0 → G7 = ug G6 20 (ix ((fX6_place x i9) + (G6 13 (ix x)))) (G6 20 (ix (at9 + (G6 13 (ix x))))) → G8 = ug G7 21 (ix x) ((G7 21 (ix x)) + 1) → G9 = ug G8 20 (ix ((fX6_place x i9) + (G8 14 (ix x)))) ((G8 20 (ix ((fX6_place x i9) + (G8 14 (ix x))))) + (G8 20 (ix (at9 + (G8 14 (ix x)))))) → i9 = G 21 (ix x) → P none (WM (zk z) ad G9 V)) :
    WW z 0 0 (WM (zk z) ad G V) 51 [(0, .ref (ad 0)), (1, .int x), (2, .int at9), (3, .int i9)] [] := by
  refine r_iload_n E (q := 52) 1 dX6_folds_51 rfl rfl rfl ?_
  refine r_iload_n E (q := 53) 3 dX6_folds_52 rfl rfl rfl ?_
  refine rSi E (q := 56) csX6_196 T.rr [.int x, .int i9] (c_X6_place x i9) (by omega) rfl rfl (Nat.le_of_ble_eq_true rfl) ⟨Nat.zero_le _, Nat.zero_le _⟩ dX6_folds_53 rfl ?_
  refine r_istore E (q := 58) (lv' := [(0, .ref (ad 0)), (1, .int x), (2, .int at9), (3, .int i9), (4, .int (fX6_place x i9))]) [1, 2, 3, 4, 0] dX6_folds_56 (by rw [hz]; decide) rfl rfl ?_
  refine r_iload_n E (q := 59) 3 dX6_folds_58 rfl rfl rfl ?_
  refine r_aload_n E (q := 60) 0 dX6_folds_59 rfl rfl rfl ?_
  refine r_get E (q := 63) fX6_72 0 wm_0 rfl dX6_folds_60 rfl ?_
  refine r_iload_n E (q := 64) 1 dX6_folds_63 rfl rfl rfl ?_
  refine r_iald E (q := 65) 21 wm_21 hx dX6_folds_64 rfl ?_
  refine r_icmp_ne E (q := 68) 132 dX6_folds_65 (by decide) rfl (fun c1 => ?_) (fun c1 => ?_)
  · refine r_aload_n E (q := 133) 0 dX6_folds_132 rfl rfl rfl ?_
    refine r_get E (q := 136) fX6_69 0 wm_0 rfl dX6_folds_133 rfl ?_
    refine r_iload E (q := 138) 4 dX6_folds_136 rfl rfl ?_
    refine r_aload_n E (q := 139) 0 dX6_folds_138 rfl rfl rfl ?_
    refine r_get E (q := 142) fX6_50 0 wm_0 rfl dX6_folds_139 rfl ?_
    refine r_iload_n E (q := 143) 1 dX6_folds_142 rfl rfl rfl ?_
    refine r_iald E (q := 144) 14 wm_14 hx dX6_folds_143 rfl ?_
    refine r_iadd E (q := 145) dX6_folds_144 rfl ?_
    refine r_aload_n E (q := 146) 0 dX6_folds_145 rfl rfl rfl ?_
    refine r_get E (q := 149) fX6_69 0 wm_0 rfl dX6_folds_146 rfl ?_
    refine r_iload E (q := 151) 4 dX6_folds_149 rfl rfl ?_
    refine r_aload_n E (q := 152) 0 dX6_folds_151 rfl rfl rfl ?_
    refine r_get E (q := 155) fX6_50 0 wm_0 rfl dX6_folds_152 rfl ?_
    refine r_iload_n E (q := 156) 1 dX6_folds_155 rfl rfl rfl ?_
    refine r_iald E (q := 157) 14 wm_14 hx dX6_folds_156 rfl ?_
    refine r_iadd E (q := 158) dX6_folds_157 rfl ?_
    refine r_iald E (q := 159) 20 wm_20 (hV _ (by subst_vars; simp only [ug_other (show (13 : Nat) ≠ 20 by decide), ug_other (show (14 : Nat) ≠ 20 by decide), ug_other (show (13 : Nat) ≠ 21 by decide), ug_other (show (14 : Nat) ≠ 21 by decide)])).1 dX6_folds_158 rfl ?_
    refine r_aload_n E (q := 160) 0 dX6_folds_159 rfl rfl rfl ?_
    refine r_get E (q := 163) fX6_69 0 wm_0 rfl dX6_folds_160 rfl ?_
    refine r_iload_n E (q := 164) 2 dX6_folds_163 rfl rfl rfl ?_
    refine r_aload_n E (q := 165) 0 dX6_folds_164 rfl rfl rfl ?_
    refine r_get E (q := 168) fX6_50 0 wm_0 rfl dX6_folds_165 rfl ?_
    refine r_iload_n E (q := 169) 1 dX6_folds_168 rfl rfl rfl ?_
    refine r_iald E (q := 170) 14 wm_14 hx dX6_folds_169 rfl ?_
    refine r_iadd E (q := 171) dX6_folds_170 rfl ?_
    refine r_iald E (q := 172) 20 wm_20 (hV _ (by subst_vars; simp only [ug_other (show (13 : Nat) ≠ 20 by decide), ug_other (show (14 : Nat) ≠ 20 by decide), ug_other (show (13 : Nat) ≠ 21 by decide), ug_other (show (14 : Nat) ≠ 21 by decide)])).2 dX6_folds_171 rfl ?_
    refine r_iadd E (q := 173) dX6_folds_172 rfl ?_
    refine r_iast E (q := 174) 20 wm_20 (hV _ (by subst_vars; simp only [ug_other (show (13 : Nat) ≠ 20 by decide), ug_other (show (14 : Nat) ≠ 20 by decide), ug_other (show (13 : Nat) ≠ 21 by decide), ug_other (show (14 : Nat) ≠ 21 by decide)])).1 wmu_20 dX6_folds_173 rfl ?_
    refine r_nGM (fun G1 eG1 => ?_)
    exact r_vret E T dX6_folds_174 (k1 G1 eG1 c1)
  · refine r_iconst E (q := 69) (v := 0) dX6_folds_68 (by decide) rfl ?_
    refine r_istore E (q := 71) (lv' := [(0, .ref (ad 0)), (1, .int x), (2, .int at9), (3, .int i9), (4, .int (fX6_place x i9)), (5, .int 0)]) [1, 2, 3, 4, 5, 0] dX6_folds_69 (by rw [hz]; decide) rfl rfl ?_
    refine r_iload E (q := 73) 5 dX6_folds_71 rfl rfl ?_
    refine r_bipush E (q := 75) (v := 6) dX6_folds_73 (by decide) rfl ?_
    refine r_icmp_ge E (q := 78) 95 dX6_folds_75 (by decide) rfl (fun c2 => absurd c2 (by decide)) (fun _ => ?_)
    refine r_aload_n E (q := 79) 0 dX6_folds_78 rfl rfl rfl ?_
    refine r_get E (q := 82) fX6_69 0 wm_0 rfl dX6_folds_79 rfl ?_
    refine r_iload E (q := 84) 4 dX6_folds_82 rfl rfl ?_
    refine r_iload E (q := 86) 5 dX6_folds_84 rfl rfl ?_
    refine r_iadd E (q := 87) dX6_folds_86 rfl ?_
    refine r_iconst E (q := 88) (v := 0) dX6_folds_87 (by decide) rfl ?_
    refine r_iast E (q := 89) 20 wm_20 (off_in (m := 0) h_pl (by omega)) wmu_20 dX6_folds_88 rfl ?_
    refine r_nGM (fun G1 eG1 => ?_)
    refine r_iinc E (q := 92) (v := 1) (lv' := [(0, .ref (ad 0)), (1, .int x), (2, .int at9), (3, .int i9), (4, .int (fX6_place x i9)), (5, .int 1)]) 5 [1, 2, 3, 4, 5, 0] dX6_folds_89 rfl (by rfl) (by rw [hz]; decide) rfl rfl ?_
    refine r_goto E 71 dX6_folds_92 (by decide) ?_
    refine r_iload E (q := 73) 5 dX6_folds_71 rfl rfl ?_
    refine r_bipush E (q := 75) (v := 6) dX6_folds_73 (by decide) rfl ?_
    refine r_icmp_ge E (q := 78) 95 dX6_folds_75 (by decide) rfl (fun c3 => absurd c3 (by decide)) (fun _ => ?_)
    refine r_aload_n E (q := 79) 0 dX6_folds_78 rfl rfl rfl ?_
    refine r_get E (q := 82) fX6_69 0 wm_0 rfl dX6_folds_79 rfl ?_
    refine r_iload E (q := 84) 4 dX6_folds_82 rfl rfl ?_
    refine r_iload E (q := 86) 5 dX6_folds_84 rfl rfl ?_
    refine r_iadd E (q := 87) dX6_folds_86 rfl ?_
    refine r_iconst E (q := 88) (v := 0) dX6_folds_87 (by decide) rfl ?_
    refine r_iast E (q := 89) 20 wm_20 (off_in (m := 1) h_pl (by omega)) wmu_20 dX6_folds_88 rfl ?_
    refine r_nGM (fun G2 eG2 => ?_)
    refine r_iinc E (q := 92) (v := 2) (lv' := [(0, .ref (ad 0)), (1, .int x), (2, .int at9), (3, .int i9), (4, .int (fX6_place x i9)), (5, .int 2)]) 5 [1, 2, 3, 4, 5, 0] dX6_folds_89 rfl (by rfl) (by rw [hz]; decide) rfl rfl ?_
    refine r_goto E 71 dX6_folds_92 (by decide) ?_
    refine r_iload E (q := 73) 5 dX6_folds_71 rfl rfl ?_
    refine r_bipush E (q := 75) (v := 6) dX6_folds_73 (by decide) rfl ?_
    refine r_icmp_ge E (q := 78) 95 dX6_folds_75 (by decide) rfl (fun c4 => absurd c4 (by decide)) (fun _ => ?_)
    refine r_aload_n E (q := 79) 0 dX6_folds_78 rfl rfl rfl ?_
    refine r_get E (q := 82) fX6_69 0 wm_0 rfl dX6_folds_79 rfl ?_
    refine r_iload E (q := 84) 4 dX6_folds_82 rfl rfl ?_
    refine r_iload E (q := 86) 5 dX6_folds_84 rfl rfl ?_
    refine r_iadd E (q := 87) dX6_folds_86 rfl ?_
    refine r_iconst E (q := 88) (v := 0) dX6_folds_87 (by decide) rfl ?_
    refine r_iast E (q := 89) 20 wm_20 (off_in (m := 2) h_pl (by omega)) wmu_20 dX6_folds_88 rfl ?_
    refine r_nGM (fun G3 eG3 => ?_)
    refine r_iinc E (q := 92) (v := 3) (lv' := [(0, .ref (ad 0)), (1, .int x), (2, .int at9), (3, .int i9), (4, .int (fX6_place x i9)), (5, .int 3)]) 5 [1, 2, 3, 4, 5, 0] dX6_folds_89 rfl (by rfl) (by rw [hz]; decide) rfl rfl ?_
    refine r_goto E 71 dX6_folds_92 (by decide) ?_
    refine r_iload E (q := 73) 5 dX6_folds_71 rfl rfl ?_
    refine r_bipush E (q := 75) (v := 6) dX6_folds_73 (by decide) rfl ?_
    refine r_icmp_ge E (q := 78) 95 dX6_folds_75 (by decide) rfl (fun c5 => absurd c5 (by decide)) (fun _ => ?_)
    refine r_aload_n E (q := 79) 0 dX6_folds_78 rfl rfl rfl ?_
    refine r_get E (q := 82) fX6_69 0 wm_0 rfl dX6_folds_79 rfl ?_
    refine r_iload E (q := 84) 4 dX6_folds_82 rfl rfl ?_
    refine r_iload E (q := 86) 5 dX6_folds_84 rfl rfl ?_
    refine r_iadd E (q := 87) dX6_folds_86 rfl ?_
    refine r_iconst E (q := 88) (v := 0) dX6_folds_87 (by decide) rfl ?_
    refine r_iast E (q := 89) 20 wm_20 (off_in (m := 3) h_pl (by omega)) wmu_20 dX6_folds_88 rfl ?_
    refine r_nGM (fun G4 eG4 => ?_)
    refine r_iinc E (q := 92) (v := 4) (lv' := [(0, .ref (ad 0)), (1, .int x), (2, .int at9), (3, .int i9), (4, .int (fX6_place x i9)), (5, .int 4)]) 5 [1, 2, 3, 4, 5, 0] dX6_folds_89 rfl (by rfl) (by rw [hz]; decide) rfl rfl ?_
    refine r_goto E 71 dX6_folds_92 (by decide) ?_
    refine r_iload E (q := 73) 5 dX6_folds_71 rfl rfl ?_
    refine r_bipush E (q := 75) (v := 6) dX6_folds_73 (by decide) rfl ?_
    refine r_icmp_ge E (q := 78) 95 dX6_folds_75 (by decide) rfl (fun c6 => absurd c6 (by decide)) (fun _ => ?_)
    refine r_aload_n E (q := 79) 0 dX6_folds_78 rfl rfl rfl ?_
    refine r_get E (q := 82) fX6_69 0 wm_0 rfl dX6_folds_79 rfl ?_
    refine r_iload E (q := 84) 4 dX6_folds_82 rfl rfl ?_
    refine r_iload E (q := 86) 5 dX6_folds_84 rfl rfl ?_
    refine r_iadd E (q := 87) dX6_folds_86 rfl ?_
    refine r_iconst E (q := 88) (v := 0) dX6_folds_87 (by decide) rfl ?_
    refine r_iast E (q := 89) 20 wm_20 (off_in (m := 4) h_pl (by omega)) wmu_20 dX6_folds_88 rfl ?_
    refine r_nGM (fun G5 eG5 => ?_)
    refine r_iinc E (q := 92) (v := 5) (lv' := [(0, .ref (ad 0)), (1, .int x), (2, .int at9), (3, .int i9), (4, .int (fX6_place x i9)), (5, .int 5)]) 5 [1, 2, 3, 4, 5, 0] dX6_folds_89 rfl (by rfl) (by rw [hz]; decide) rfl rfl ?_
    refine r_goto E 71 dX6_folds_92 (by decide) ?_
    refine r_iload E (q := 73) 5 dX6_folds_71 rfl rfl ?_
    refine r_bipush E (q := 75) (v := 6) dX6_folds_73 (by decide) rfl ?_
    refine r_icmp_ge E (q := 78) 95 dX6_folds_75 (by decide) rfl (fun c7 => absurd c7 (by decide)) (fun _ => ?_)
    refine r_aload_n E (q := 79) 0 dX6_folds_78 rfl rfl rfl ?_
    refine r_get E (q := 82) fX6_69 0 wm_0 rfl dX6_folds_79 rfl ?_
    refine r_iload E (q := 84) 4 dX6_folds_82 rfl rfl ?_
    refine r_iload E (q := 86) 5 dX6_folds_84 rfl rfl ?_
    refine r_iadd E (q := 87) dX6_folds_86 rfl ?_
    refine r_iconst E (q := 88) (v := 0) dX6_folds_87 (by decide) rfl ?_
    refine r_iast E (q := 89) 20 wm_20 (off_in (m := 5) h_pl (by omega)) wmu_20 dX6_folds_88 rfl ?_
    refine r_nGM (fun G6 eG6 => ?_)
    refine r_iinc E (q := 92) (v := 6) (lv' := [(0, .ref (ad 0)), (1, .int x), (2, .int at9), (3, .int i9), (4, .int (fX6_place x i9)), (5, .int 6)]) 5 [1, 2, 3, 4, 5, 0] dX6_folds_89 rfl (by rfl) (by rw [hz]; decide) rfl rfl ?_
    refine r_goto E 71 dX6_folds_92 (by decide) ?_
    refine r_iload E (q := 73) 5 dX6_folds_71 rfl rfl ?_
    refine r_bipush E (q := 75) (v := 6) dX6_folds_73 (by decide) rfl ?_
    refine r_icmp_ge E (q := 78) 95 dX6_folds_75 (by decide) rfl (fun _ => ?_) (fun c8 => absurd c8 (by decide))
    refine r_aload_n E (q := 96) 0 dX6_folds_95 rfl rfl rfl ?_
    refine r_get E (q := 99) fX6_69 0 wm_0 rfl dX6_folds_96 rfl ?_
    refine r_iload E (q := 101) 4 dX6_folds_99 rfl rfl ?_
    refine r_aload_n E (q := 102) 0 dX6_folds_101 rfl rfl rfl ?_
    refine r_get E (q := 105) fX6_47 0 wm_0 rfl dX6_folds_102 rfl ?_
    refine r_iload_n E (q := 106) 1 dX6_folds_105 rfl rfl rfl ?_
    refine r_iald E (q := 107) 13 wm_13 hx dX6_folds_106 rfl ?_
    refine r_iadd E (q := 108) dX6_folds_107 rfl ?_
    refine r_aload_n E (q := 109) 0 dX6_folds_108 rfl rfl rfl ?_
    refine r_get E (q := 112) fX6_69 0 wm_0 rfl dX6_folds_109 rfl ?_
    refine r_iload_n E (q := 113) 2 dX6_folds_112 rfl rfl rfl ?_
    refine r_aload_n E (q := 114) 0 dX6_folds_113 rfl rfl rfl ?_
    refine r_get E (q := 117) fX6_47 0 wm_0 rfl dX6_folds_114 rfl ?_
    refine r_iload_n E (q := 118) 1 dX6_folds_117 rfl rfl rfl ?_
    refine r_iald E (q := 119) 13 wm_13 hx dX6_folds_118 rfl ?_
    refine r_iadd E (q := 120) dX6_folds_119 rfl ?_
    refine r_iald E (q := 121) 20 wm_20 (hM _ (by subst_vars; simp only [ug_other (show (13 : Nat) ≠ 20 by decide), ug_other (show (14 : Nat) ≠ 20 by decide), ug_other (show (13 : Nat) ≠ 21 by decide), ug_other (show (14 : Nat) ≠ 21 by decide)])).2 dX6_folds_120 rfl ?_
    refine r_iast E (q := 122) 20 wm_20 (hM _ (by subst_vars; simp only [ug_other (show (13 : Nat) ≠ 20 by decide), ug_other (show (14 : Nat) ≠ 20 by decide), ug_other (show (13 : Nat) ≠ 21 by decide), ug_other (show (14 : Nat) ≠ 21 by decide)])).1 wmu_20 dX6_folds_121 rfl ?_
    refine r_nGM (fun G7 eG7 => ?_)
    refine r_aload_n E (q := 123) 0 dX6_folds_122 rfl rfl rfl ?_
    refine r_get E (q := 126) fX6_72 0 wm_0 rfl dX6_folds_123 rfl ?_
    refine r_iload_n E (q := 127) 1 dX6_folds_126 rfl rfl rfl ?_
    refine r_dup2 E (q := 128) dX6_folds_127 rfl rfl rfl ?_
    refine r_iald E (q := 129) 21 wm_21 hx dX6_folds_128 rfl ?_
    refine r_iconst E (q := 130) (v := 1) dX6_folds_129 (by decide) rfl ?_
    refine r_iadd E (q := 131) dX6_folds_130 rfl ?_
    refine r_iast E (q := 132) 21 wm_21 hx wmu_21 dX6_folds_131 rfl ?_
    refine r_nGM (fun G8 eG8 => ?_)
    refine r_aload_n E (q := 133) 0 dX6_folds_132 rfl rfl rfl ?_
    refine r_get E (q := 136) fX6_69 0 wm_0 rfl dX6_folds_133 rfl ?_
    refine r_iload E (q := 138) 4 dX6_folds_136 rfl rfl ?_
    refine r_aload_n E (q := 139) 0 dX6_folds_138 rfl rfl rfl ?_
    refine r_get E (q := 142) fX6_50 0 wm_0 rfl dX6_folds_139 rfl ?_
    refine r_iload_n E (q := 143) 1 dX6_folds_142 rfl rfl rfl ?_
    refine r_iald E (q := 144) 14 wm_14 hx dX6_folds_143 rfl ?_
    refine r_iadd E (q := 145) dX6_folds_144 rfl ?_
    refine r_aload_n E (q := 146) 0 dX6_folds_145 rfl rfl rfl ?_
    refine r_get E (q := 149) fX6_69 0 wm_0 rfl dX6_folds_146 rfl ?_
    refine r_iload E (q := 151) 4 dX6_folds_149 rfl rfl ?_
    refine r_aload_n E (q := 152) 0 dX6_folds_151 rfl rfl rfl ?_
    refine r_get E (q := 155) fX6_50 0 wm_0 rfl dX6_folds_152 rfl ?_
    refine r_iload_n E (q := 156) 1 dX6_folds_155 rfl rfl rfl ?_
    refine r_iald E (q := 157) 14 wm_14 hx dX6_folds_156 rfl ?_
    refine r_iadd E (q := 158) dX6_folds_157 rfl ?_
    refine r_iald E (q := 159) 20 wm_20 (hV _ (by subst_vars; simp only [ug_other (show (13 : Nat) ≠ 20 by decide), ug_other (show (14 : Nat) ≠ 20 by decide), ug_other (show (13 : Nat) ≠ 21 by decide), ug_other (show (14 : Nat) ≠ 21 by decide)])).1 dX6_folds_158 rfl ?_
    refine r_aload_n E (q := 160) 0 dX6_folds_159 rfl rfl rfl ?_
    refine r_get E (q := 163) fX6_69 0 wm_0 rfl dX6_folds_160 rfl ?_
    refine r_iload_n E (q := 164) 2 dX6_folds_163 rfl rfl rfl ?_
    refine r_aload_n E (q := 165) 0 dX6_folds_164 rfl rfl rfl ?_
    refine r_get E (q := 168) fX6_50 0 wm_0 rfl dX6_folds_165 rfl ?_
    refine r_iload_n E (q := 169) 1 dX6_folds_168 rfl rfl rfl ?_
    refine r_iald E (q := 170) 14 wm_14 hx dX6_folds_169 rfl ?_
    refine r_iadd E (q := 171) dX6_folds_170 rfl ?_
    refine r_iald E (q := 172) 20 wm_20 (hV _ (by subst_vars; simp only [ug_other (show (13 : Nat) ≠ 20 by decide), ug_other (show (14 : Nat) ≠ 20 by decide), ug_other (show (13 : Nat) ≠ 21 by decide), ug_other (show (14 : Nat) ≠ 21 by decide)])).2 dX6_folds_171 rfl ?_
    refine r_iadd E (q := 173) dX6_folds_172 rfl ?_
    refine r_iast E (q := 174) 20 wm_20 (hV _ (by subst_vars; simp only [ug_other (show (13 : Nat) ≠ 20 by decide), ug_other (show (14 : Nat) ≠ 20 by decide), ug_other (show (13 : Nat) ≠ 21 by decide), ug_other (show (14 : Nat) ≠ 21 by decide)])).1 wmu_20 dX6_folds_173 rfl ?_
    refine r_nGM (fun G9 eG9 => ?_)
    exact r_vret E T dX6_folds_174 (k2 G1 G2 G3 G4 G5 G6 G7 G8 G9 eG1 eG2 eG3 eG4 eG5 eG6 eG7 eG8 eG9 c1)
