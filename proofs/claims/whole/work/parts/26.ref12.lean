set_option maxRecDepth 100000 in
set_option maxHeartbeats 800000 in
theorem tk_1 {z : Zt} (E : EN z cX6_takes RX6) {w0 : va_W} {P : Option Value → va_W → Prop} {lvl : Nat} (T : RT z none lvl w0 P 0 0) (hz : zn z = 5) {ad : Nat → Nat} {G : Nat → Nat → Int32} {V : Nat → Int32} (hlv : 5 ≤ lvl) (x i9 at9 : Int32) (hx : vp_in x 60) (h_at9 : ∃ a : Nat, at9 = nI a ∧ a + 6 ≤ 36000 ∧ 36000 < 2 ^ 31) (hkd : G 10 (ix x) = 1) (ev9 : Int32 × Int32 × Int32) (hwk : CT (zl z) (zk z) yX6_work cX6_work 3 none 3 [.ref (ad 0), .int (G 14 (ix x)), .int at9] (WM (zk z) ad G V) (pW (zk z) ad G V ev9) 0 0) (h_ta : ∀ Ga : Nat → Nat → Int32, agS 0 G Ga → ∃ a : Nat, fX6_place x (Ga 21 (ix x)) = nI a ∧ a + 6 ≤ 36000 ∧ 36000 < 2 ^ 31) 
    (k1 : ∀ (Ga : Nat → Nat → Int32) (Va : Nat → Int32), agS 0 G Ga → rsW V Va ev9 → ¬ (Va 5 = 0) → P none (WM (zk z) ad Ga Va)) 
    (k2 : ∀ (Ga : Nat → Nat → Int32) (Va : Nat → Int32), agS 0 G Ga → rsW V Va ev9 → Va 5 = 0 → Va 4 = 0 → P none (WM (zk z) ad Ga Va)) 
    (k3 : ∀ (Ga : Nat → Nat → Int32) (Va : Nat → Int32), agS 0 G Ga → rsW V Va ev9 → ∀ (G1 : Nat → Nat → Int32), G1 = fX6_add_G Ga x at9 → Va 5 = 0 → ¬ (Va 4 = 0) → P none (WM (zk z) ad G1 Va)) :
    WW z 0 0 (WM (zk z) ad G V) 0 [(0, .ref (ad 0)), (1, .int x), (2, .int i9), (3, .int at9)] [] := by
  refine r_aload_n E (q := 1) 0 dX6_takes_0 rfl rfl rfl ?_
  refine r_get E (q := 4) fX6_38 0 wm_0 rfl dX6_takes_1 rfl ?_
  refine r_iload_n E (q := 5) 1 dX6_takes_4 rfl rfl rfl ?_
  refine r_iald E (q := 6) 10 wm_10 hx dX6_takes_5 rfl ?_
  refine r_tabIn E 1 hkd 52 dX6_takes_6 (by decide) (by rfl) (by decide) ?_
  refine r_aload_n E (q := 53) 0 dX6_takes_52 rfl rfl rfl ?_
  refine r_aload_n E (q := 54) 0 dX6_takes_53 rfl rfl rfl ?_
  refine r_get E (q := 57) fX6_50 0 wm_0 rfl dX6_takes_54 rfl ?_
  refine r_iload_n E (q := 58) 1 dX6_takes_57 rfl rfl rfl ?_
  refine r_iald E (q := 59) 14 wm_14 hx dX6_takes_58 rfl ?_
  refine r_iload_n E (q := 60) 3 dX6_takes_59 rfl rfl rfl ?_
  refine rV E cvX6_210 T.rr Fr.all 0 wm_0 rfl [.int (G 14 (ix x)), .int at9] hwk (by omega) rfl rfl (Nat.le_of_ble_eq_true rfl) ⟨Nat.zero_le _, Nat.zero_le _⟩ dX6_takes_60 (fun v9 w9 h9 => ?_)
  obtain ⟨rfl, Ga, Va, rfl, hag, hrs⟩ := h9
  show WW z 0 0 (WM (zk z) ad Ga Va) 63 [(0, .ref (ad 0)), (1, .int x), (2, .int i9), (3, .int at9)] []
  refine r_aload_n E (q := 64) 0 dX6_takes_63 rfl rfl rfl ?_
  refine r_get E (q := 67) fX6_190 0 wm_0 rfl dX6_takes_64 rfl ?_
  refine r_if_ne E (q := 70) 261 dX6_takes_67 (by decide) rfl (fun c1 => ?_) (fun c1 => ?_)
  · exact r_vret E T dX6_takes_261 (k1 Ga Va hag hrs c1)
  · refine r_aload_n E (q := 71) 0 dX6_takes_70 rfl rfl rfl ?_
    refine r_get E (q := 74) fX6_174 0 wm_0 rfl dX6_takes_71 rfl ?_
    refine r_if_eq E (q := 77) 261 dX6_takes_74 (by decide) rfl (fun c2 => ?_) (fun c2 => ?_)
    · exact r_vret E T dX6_takes_261 (k2 Ga Va hag hrs c1 c2)
    · refine r_aload_n E (q := 78) 0 dX6_takes_77 rfl rfl rfl ?_
      refine r_iload_n E (q := 79) 1 dX6_takes_78 rfl rfl rfl ?_
      refine r_iload_n E (q := 80) 3 dX6_takes_79 rfl rfl rfl ?_
      refine rVv E (q := 83) cvX6_206 T.rr 0 wm_0 rfl [.int x, .int at9] (c_X6_add x at9 hx h_at9 (h_ta _ hag)) (by omega) rfl rfl (Nat.le_of_ble_eq_true rfl) ⟨Nat.zero_le _, Nat.zero_le _⟩ dX6_takes_80 rfl ?_
      refine r_nGM (fun G1 eG1 => ?_)
      refine r_goto E 261 dX6_takes_83 (by decide) ?_
      exact r_vret E T dX6_takes_261 (k3 Ga Va hag hrs G1 eG1 c1 c2)
set_option maxRecDepth 100000 in
set_option maxHeartbeats 800000 in
theorem tk_2 {z : Zt} (E : EN z cX6_takes RX6) {w0 : va_W} {P : Option Value → va_W → Prop} {lvl : Nat} (T : RT z none lvl w0 P 0 0) (hz : zn z = 5) {ad : Nat → Nat} {G : Nat → Nat → Int32} {V : Nat → Int32} (hlv : 5 ≤ lvl) (x i9 at9 : Int32) (hx : vp_in x 60) (h_at9 : ∃ a : Nat, at9 = nI a ∧ a + 6 ≤ 36000 ∧ 36000 < 2 ^ 31) (hkd : G 10 (ix x) = 2) (ev9 : Int32 × Int32 × Int32) (hwk : CT (zl z) (zk z) yX6_work cX6_work 3 none 3 [.ref (ad 0), .int (G 14 (ix x)), .int at9] (WM (zk z) ad G V) (pW (zk z) ad G V ev9) 0 0) (h_ta : ∀ Ga : Nat → Nat → Int32, agS 0 G Ga → ∃ a : Nat, fX6_place x (Ga 21 (ix x)) = nI a ∧ a + 6 ≤ 36000 ∧ 36000 < 2 ^ 31) (h_pm : ∀ Ga : Nat → Nat → Int32, agS 0 G Ga → ∀ G1 : Nat → Nat → Int32, G1 = fX6_add_G Ga x at9 → vp_in (fX6_place x i9 + G1 13 (ix x)) 36000) 
    (k1 : ∀ (Ga : Nat → Nat → Int32) (Va : Nat → Int32), agS 0 G Ga → rsW V Va ev9 → ¬ (Va 5 = 0) → P none (WM (zk z) ad Ga Va)) 
    (k2 : ∀ (Ga : Nat → Nat → Int32) (Va : Nat → Int32), agS 0 G Ga → rsW V Va ev9 → ∀ (G1 G2 : Nat → Nat → Int32), G1 = fX6_add_G Ga x at9 → G2 = ug G1 20 (ix ((fX6_place x i9) + (G1 13 (ix x)))) (Va 4) → Va 5 = 0 → P none (WM (zk z) ad G2 Va)) :
    WW z 0 0 (WM (zk z) ad G V) 0 [(0, .ref (ad 0)), (1, .int x), (2, .int i9), (3, .int at9)] [] := by
  refine r_aload_n E (q := 1) 0 dX6_takes_0 rfl rfl rfl ?_
  refine r_get E (q := 4) fX6_38 0 wm_0 rfl dX6_takes_1 rfl ?_
  refine r_iload_n E (q := 5) 1 dX6_takes_4 rfl rfl rfl ?_
  refine r_iald E (q := 6) 10 wm_10 hx dX6_takes_5 rfl ?_
  refine r_tabIn E 2 hkd 86 dX6_takes_6 (by decide) (by rfl) (by decide) ?_
  refine r_aload_n E (q := 87) 0 dX6_takes_86 rfl rfl rfl ?_
  refine r_aload_n E (q := 88) 0 dX6_takes_87 rfl rfl rfl ?_
  refine r_get E (q := 91) fX6_50 0 wm_0 rfl dX6_takes_88 rfl ?_
  refine r_iload_n E (q := 92) 1 dX6_takes_91 rfl rfl rfl ?_
  refine r_iald E (q := 93) 14 wm_14 hx dX6_takes_92 rfl ?_
  refine r_iload_n E (q := 94) 3 dX6_takes_93 rfl rfl rfl ?_
  refine rV E cvX6_210 T.rr Fr.all 0 wm_0 rfl [.int (G 14 (ix x)), .int at9] hwk (by omega) rfl rfl (Nat.le_of_ble_eq_true rfl) ⟨Nat.zero_le _, Nat.zero_le _⟩ dX6_takes_94 (fun v9 w9 h9 => ?_)
  obtain ⟨rfl, Ga, Va, rfl, hag, hrs⟩ := h9
  show WW z 0 0 (WM (zk z) ad Ga Va) 97 [(0, .ref (ad 0)), (1, .int x), (2, .int i9), (3, .int at9)] []
  refine r_aload_n E (q := 98) 0 dX6_takes_97 rfl rfl rfl ?_
  refine r_get E (q := 101) fX6_190 0 wm_0 rfl dX6_takes_98 rfl ?_
  refine r_if_ne E (q := 104) 261 dX6_takes_101 (by decide) rfl (fun c1 => ?_) (fun c1 => ?_)
  · exact r_vret E T dX6_takes_261 (k1 Ga Va hag hrs c1)
  · refine r_aload_n E (q := 105) 0 dX6_takes_104 rfl rfl rfl ?_
    refine r_iload_n E (q := 106) 1 dX6_takes_105 rfl rfl rfl ?_
    refine r_iload_n E (q := 107) 3 dX6_takes_106 rfl rfl rfl ?_
    refine rVv E (q := 110) cvX6_206 T.rr 0 wm_0 rfl [.int x, .int at9] (c_X6_add x at9 hx h_at9 (h_ta _ hag)) (by omega) rfl rfl (Nat.le_of_ble_eq_true rfl) ⟨Nat.zero_le _, Nat.zero_le _⟩ dX6_takes_107 rfl ?_
    refine r_nGM (fun G1 eG1 => ?_)
    refine r_aload_n E (q := 111) 0 dX6_takes_110 rfl rfl rfl ?_
    refine r_get E (q := 114) fX6_69 0 wm_0 rfl dX6_takes_111 rfl ?_
    refine r_iload_n E (q := 115) 1 dX6_takes_114 rfl rfl rfl ?_
    refine r_iload_n E (q := 116) 2 dX6_takes_115 rfl rfl rfl ?_
    refine rSi E (q := 119) csX6_196 T.rr [.int x, .int i9] (c_X6_place x i9) (by omega) rfl rfl (Nat.le_of_ble_eq_true rfl) ⟨Nat.zero_le _, Nat.zero_le _⟩ dX6_takes_116 rfl ?_
    refine r_aload_n E (q := 120) 0 dX6_takes_119 rfl rfl rfl ?_
    refine r_get E (q := 123) fX6_47 0 wm_0 rfl dX6_takes_120 rfl ?_
    refine r_iload_n E (q := 124) 1 dX6_takes_123 rfl rfl rfl ?_
    refine r_iald E (q := 125) 13 wm_13 hx dX6_takes_124 rfl ?_
    refine r_iadd E (q := 126) dX6_takes_125 rfl ?_
    refine r_aload_n E (q := 127) 0 dX6_takes_126 rfl rfl rfl ?_
    refine r_get E (q := 130) fX6_174 0 wm_0 rfl dX6_takes_127 rfl ?_
    refine r_iast E (q := 131) 20 wm_20 (h_pm _ hag _ (by assumption)) wmu_20 dX6_takes_130 rfl ?_
    refine r_nGM (fun G2 eG2 => ?_)
    refine r_goto E 261 dX6_takes_131 (by decide) ?_
    exact r_vret E T dX6_takes_261 (k2 Ga Va hag hrs G1 G2 eG1 eG2 c1)
set_option maxRecDepth 100000 in
set_option maxHeartbeats 800000 in
theorem tk_3 {z : Zt} (E : EN z cX6_takes RX6) {w0 : va_W} {P : Option Value → va_W → Prop} {lvl : Nat} (T : RT z none lvl w0 P 0 0) (hz : zn z = 5) {ad : Nat → Nat} {G : Nat → Nat → Int32} {V : Nat → Int32} (hlv : 5 ≤ lvl) (x i9 at9 : Int32) (hx : vp_in x 60) (h_at9 : ∃ a : Nat, at9 = nI a ∧ a + 6 ≤ 36000 ∧ 36000 < 2 ^ 31) (hkd : G 10 (ix x) = 3) (h_to : ∃ a : Nat, fX6_place x (G 21 (ix x)) = nI a ∧ a + 6 ≤ 36000 ∧ 36000 < 2 ^ 31) (h_pl : ∃ a : Nat, fX6_place x i9 = nI a ∧ a + 6 ≤ 36000 ∧ 36000 < 2 ^ 31) 
    (k1 : ∀ (G1 G2 G3 G4 G5 G6 G7 : Nat → Nat → Int32), G1 = fX6_add_G G x at9 → G2 = ug G1 20 (ix ((fX6_place x i9) + 0)) (if ((G1 14 (ix x)) >>> (0 &&& 31)) &&& 1 = 1 then (G1 20 (ix (at9 + 0))) else 0) → G3 = ug G2 20 (ix ((fX6_place x i9) + 1)) (if ((G2 14 (ix x)) >>> (1 &&& 31)) &&& 1 = 1 then (G2 20 (ix (at9 + 1))) else 0) → G4 = ug G3 20 (ix ((fX6_place x i9) + 2)) (if ((G3 14 (ix x)) >>> (2 &&& 31)) &&& 1 = 1 then (G3 20 (ix (at9 + 2))) else 0) → G5 = ug G4 20 (ix ((fX6_place x i9) + 3)) (if ((G4 14 (ix x)) >>> (3 &&& 31)) &&& 1 = 1 then (G4 20 (ix (at9 + 3))) else 0) → G6 = ug G5 20 (ix ((fX6_place x i9) + 4)) (if ((G5 14 (ix x)) >>> (4 &&& 31)) &&& 1 = 1 then (G5 20 (ix (at9 + 4))) else 0) → G7 = ug G6 20 (ix ((fX6_place x i9) + 5)) (if ((G6 14 (ix x)) >>> (5 &&& 31)) &&& 1 = 1 then (G6 20 (ix (at9 + 5))) else 0) → P none (WM (zk z) ad G7 V)) :
    WW z 0 0 (WM (zk z) ad G V) 0 [(0, .ref (ad 0)), (1, .int x), (2, .int i9), (3, .int at9)] [] := by
  refine r_aload_n E (q := 1) 0 dX6_takes_0 rfl rfl rfl ?_
  refine r_get E (q := 4) fX6_38 0 wm_0 rfl dX6_takes_1 rfl ?_
  refine r_iload_n E (q := 5) 1 dX6_takes_4 rfl rfl rfl ?_
  refine r_iald E (q := 6) 10 wm_10 hx dX6_takes_5 rfl ?_
  refine r_tabIn E 3 hkd 134 dX6_takes_6 (by decide) (by rfl) (by decide) ?_
  refine r_aload_n E (q := 135) 0 dX6_takes_134 rfl rfl rfl ?_
  refine r_iload_n E (q := 136) 1 dX6_takes_135 rfl rfl rfl ?_
  refine r_iload_n E (q := 137) 3 dX6_takes_136 rfl rfl rfl ?_
  refine rVv E (q := 140) cvX6_206 T.rr 0 wm_0 rfl [.int x, .int at9] (c_X6_add x at9 hx h_at9 h_to) (by omega) rfl rfl (Nat.le_of_ble_eq_true rfl) ⟨Nat.zero_le _, Nat.zero_le _⟩ dX6_takes_137 rfl ?_
  refine r_nGM (fun G1 eG1 => ?_)
  refine r_iconst E (q := 141) (v := 0) dX6_takes_140 (by decide) rfl ?_
  refine r_istore E (q := 143) (lv' := [(0, .ref (ad 0)), (1, .int x), (2, .int i9), (3, .int at9), (4, .int 0)]) [1, 2, 3, 4, 0] dX6_takes_141 (by rw [hz]; decide) rfl rfl ?_
  refine r_iload E (q := 145) 4 dX6_takes_143 rfl rfl ?_
  refine r_bipush E (q := 147) (v := 6) dX6_takes_145 (by decide) rfl ?_
  refine r_icmp_ge E (q := 150) 197 dX6_takes_147 (by decide) rfl (fun c1 => absurd c1 (by decide)) (fun _ => ?_)
  refine r_aload_n E (q := 151) 0 dX6_takes_150 rfl rfl rfl ?_
  refine r_get E (q := 154) fX6_69 0 wm_0 rfl dX6_takes_151 rfl ?_
  refine r_iload_n E (q := 155) 1 dX6_takes_154 rfl rfl rfl ?_
  refine r_iload_n E (q := 156) 2 dX6_takes_155 rfl rfl rfl ?_
  refine rSi E (q := 159) csX6_196 T.rr [.int x, .int i9] (c_X6_place x i9) (by omega) rfl rfl (Nat.le_of_ble_eq_true rfl) ⟨Nat.zero_le _, Nat.zero_le _⟩ dX6_takes_156 rfl ?_
  refine r_iload E (q := 161) 4 dX6_takes_159 rfl rfl ?_
  refine r_iadd E (q := 162) dX6_takes_161 rfl ?_
  refine r_aload_n E (q := 163) 0 dX6_takes_162 rfl rfl rfl ?_
  refine r_get E (q := 166) fX6_50 0 wm_0 rfl dX6_takes_163 rfl ?_
  refine r_iload_n E (q := 167) 1 dX6_takes_166 rfl rfl rfl ?_
  refine r_iald E (q := 168) 14 wm_14 hx dX6_takes_167 rfl ?_
  refine r_iload E (q := 170) 4 dX6_takes_168 rfl rfl ?_
  refine r_ishr E (q := 171) dX6_takes_170 rfl ?_
  refine r_iconst E (q := 172) (v := 1) dX6_takes_171 (by decide) rfl ?_
  refine r_iand E (q := 173) dX6_takes_172 rfl ?_
  refine r_iconst E (q := 174) (v := 1) dX6_takes_173 (by decide) rfl ?_
  refine r_join 190 (if ((G1 14 (ix x)) >>> (0 &&& 31)) &&& 1 = 1 then (G1 20 (ix (at9 + 0))) else 0) (rest := [.int ((fX6_place x i9) + 0), .ref (ad 20)]) ?_ (fun hj1 => ?_)
  · refine r_iast E (q := 191) 20 wm_20 (off_in (m := 0) h_pl (by omega)) wmu_20 dX6_takes_190 rfl ?_
    refine r_nGM (fun G2 eG2 => ?_)
    refine r_iinc E (q := 194) (v := 1) (lv' := [(0, .ref (ad 0)), (1, .int x), (2, .int i9), (3, .int at9), (4, .int 1)]) 4 [1, 2, 3, 4, 0] dX6_takes_191 rfl (by rfl) (by rw [hz]; decide) rfl rfl ?_
    refine r_goto E 143 dX6_takes_194 (by decide) ?_
    refine r_iload E (q := 145) 4 dX6_takes_143 rfl rfl ?_
    refine r_bipush E (q := 147) (v := 6) dX6_takes_145 (by decide) rfl ?_
    refine r_icmp_ge E (q := 150) 197 dX6_takes_147 (by decide) rfl (fun c3 => absurd c3 (by decide)) (fun _ => ?_)
    refine r_aload_n E (q := 151) 0 dX6_takes_150 rfl rfl rfl ?_
    refine r_get E (q := 154) fX6_69 0 wm_0 rfl dX6_takes_151 rfl ?_
    refine r_iload_n E (q := 155) 1 dX6_takes_154 rfl rfl rfl ?_
    refine r_iload_n E (q := 156) 2 dX6_takes_155 rfl rfl rfl ?_
    refine rSi E (q := 159) csX6_196 T.rr [.int x, .int i9] (c_X6_place x i9) (by omega) rfl rfl (Nat.le_of_ble_eq_true rfl) ⟨Nat.zero_le _, Nat.zero_le _⟩ dX6_takes_156 rfl ?_
    refine r_iload E (q := 161) 4 dX6_takes_159 rfl rfl ?_
    refine r_iadd E (q := 162) dX6_takes_161 rfl ?_
    refine r_aload_n E (q := 163) 0 dX6_takes_162 rfl rfl rfl ?_
    refine r_get E (q := 166) fX6_50 0 wm_0 rfl dX6_takes_163 rfl ?_
    refine r_iload_n E (q := 167) 1 dX6_takes_166 rfl rfl rfl ?_
    refine r_iald E (q := 168) 14 wm_14 hx dX6_takes_167 rfl ?_
    refine r_iload E (q := 170) 4 dX6_takes_168 rfl rfl ?_
    refine r_ishr E (q := 171) dX6_takes_170 rfl ?_
    refine r_iconst E (q := 172) (v := 1) dX6_takes_171 (by decide) rfl ?_
    refine r_iand E (q := 173) dX6_takes_172 rfl ?_
    refine r_iconst E (q := 174) (v := 1) dX6_takes_173 (by decide) rfl ?_
    refine r_join 190 (if ((G2 14 (ix x)) >>> (1 &&& 31)) &&& 1 = 1 then (G2 20 (ix (at9 + 1))) else 0) (rest := [.int ((fX6_place x i9) + 1), .ref (ad 20)]) ?_ (fun hj2 => ?_)
    · refine r_iast E (q := 191) 20 wm_20 (off_in (m := 1) h_pl (by omega)) wmu_20 dX6_takes_190 rfl ?_
      refine r_nGM (fun G3 eG3 => ?_)
      refine r_iinc E (q := 194) (v := 2) (lv' := [(0, .ref (ad 0)), (1, .int x), (2, .int i9), (3, .int at9), (4, .int 2)]) 4 [1, 2, 3, 4, 0] dX6_takes_191 rfl (by rfl) (by rw [hz]; decide) rfl rfl ?_
      refine r_goto E 143 dX6_takes_194 (by decide) ?_
      refine r_iload E (q := 145) 4 dX6_takes_143 rfl rfl ?_
      refine r_bipush E (q := 147) (v := 6) dX6_takes_145 (by decide) rfl ?_
      refine r_icmp_ge E (q := 150) 197 dX6_takes_147 (by decide) rfl (fun c5 => absurd c5 (by decide)) (fun _ => ?_)
      refine r_aload_n E (q := 151) 0 dX6_takes_150 rfl rfl rfl ?_
      refine r_get E (q := 154) fX6_69 0 wm_0 rfl dX6_takes_151 rfl ?_
      refine r_iload_n E (q := 155) 1 dX6_takes_154 rfl rfl rfl ?_
      refine r_iload_n E (q := 156) 2 dX6_takes_155 rfl rfl rfl ?_
      refine rSi E (q := 159) csX6_196 T.rr [.int x, .int i9] (c_X6_place x i9) (by omega) rfl rfl (Nat.le_of_ble_eq_true rfl) ⟨Nat.zero_le _, Nat.zero_le _⟩ dX6_takes_156 rfl ?_
      refine r_iload E (q := 161) 4 dX6_takes_159 rfl rfl ?_
      refine r_iadd E (q := 162) dX6_takes_161 rfl ?_
      refine r_aload_n E (q := 163) 0 dX6_takes_162 rfl rfl rfl ?_
      refine r_get E (q := 166) fX6_50 0 wm_0 rfl dX6_takes_163 rfl ?_
      refine r_iload_n E (q := 167) 1 dX6_takes_166 rfl rfl rfl ?_
      refine r_iald E (q := 168) 14 wm_14 hx dX6_takes_167 rfl ?_
      refine r_iload E (q := 170) 4 dX6_takes_168 rfl rfl ?_
      refine r_ishr E (q := 171) dX6_takes_170 rfl ?_
      refine r_iconst E (q := 172) (v := 1) dX6_takes_171 (by decide) rfl ?_
      refine r_iand E (q := 173) dX6_takes_172 rfl ?_
      refine r_iconst E (q := 174) (v := 1) dX6_takes_173 (by decide) rfl ?_
      refine r_join 190 (if ((G3 14 (ix x)) >>> (2 &&& 31)) &&& 1 = 1 then (G3 20 (ix (at9 + 2))) else 0) (rest := [.int ((fX6_place x i9) + 2), .ref (ad 20)]) ?_ (fun hj3 => ?_)
      · refine r_iast E (q := 191) 20 wm_20 (off_in (m := 2) h_pl (by omega)) wmu_20 dX6_takes_190 rfl ?_
        refine r_nGM (fun G4 eG4 => ?_)
        refine r_iinc E (q := 194) (v := 3) (lv' := [(0, .ref (ad 0)), (1, .int x), (2, .int i9), (3, .int at9), (4, .int 3)]) 4 [1, 2, 3, 4, 0] dX6_takes_191 rfl (by rfl) (by rw [hz]; decide) rfl rfl ?_
        refine r_goto E 143 dX6_takes_194 (by decide) ?_
        refine r_iload E (q := 145) 4 dX6_takes_143 rfl rfl ?_
        refine r_bipush E (q := 147) (v := 6) dX6_takes_145 (by decide) rfl ?_
        refine r_icmp_ge E (q := 150) 197 dX6_takes_147 (by decide) rfl (fun c7 => absurd c7 (by decide)) (fun _ => ?_)
        refine r_aload_n E (q := 151) 0 dX6_takes_150 rfl rfl rfl ?_
        refine r_get E (q := 154) fX6_69 0 wm_0 rfl dX6_takes_151 rfl ?_
        refine r_iload_n E (q := 155) 1 dX6_takes_154 rfl rfl rfl ?_
        refine r_iload_n E (q := 156) 2 dX6_takes_155 rfl rfl rfl ?_
        refine rSi E (q := 159) csX6_196 T.rr [.int x, .int i9] (c_X6_place x i9) (by omega) rfl rfl (Nat.le_of_ble_eq_true rfl) ⟨Nat.zero_le _, Nat.zero_le _⟩ dX6_takes_156 rfl ?_
        refine r_iload E (q := 161) 4 dX6_takes_159 rfl rfl ?_
        refine r_iadd E (q := 162) dX6_takes_161 rfl ?_
        refine r_aload_n E (q := 163) 0 dX6_takes_162 rfl rfl rfl ?_
        refine r_get E (q := 166) fX6_50 0 wm_0 rfl dX6_takes_163 rfl ?_
        refine r_iload_n E (q := 167) 1 dX6_takes_166 rfl rfl rfl ?_
        refine r_iald E (q := 168) 14 wm_14 hx dX6_takes_167 rfl ?_
        refine r_iload E (q := 170) 4 dX6_takes_168 rfl rfl ?_
        refine r_ishr E (q := 171) dX6_takes_170 rfl ?_
        refine r_iconst E (q := 172) (v := 1) dX6_takes_171 (by decide) rfl ?_
        refine r_iand E (q := 173) dX6_takes_172 rfl ?_
        refine r_iconst E (q := 174) (v := 1) dX6_takes_173 (by decide) rfl ?_
        refine r_join 190 (if ((G4 14 (ix x)) >>> (3 &&& 31)) &&& 1 = 1 then (G4 20 (ix (at9 + 3))) else 0) (rest := [.int ((fX6_place x i9) + 3), .ref (ad 20)]) ?_ (fun hj4 => ?_)
        · refine r_iast E (q := 191) 20 wm_20 (off_in (m := 3) h_pl (by omega)) wmu_20 dX6_takes_190 rfl ?_
          refine r_nGM (fun G5 eG5 => ?_)
          refine r_iinc E (q := 194) (v := 4) (lv' := [(0, .ref (ad 0)), (1, .int x), (2, .int i9), (3, .int at9), (4, .int 4)]) 4 [1, 2, 3, 4, 0] dX6_takes_191 rfl (by rfl) (by rw [hz]; decide) rfl rfl ?_
          refine r_goto E 143 dX6_takes_194 (by decide) ?_
          refine r_iload E (q := 145) 4 dX6_takes_143 rfl rfl ?_
          refine r_bipush E (q := 147) (v := 6) dX6_takes_145 (by decide) rfl ?_
          refine r_icmp_ge E (q := 150) 197 dX6_takes_147 (by decide) rfl (fun c9 => absurd c9 (by decide)) (fun _ => ?_)
          refine r_aload_n E (q := 151) 0 dX6_takes_150 rfl rfl rfl ?_
          refine r_get E (q := 154) fX6_69 0 wm_0 rfl dX6_takes_151 rfl ?_
          refine r_iload_n E (q := 155) 1 dX6_takes_154 rfl rfl rfl ?_
          refine r_iload_n E (q := 156) 2 dX6_takes_155 rfl rfl rfl ?_
          refine rSi E (q := 159) csX6_196 T.rr [.int x, .int i9] (c_X6_place x i9) (by omega) rfl rfl (Nat.le_of_ble_eq_true rfl) ⟨Nat.zero_le _, Nat.zero_le _⟩ dX6_takes_156 rfl ?_
          refine r_iload E (q := 161) 4 dX6_takes_159 rfl rfl ?_
          refine r_iadd E (q := 162) dX6_takes_161 rfl ?_
          refine r_aload_n E (q := 163) 0 dX6_takes_162 rfl rfl rfl ?_
          refine r_get E (q := 166) fX6_50 0 wm_0 rfl dX6_takes_163 rfl ?_
          refine r_iload_n E (q := 167) 1 dX6_takes_166 rfl rfl rfl ?_
          refine r_iald E (q := 168) 14 wm_14 hx dX6_takes_167 rfl ?_
          refine r_iload E (q := 170) 4 dX6_takes_168 rfl rfl ?_
          refine r_ishr E (q := 171) dX6_takes_170 rfl ?_
          refine r_iconst E (q := 172) (v := 1) dX6_takes_171 (by decide) rfl ?_
          refine r_iand E (q := 173) dX6_takes_172 rfl ?_
          refine r_iconst E (q := 174) (v := 1) dX6_takes_173 (by decide) rfl ?_
          refine r_join 190 (if ((G5 14 (ix x)) >>> (4 &&& 31)) &&& 1 = 1 then (G5 20 (ix (at9 + 4))) else 0) (rest := [.int ((fX6_place x i9) + 4), .ref (ad 20)]) ?_ (fun hj5 => ?_)
          · refine r_iast E (q := 191) 20 wm_20 (off_in (m := 4) h_pl (by omega)) wmu_20 dX6_takes_190 rfl ?_
            refine r_nGM (fun G6 eG6 => ?_)
            refine r_iinc E (q := 194) (v := 5) (lv' := [(0, .ref (ad 0)), (1, .int x), (2, .int i9), (3, .int at9), (4, .int 5)]) 4 [1, 2, 3, 4, 0] dX6_takes_191 rfl (by rfl) (by rw [hz]; decide) rfl rfl ?_
            refine r_goto E 143 dX6_takes_194 (by decide) ?_
            refine r_iload E (q := 145) 4 dX6_takes_143 rfl rfl ?_
            refine r_bipush E (q := 147) (v := 6) dX6_takes_145 (by decide) rfl ?_
            refine r_icmp_ge E (q := 150) 197 dX6_takes_147 (by decide) rfl (fun c11 => absurd c11 (by decide)) (fun _ => ?_)
            refine r_aload_n E (q := 151) 0 dX6_takes_150 rfl rfl rfl ?_
            refine r_get E (q := 154) fX6_69 0 wm_0 rfl dX6_takes_151 rfl ?_
            refine r_iload_n E (q := 155) 1 dX6_takes_154 rfl rfl rfl ?_
            refine r_iload_n E (q := 156) 2 dX6_takes_155 rfl rfl rfl ?_
            refine rSi E (q := 159) csX6_196 T.rr [.int x, .int i9] (c_X6_place x i9) (by omega) rfl rfl (Nat.le_of_ble_eq_true rfl) ⟨Nat.zero_le _, Nat.zero_le _⟩ dX6_takes_156 rfl ?_
            refine r_iload E (q := 161) 4 dX6_takes_159 rfl rfl ?_
            refine r_iadd E (q := 162) dX6_takes_161 rfl ?_
            refine r_aload_n E (q := 163) 0 dX6_takes_162 rfl rfl rfl ?_
            refine r_get E (q := 166) fX6_50 0 wm_0 rfl dX6_takes_163 rfl ?_
            refine r_iload_n E (q := 167) 1 dX6_takes_166 rfl rfl rfl ?_
            refine r_iald E (q := 168) 14 wm_14 hx dX6_takes_167 rfl ?_
            refine r_iload E (q := 170) 4 dX6_takes_168 rfl rfl ?_
            refine r_ishr E (q := 171) dX6_takes_170 rfl ?_
            refine r_iconst E (q := 172) (v := 1) dX6_takes_171 (by decide) rfl ?_
            refine r_iand E (q := 173) dX6_takes_172 rfl ?_
            refine r_iconst E (q := 174) (v := 1) dX6_takes_173 (by decide) rfl ?_
            refine r_join 190 (if ((G6 14 (ix x)) >>> (5 &&& 31)) &&& 1 = 1 then (G6 20 (ix (at9 + 5))) else 0) (rest := [.int ((fX6_place x i9) + 5), .ref (ad 20)]) ?_ (fun hj6 => ?_)
            · refine r_iast E (q := 191) 20 wm_20 (off_in (m := 5) h_pl (by omega)) wmu_20 dX6_takes_190 rfl ?_
              refine r_nGM (fun G7 eG7 => ?_)
              refine r_iinc E (q := 194) (v := 6) (lv' := [(0, .ref (ad 0)), (1, .int x), (2, .int i9), (3, .int at9), (4, .int 6)]) 4 [1, 2, 3, 4, 0] dX6_takes_191 rfl (by rfl) (by rw [hz]; decide) rfl rfl ?_
              refine r_goto E 143 dX6_takes_194 (by decide) ?_
              refine r_iload E (q := 145) 4 dX6_takes_143 rfl rfl ?_
              refine r_bipush E (q := 147) (v := 6) dX6_takes_145 (by decide) rfl ?_
              refine r_icmp_ge E (q := 150) 197 dX6_takes_147 (by decide) rfl (fun _ => ?_) (fun c13 => absurd c13 (by decide))
              refine r_goto E 261 dX6_takes_197 (by decide) ?_
              exact r_vret E T dX6_takes_261 (k1 G1 G2 G3 G4 G5 G6 G7 eG1 eG2 eG3 eG4 eG5 eG6 eG7)
            · refine r_icmp_ne E (q := 177) 189 dX6_takes_174 (by decide) rfl (fun c12 => ?_) (fun c12 => ?_)
              · refine r_iconst E (q := 190) (v := 0) dX6_takes_189 (by decide) rfl ?_
                exact hj6 _ (if_neg c12).symm
              · refine r_aload_n E (q := 178) 0 dX6_takes_177 rfl rfl rfl ?_
                refine r_get E (q := 181) fX6_69 0 wm_0 rfl dX6_takes_178 rfl ?_
                refine r_iload_n E (q := 182) 3 dX6_takes_181 rfl rfl rfl ?_
                refine r_iload E (q := 184) 4 dX6_takes_182 rfl rfl ?_
                refine r_iadd E (q := 185) dX6_takes_184 rfl ?_
                refine r_iald E (q := 186) 20 wm_20 (off_in (m := 5) h_at9 (by omega)) dX6_takes_185 rfl ?_
                refine r_goto E 190 dX6_takes_186 (by decide) ?_
                exact hj6 _ (if_pos c12).symm
          · refine r_icmp_ne E (q := 177) 189 dX6_takes_174 (by decide) rfl (fun c10 => ?_) (fun c10 => ?_)
            · refine r_iconst E (q := 190) (v := 0) dX6_takes_189 (by decide) rfl ?_
              exact hj5 _ (if_neg c10).symm
            · refine r_aload_n E (q := 178) 0 dX6_takes_177 rfl rfl rfl ?_
              refine r_get E (q := 181) fX6_69 0 wm_0 rfl dX6_takes_178 rfl ?_
              refine r_iload_n E (q := 182) 3 dX6_takes_181 rfl rfl rfl ?_
              refine r_iload E (q := 184) 4 dX6_takes_182 rfl rfl ?_
              refine r_iadd E (q := 185) dX6_takes_184 rfl ?_
              refine r_iald E (q := 186) 20 wm_20 (off_in (m := 4) h_at9 (by omega)) dX6_takes_185 rfl ?_
              refine r_goto E 190 dX6_takes_186 (by decide) ?_
              exact hj5 _ (if_pos c10).symm
        · refine r_icmp_ne E (q := 177) 189 dX6_takes_174 (by decide) rfl (fun c8 => ?_) (fun c8 => ?_)
          · refine r_iconst E (q := 190) (v := 0) dX6_takes_189 (by decide) rfl ?_
            exact hj4 _ (if_neg c8).symm
          · refine r_aload_n E (q := 178) 0 dX6_takes_177 rfl rfl rfl ?_
            refine r_get E (q := 181) fX6_69 0 wm_0 rfl dX6_takes_178 rfl ?_
            refine r_iload_n E (q := 182) 3 dX6_takes_181 rfl rfl rfl ?_
            refine r_iload E (q := 184) 4 dX6_takes_182 rfl rfl ?_
            refine r_iadd E (q := 185) dX6_takes_184 rfl ?_
            refine r_iald E (q := 186) 20 wm_20 (off_in (m := 3) h_at9 (by omega)) dX6_takes_185 rfl ?_
            refine r_goto E 190 dX6_takes_186 (by decide) ?_
            exact hj4 _ (if_pos c8).symm
      · refine r_icmp_ne E (q := 177) 189 dX6_takes_174 (by decide) rfl (fun c6 => ?_) (fun c6 => ?_)
        · refine r_iconst E (q := 190) (v := 0) dX6_takes_189 (by decide) rfl ?_
          exact hj3 _ (if_neg c6).symm
        · refine r_aload_n E (q := 178) 0 dX6_takes_177 rfl rfl rfl ?_
          refine r_get E (q := 181) fX6_69 0 wm_0 rfl dX6_takes_178 rfl ?_
          refine r_iload_n E (q := 182) 3 dX6_takes_181 rfl rfl rfl ?_
          refine r_iload E (q := 184) 4 dX6_takes_182 rfl rfl ?_
          refine r_iadd E (q := 185) dX6_takes_184 rfl ?_
          refine r_iald E (q := 186) 20 wm_20 (off_in (m := 2) h_at9 (by omega)) dX6_takes_185 rfl ?_
          refine r_goto E 190 dX6_takes_186 (by decide) ?_
          exact hj3 _ (if_pos c6).symm
    · refine r_icmp_ne E (q := 177) 189 dX6_takes_174 (by decide) rfl (fun c4 => ?_) (fun c4 => ?_)
      · refine r_iconst E (q := 190) (v := 0) dX6_takes_189 (by decide) rfl ?_
        exact hj2 _ (if_neg c4).symm
      · refine r_aload_n E (q := 178) 0 dX6_takes_177 rfl rfl rfl ?_
        refine r_get E (q := 181) fX6_69 0 wm_0 rfl dX6_takes_178 rfl ?_
        refine r_iload_n E (q := 182) 3 dX6_takes_181 rfl rfl rfl ?_
        refine r_iload E (q := 184) 4 dX6_takes_182 rfl rfl ?_
        refine r_iadd E (q := 185) dX6_takes_184 rfl ?_
        refine r_iald E (q := 186) 20 wm_20 (off_in (m := 1) h_at9 (by omega)) dX6_takes_185 rfl ?_
        refine r_goto E 190 dX6_takes_186 (by decide) ?_
        exact hj2 _ (if_pos c4).symm
  · refine r_icmp_ne E (q := 177) 189 dX6_takes_174 (by decide) rfl (fun c2 => ?_) (fun c2 => ?_)
    · refine r_iconst E (q := 190) (v := 0) dX6_takes_189 (by decide) rfl ?_
      exact hj1 _ (if_neg c2).symm
    · refine r_aload_n E (q := 178) 0 dX6_takes_177 rfl rfl rfl ?_
      refine r_get E (q := 181) fX6_69 0 wm_0 rfl dX6_takes_178 rfl ?_
      refine r_iload_n E (q := 182) 3 dX6_takes_181 rfl rfl rfl ?_
      refine r_iload E (q := 184) 4 dX6_takes_182 rfl rfl ?_
      refine r_iadd E (q := 185) dX6_takes_184 rfl ?_
      refine r_iald E (q := 186) 20 wm_20 (off_in (m := 0) h_at9 (by omega)) dX6_takes_185 rfl ?_
      refine r_goto E 190 dX6_takes_186 (by decide) ?_
      exact hj1 _ (if_pos c2).symm
set_option maxRecDepth 100000 in
set_option maxHeartbeats 800000 in
theorem tk_4 {z : Zt} (E : EN z cX6_takes RX6) {w0 : va_W} {P : Option Value → va_W → Prop} {lvl : Nat} (T : RT z none lvl w0 P 0 0) (hz : zn z = 5) {ad : Nat → Nat} {G : Nat → Nat → Int32} {V : Nat → Int32} (hlv : 5 ≤ lvl) (x i9 at9 : Int32) (hx : vp_in x 60) (h_at9 : ∃ a : Nat, at9 = nI a ∧ a + 6 ≤ 36000 ∧ 36000 < 2 ^ 31) (hkd : G 10 (ix x) = 4) (Qj : (Nat → Nat → Int32) → Prop) (hj : CT (zl z) (zk z) yX6_joins cX6_joins 8 none 4 [.ref (ad 0), .int x, .int at9] (WM (zk z) ad G V) (fun v w' => v = none ∧ ∃ G', w' = WM (zk z) ad G' V ∧ Qj G') 0 0) 
    (k1 : ∀ (Ga : Nat → Nat → Int32), Qj Ga → P none (WM (zk z) ad Ga V)) :
    WW z 0 0 (WM (zk z) ad G V) 0 [(0, .ref (ad 0)), (1, .int x), (2, .int i9), (3, .int at9)] [] := by
  refine r_aload_n E (q := 1) 0 dX6_takes_0 rfl rfl rfl ?_
  refine r_get E (q := 4) fX6_38 0 wm_0 rfl dX6_takes_1 rfl ?_
  refine r_iload_n E (q := 5) 1 dX6_takes_4 rfl rfl rfl ?_
  refine r_iald E (q := 6) 10 wm_10 hx dX6_takes_5 rfl ?_
  refine r_tabIn E 4 hkd 200 dX6_takes_6 (by decide) (by rfl) (by decide) ?_
  refine r_aload_n E (q := 201) 0 dX6_takes_200 rfl rfl rfl ?_
  refine r_iload_n E (q := 202) 1 dX6_takes_201 rfl rfl rfl ?_
  refine r_iload_n E (q := 203) 3 dX6_takes_202 rfl rfl rfl ?_
  refine rV E cvX6_213 T.rr Fr.all 0 wm_0 rfl [.int x, .int at9] hj (by omega) rfl rfl (Nat.le_of_ble_eq_true rfl) ⟨Nat.zero_le _, Nat.zero_le _⟩ dX6_takes_203 (fun v9 w9 h9 => ?_)
  obtain ⟨rfl, Ga, rfl, hq⟩ := h9
  show WW z 0 0 (WM (zk z) ad Ga V) 206 [(0, .ref (ad 0)), (1, .int x), (2, .int i9), (3, .int at9)] []
  refine r_goto E 261 dX6_takes_206 (by decide) ?_
  exact r_vret E T dX6_takes_261 (k1 Ga hq)
set_option maxRecDepth 100000 in
set_option maxHeartbeats 800000 in
theorem tk_6 {z : Zt} (E : EN z cX6_takes RX6) {w0 : va_W} {P : Option Value → va_W → Prop} {lvl : Nat} (T : RT z none lvl w0 P 0 0) (hz : zn z = 5) {ad : Nat → Nat} {G : Nat → Nat → Int32} {V : Nat → Int32} (hlv : 5 ≤ lvl) (x i9 at9 : Int32) (hx : vp_in x 60) (h_at9 : ∃ a : Nat, at9 = nI a ∧ a + 6 ≤ 36000 ∧ 36000 < 2 ^ 31) (hkd : G 10 (ix x) = 6) (Qj : (Nat → Nat → Int32) → Prop) (hj : CT (zl z) (zk z) yX6_folds cX6_folds 6 none 1 [.ref (ad 0), .int x, .int at9] (WM (zk z) ad G V) (fun v w' => v = none ∧ ∃ G', w' = WM (zk z) ad G' V ∧ Qj G') 0 0) 
    (k1 : ∀ (Ga : Nat → Nat → Int32), Qj Ga → P none (WM (zk z) ad Ga V)) :
    WW z 0 0 (WM (zk z) ad G V) 0 [(0, .ref (ad 0)), (1, .int x), (2, .int i9), (3, .int at9)] [] := by
  refine r_aload_n E (q := 1) 0 dX6_takes_0 rfl rfl rfl ?_
  refine r_get E (q := 4) fX6_38 0 wm_0 rfl dX6_takes_1 rfl ?_
  refine r_iload_n E (q := 5) 1 dX6_takes_4 rfl rfl rfl ?_
  refine r_iald E (q := 6) 10 wm_10 hx dX6_takes_5 rfl ?_
  refine r_tabIn E 6 hkd 209 dX6_takes_6 (by decide) (by rfl) (by decide) ?_
  refine r_aload_n E (q := 210) 0 dX6_takes_209 rfl rfl rfl ?_
  refine r_iload_n E (q := 211) 1 dX6_takes_210 rfl rfl rfl ?_
  refine r_iload_n E (q := 212) 3 dX6_takes_211 rfl rfl rfl ?_
  refine rV E cvX6_216 T.rr Fr.all 0 wm_0 rfl [.int x, .int at9] hj (by omega) rfl rfl (Nat.le_of_ble_eq_true rfl) ⟨Nat.zero_le _, Nat.zero_le _⟩ dX6_takes_212 (fun v9 w9 h9 => ?_)
  obtain ⟨rfl, Ga, rfl, hq⟩ := h9
  show WW z 0 0 (WM (zk z) ad Ga V) 215 [(0, .ref (ad 0)), (1, .int x), (2, .int i9), (3, .int at9)] []
  refine r_goto E 261 dX6_takes_215 (by decide) ?_
  exact r_vret E T dX6_takes_261 (k1 Ga hq)
set_option maxRecDepth 100000 in
set_option maxHeartbeats 800000 in
theorem tk_7 {z : Zt} (E : EN z cX6_takes RX6) {w0 : va_W} {P : Option Value → va_W → Prop} {lvl : Nat} (T : RT z none lvl w0 P 0 0) (hz : zn z = 5) {ad : Nat → Nat} {G : Nat → Nat → Int32} {V : Nat → Int32} (hlv : 5 ≤ lvl) (x i9 at9 : Int32) (hx : vp_in x 60) (h_at9 : ∃ a : Nat, at9 = nI a ∧ a + 6 ≤ 36000 ∧ 36000 < 2 ^ 31) (hkd : G 10 (ix x) = 7) (h_to : ∃ a : Nat, fX6_place x (G 21 (ix x)) = nI a ∧ a + 6 ≤ 36000 ∧ 36000 < 2 ^ 31) (rh : Int32) (hh : CT (zl z) (zk z) yX6_has cX6_has 6 (some .boolean) 1 [.ref (ad 0), .int x, .int at9] (WM (zk z) ad G V) (eqI rh (WM (zk z) ad G V)) 0 0) 
    (k1 : ¬ (rh = 0) → P none (WM (zk z) ad G V)) 
    (k2 : ∀ (G1 : Nat → Nat → Int32), G1 = fX6_add_G G x at9 → rh = 0 → P none (WM (zk z) ad G1 V)) :
    WW z 0 0 (WM (zk z) ad G V) 0 [(0, .ref (ad 0)), (1, .int x), (2, .int i9), (3, .int at9)] [] := by
  refine r_aload_n E (q := 1) 0 dX6_takes_0 rfl rfl rfl ?_
  refine r_get E (q := 4) fX6_38 0 wm_0 rfl dX6_takes_1 rfl ?_
  refine r_iload_n E (q := 5) 1 dX6_takes_4 rfl rfl rfl ?_
  refine r_iald E (q := 6) 10 wm_10 hx dX6_takes_5 rfl ?_
  refine r_tabIn E 7 hkd 218 dX6_takes_6 (by decide) (by rfl) (by decide) ?_
  refine r_aload_n E (q := 219) 0 dX6_takes_218 rfl rfl rfl ?_
  refine r_iload_n E (q := 220) 1 dX6_takes_219 rfl rfl rfl ?_
  refine r_iload_n E (q := 221) 3 dX6_takes_220 rfl rfl rfl ?_
  refine rVi E (q := 224) cvX6_219 T.rr 0 wm_0 rfl [.int x, .int at9] hh (by omega) rfl rfl (Nat.le_of_ble_eq_true rfl) ⟨Nat.zero_le _, Nat.zero_le _⟩ dX6_takes_221 rfl ?_
  refine r_if_ne E (q := 227) 261 dX6_takes_224 (by decide) rfl (fun c1 => ?_) (fun c1 => ?_)
  · exact r_vret E T dX6_takes_261 (k1 c1)
  · refine r_aload_n E (q := 228) 0 dX6_takes_227 rfl rfl rfl ?_
    refine r_iload_n E (q := 229) 1 dX6_takes_228 rfl rfl rfl ?_
    refine r_iload_n E (q := 230) 3 dX6_takes_229 rfl rfl rfl ?_
    refine rVv E (q := 233) cvX6_206 T.rr 0 wm_0 rfl [.int x, .int at9] (c_X6_add x at9 hx h_at9 h_to) (by omega) rfl rfl (Nat.le_of_ble_eq_true rfl) ⟨Nat.zero_le _, Nat.zero_le _⟩ dX6_takes_230 rfl ?_
    refine r_nGM (fun G1 eG1 => ?_)
    refine r_goto E 261 dX6_takes_233 (by decide) ?_
    exact r_vret E T dX6_takes_261 (k2 G1 eG1 c1)
set_option maxRecDepth 100000 in
set_option maxHeartbeats 800000 in
theorem tk_8 {z : Zt} (E : EN z cX6_takes RX6) {w0 : va_W} {P : Option Value → va_W → Prop} {lvl : Nat} (T : RT z none lvl w0 P 0 0) (hz : zn z = 5) {ad : Nat → Nat} {G : Nat → Nat → Int32} {V : Nat → Int32} (hlv : 5 ≤ lvl) (x i9 at9 : Int32) (hx : vp_in x 60) (h_at9 : ∃ a : Nat, at9 = nI a ∧ a + 6 ≤ 36000 ∧ 36000 < 2 ^ 31) (hkd : G 10 (ix x) = 8) (h_to : ∃ a : Nat, fX6_place x (G 21 (ix x)) = nI a ∧ a + 6 ≤ 36000 ∧ 36000 < 2 ^ 31) 
    (k1 : G 14 (ix x) ≤ i9 → P none (WM (zk z) ad G V)) 
    (k2 : ∀ (G1 : Nat → Nat → Int32), G1 = fX6_add_G G x at9 → ¬ (G 14 (ix x) ≤ i9) → P none (WM (zk z) ad G1 V)) :
    WW z 0 0 (WM (zk z) ad G V) 0 [(0, .ref (ad 0)), (1, .int x), (2, .int i9), (3, .int at9)] [] := by
  refine r_aload_n E (q := 1) 0 dX6_takes_0 rfl rfl rfl ?_
  refine r_get E (q := 4) fX6_38 0 wm_0 rfl dX6_takes_1 rfl ?_
  refine r_iload_n E (q := 5) 1 dX6_takes_4 rfl rfl rfl ?_
  refine r_iald E (q := 6) 10 wm_10 hx dX6_takes_5 rfl ?_
  refine r_tabIn E 8 hkd 236 dX6_takes_6 (by decide) (by rfl) (by decide) ?_
  refine r_iload_n E (q := 237) 2 dX6_takes_236 rfl rfl rfl ?_
  refine r_aload_n E (q := 238) 0 dX6_takes_237 rfl rfl rfl ?_
  refine r_get E (q := 241) fX6_50 0 wm_0 rfl dX6_takes_238 rfl ?_
  refine r_iload_n E (q := 242) 1 dX6_takes_241 rfl rfl rfl ?_
  refine r_iald E (q := 243) 14 wm_14 hx dX6_takes_242 rfl ?_
  refine r_icmp_ge E (q := 246) 261 dX6_takes_243 (by decide) rfl (fun c1 => ?_) (fun c1 => ?_)
  · exact r_vret E T dX6_takes_261 (k1 c1)
  · refine r_aload_n E (q := 247) 0 dX6_takes_246 rfl rfl rfl ?_
    refine r_iload_n E (q := 248) 1 dX6_takes_247 rfl rfl rfl ?_
    refine r_iload_n E (q := 249) 3 dX6_takes_248 rfl rfl rfl ?_
    refine rVv E (q := 252) cvX6_206 T.rr 0 wm_0 rfl [.int x, .int at9] (c_X6_add x at9 hx h_at9 h_to) (by omega) rfl rfl (Nat.le_of_ble_eq_true rfl) ⟨Nat.zero_le _, Nat.zero_le _⟩ dX6_takes_249 rfl ?_
    refine r_nGM (fun G1 eG1 => ?_)
    refine r_goto E 261 dX6_takes_252 (by decide) ?_
    exact r_vret E T dX6_takes_261 (k2 G1 eG1 c1)
set_option maxRecDepth 100000 in
set_option maxHeartbeats 800000 in
theorem tk_5 {z : Zt} (E : EN z cX6_takes RX6) {w0 : va_W} {P : Option Value → va_W → Prop} {lvl : Nat} (T : RT z none lvl w0 P 0 0) (hz : zn z = 5) {ad : Nat → Nat} {G : Nat → Nat → Int32} {V : Nat → Int32} (hlv : 5 ≤ lvl) (x i9 at9 : Int32) (hx : vp_in x 60) (h_at9 : ∃ a : Nat, at9 = nI a ∧ a + 6 ≤ 36000 ∧ 36000 < 2 ^ 31) (hkd : G 10 (ix x) = 5) (h_to : ∃ a : Nat, fX6_place x (G 21 (ix x)) = nI a ∧ a + 6 ≤ 36000 ∧ 36000 < 2 ^ 31) 
    (k1 : ∀ (G1 : Nat → Nat → Int32), G1 = fX6_add_G G x at9 → P none (WM (zk z) ad G1 V)) :
    WW z 0 0 (WM (zk z) ad G V) 0 [(0, .ref (ad 0)), (1, .int x), (2, .int i9), (3, .int at9)] [] := by
  refine r_aload_n E (q := 1) 0 dX6_takes_0 rfl rfl rfl ?_
  refine r_get E (q := 4) fX6_38 0 wm_0 rfl dX6_takes_1 rfl ?_
  refine r_iload_n E (q := 5) 1 dX6_takes_4 rfl rfl rfl ?_
  refine r_iald E (q := 6) 10 wm_10 hx dX6_takes_5 rfl ?_
  refine r_tabIn E 5 hkd 255 dX6_takes_6 (by decide) (by rfl) (by decide) ?_
  refine r_aload_n E (q := 256) 0 dX6_takes_255 rfl rfl rfl ?_
  refine r_iload_n E (q := 257) 1 dX6_takes_256 rfl rfl rfl ?_
  refine r_iload_n E (q := 258) 3 dX6_takes_257 rfl rfl rfl ?_
  refine rVv E (q := 261) cvX6_206 T.rr 0 wm_0 rfl [.int x, .int at9] (c_X6_add x at9 hx h_at9 h_to) (by omega) rfl rfl (Nat.le_of_ble_eq_true rfl) ⟨Nat.zero_le _, Nat.zero_le _⟩ dX6_takes_258 rfl ?_
  refine r_nGM (fun G1 eG1 => ?_)
  exact r_vret E T dX6_takes_261 (k1 G1 eG1)
