set_option maxRecDepth 100000 in
set_option maxHeartbeats 800000 in
theorem r_a {z : Zt} (E : EN z cX6_run RX6) {w0 : va_W} {P : Option Value → va_W → Prop} {lvl : Nat} (T : RT z (some .int) lvl w0 P 0 0) (hz : zn z = 6) {ad : Nat → Nat} {G : Nat → Nat → Int32} {V : Nat → Int32} (hlv : 7 ≤ lvl) (x : Int32) 
    (k1 : ¬ (fX6_isNode V x = 0) → WW z 0 0 (WM (zk z) ad G V) 12 [(0, .ref (ad 0)), (1, .int x), (2, .int 0)] []) 
    (k2 : fX6_isNode V x = 0 → P (some (.int (-1))) (WM (zk z) ad G V)) :
    WW z 0 0 (WM (zk z) ad G V) 0 [(0, .ref (ad 0)), (1, .int x)] [] := by
  refine r_aload_n E (q := 1) 0 dX6_run_0 rfl rfl rfl ?_
  refine r_iload_n E (q := 2) 1 dX6_run_1 rfl rfl rfl ?_
  refine rVi E (q := 5) cvX6_148 T.rr 0 wm_0 rfl [.int x] (c_X6_isNode x) (by omega) rfl rfl (Nat.le_of_ble_eq_true rfl) ⟨Nat.zero_le _, Nat.zero_le _⟩ dX6_run_2 rfl ?_
  refine r_if_ne E (q := 8) 10 dX6_run_5 (by decide) rfl (fun c1 => ?_) (fun c1 => ?_)
  · refine r_iconst E (q := 11) (v := 0) dX6_run_10 (by decide) rfl ?_
    refine r_istore_n E (q := 12) (lv' := [(0, .ref (ad 0)), (1, .int x), (2, .int 0)]) [1, 2, 0] dX6_run_11 rfl (by rw [hz]; decide) rfl rfl ?_
    exact k1 c1
  · refine r_iconst E (q := 9) (v := (-1)) dX6_run_8 (by decide) rfl ?_
    exact r_iret E T dX6_run_9 (k2 c1)
set_option maxRecDepth 100000 in
set_option maxHeartbeats 800000 in
theorem r_b {z : Zt} (E : EN z cX6_run RX6) {w0 : va_W} {P : Option Value → va_W → Prop} {lvl : Nat} (T : RT z (some .int) lvl w0 P 0 0) (hz : zn z = 6) {ad : Nat → Nat} {G : Nat → Nat → Int32} {V : Nat → Int32} (hlv : 7 ≤ lvl) (x i9 : Int32) (hi : ¬ V 1 ≤ i9 → vp_in i9 60) 
    (k1 : ∀ (G1 : Nat → Nat → Int32), G1 = ug G 23 (ix 0) x → V 1 ≤ i9 → WW z 0 0 (WM (zk z) ad G1 (upd (upd V 5 0) 6 0)) 57 [(0, .ref (ad 0)), (1, .int x), (2, .int 0), (3, .int (-1)), (4, .int 1)] []) 
    (k2 : ∀ (G1 : Nat → Nat → Int32), G1 = ug G 22 (ix i9) 0 → ¬ (V 1 ≤ i9) → WW z 0 0 (WM (zk z) ad G1 V) 12 [(0, .ref (ad 0)), (1, .int x), (2, .int (i9 + 1))] []) :
    WW z 0 0 (WM (zk z) ad G V) 12 [(0, .ref (ad 0)), (1, .int x), (2, .int i9)] [] := by
  refine r_iload_n E (q := 13) 2 dX6_run_12 rfl rfl rfl ?_
  refine r_aload_n E (q := 14) 0 dX6_run_13 rfl rfl rfl ?_
  refine r_get E (q := 17) fX6_120 0 wm_0 rfl dX6_run_14 rfl ?_
  refine r_icmp_ge E (q := 20) 33 dX6_run_17 (by decide) rfl (fun c1 => ?_) (fun c1 => ?_)
  · refine r_aload_n E (q := 34) 0 dX6_run_33 rfl rfl rfl ?_
    refine r_iconst E (q := 35) (v := 0) dX6_run_34 (by decide) rfl ?_
    refine r_put E (q := 38) pX6_190 rfl 0 wm_0 rfl rfl (Nat.le_of_ble_eq_true rfl) wmv_5 dX6_run_35 rfl ?_
    refine r_aload_n E (q := 39) 0 dX6_run_38 rfl rfl rfl ?_
    refine r_iconst E (q := 40) (v := 0) dX6_run_39 (by decide) rfl ?_
    refine r_put E (q := 43) pX6_167 rfl 0 wm_0 rfl rfl (Nat.le_of_ble_eq_true rfl) wmv_6 dX6_run_40 rfl ?_
    refine r_iconst E (q := 44) (v := 0) dX6_run_43 (by decide) rfl ?_
    refine r_istore_n E (q := 45) (lv' := [(0, .ref (ad 0)), (1, .int x), (2, .int 0)]) [1, 2, 0] dX6_run_44 rfl (by rw [hz]; decide) rfl rfl ?_
    refine r_iconst E (q := 46) (v := (-1)) dX6_run_45 (by decide) rfl ?_
    refine r_istore_n E (q := 47) (lv' := [(0, .ref (ad 0)), (1, .int x), (2, .int 0), (3, .int (-1))]) [1, 2, 3, 0] dX6_run_46 rfl (by rw [hz]; decide) rfl rfl ?_
    refine r_iconst E (q := 48) (v := 1) dX6_run_47 (by decide) rfl ?_
    refine r_istore E (q := 50) (lv' := [(0, .ref (ad 0)), (1, .int x), (2, .int 0), (3, .int (-1)), (4, .int 1)]) [1, 2, 3, 4, 0] dX6_run_48 (by rw [hz]; decide) rfl rfl ?_
    refine r_aload_n E (q := 51) 0 dX6_run_50 rfl rfl rfl ?_
    refine r_get E (q := 54) fX6_78 0 wm_0 rfl dX6_run_51 rfl ?_
    refine r_iconst E (q := 55) (v := 0) dX6_run_54 (by decide) rfl ?_
    refine r_iload_n E (q := 56) 1 dX6_run_55 rfl rfl rfl ?_
    refine r_iast E (q := 57) 23 wm_23 (by unfold vp_in; decide) wmu_23 dX6_run_56 rfl ?_
    refine r_nGM (fun G1 eG1 => ?_)
    exact k1 G1 eG1 c1
  · refine r_aload_n E (q := 21) 0 dX6_run_20 rfl rfl rfl ?_
    refine r_get E (q := 24) fX6_75 0 wm_0 rfl dX6_run_21 rfl ?_
    refine r_iload_n E (q := 25) 2 dX6_run_24 rfl rfl rfl ?_
    refine r_iconst E (q := 26) (v := 0) dX6_run_25 (by decide) rfl ?_
    refine r_zast E (q := 27) 22 wm_22 (hi (by assumption)) (nar_b (Or.inl rfl)) wmu_22 dX6_run_26 rfl ?_
    refine r_nGM (fun G1 eG1 => ?_)
    refine r_iinc E (q := 30) (v := i9 + 1) (lv' := [(0, .ref (ad 0)), (1, .int x), (2, .int (i9 + 1))]) 2 [1, 2, 0] dX6_run_27 rfl (by rfl) (by rw [hz]; decide) rfl rfl ?_
    refine r_goto E 12 dX6_run_30 (by decide) ?_
    exact k2 G1 eG1 c1
set_option maxRecDepth 100000 in
set_option maxHeartbeats 800000 in
theorem r_c {z : Zt} (E : EN z cX6_run RX6) {w0 : va_W} {P : Option Value → va_W → Prop} {lvl : Nat} (T : RT z (some .int) lvl w0 P 0 0) (hz : zn z = 6) {ad : Nat → Nat} {G : Nat → Nat → Int32} {V : Nat → Int32} (hlv : 7 ≤ lvl) (x n9 g9 w9 : Int32) (hw : ¬ w9 ≤ 0 → vp_in (w9 - 1) 60) (hnn : ¬ w9 ≤ 0 → vp_in (G 23 (ix (w9 - 1))) 60) (hA : ¬ w9 ≤ 0 → ¬ G 10 (ix (G 23 (ix (w9 - 1)))) = 0 → vp_in (G 11 (ix (G 23 (ix (w9 - 1))))) 60) (hB : ¬ w9 ≤ 0 → ¬ fX6_isTwo (G 10 (ix (G 23 (ix (w9 - 1))))) = 0 → vp_in (G 12 (ix (G 23 (ix (w9 - 1))))) 60) (hw1 : ¬ w9 ≤ 0 → ¬ G 10 (ix (G 23 (ix (w9 - 1)))) = 0 → G 22 (ix (G 11 (ix (G 23 (ix (w9 - 1)))))) = 0 → vp_in w9 60) (hw2 : ¬ w9 ≤ 0 → ¬ fX6_isTwo (G 10 (ix (G 23 (ix (w9 - 1))))) = 0 → G 22 (ix (G 12 (ix (G 23 (ix (w9 - 1)))))) = 0 → vp_in w9 60) (Qd : (Nat → Nat → Int32) → (Nat → Int32) → Prop) (hd : ¬ w9 ≤ 0 → V 5 = 0 → (G 10 (ix (G 23 (ix (w9 - 1)))) = 0 ∨ ¬ G 22 (ix (G 11 (ix (G 23 (ix (w9 - 1)))))) = 0) → (fX6_isTwo (G 10 (ix (G 23 (ix (w9 - 1))))) = 0 ∨ ¬ G 22 (ix (G 12 (ix (G 23 (ix (w9 - 1)))))) = 0) → CT (zl z) (zk z) yX6_does cX6_does 5 none 6 [.ref (ad 0), .int (G 23 (ix (w9 - 1)))] (WM (zk z) ad G V) (fun v9 w' => v9 = none ∧ ∃ (G' : Nat → Nat → Int32) (V' : Nat → Int32), w' = WM (zk z) ad G' V' ∧ Qd G' V') 0 0) 
    (k1 : w9 ≤ 0 → WW z 0 0 (WM (zk z) ad G V) 210 [(0, .ref (ad 0)), (1, .int x), (2, .int n9), (3, .int g9)] []) 
    (k2 : ¬ (w9 ≤ 0) → ¬ (V 5 = 0) → WW z 0 0 (WM (zk z) ad G V) 210 [(0, .ref (ad 0)), (1, .int x), (2, .int n9), (3, .int g9)] []) 
    (k3 : ∀ (Ga : Nat → Nat → Int32) (Va : Nat → Int32), Qd Ga Va → ∀ (G1 : Nat → Nat → Int32), G1 = ug Ga 22 (ix (G 23 (ix (w9 - 1)))) 1 → ¬ (w9 ≤ 0) → V 5 = 0 → G 10 (ix (G 23 (ix (w9 - 1)))) = 0 → fX6_isTwo (G 10 (ix (G 23 (ix (w9 - 1))))) = 0 → WW z 0 0 (WM (zk z) ad G1 Va) 57 [(0, .ref (ad 0)), (1, .int x), (2, .int (n9 + 1)), (3, .int (if Va 5 = 0 then g9 else (G 23 (ix (w9 - 1))))), (4, .int (w9 + (-1)))] []) 
    (k4 : ∀ (Ga : Nat → Nat → Int32) (Va : Nat → Int32), Qd Ga Va → ∀ (G1 : Nat → Nat → Int32), G1 = ug Ga 22 (ix (G 23 (ix (w9 - 1)))) 1 → ¬ (w9 ≤ 0) → V 5 = 0 → G 10 (ix (G 23 (ix (w9 - 1)))) = 0 → ¬ (fX6_isTwo (G 10 (ix (G 23 (ix (w9 - 1))))) = 0) → ¬ (G 22 (ix (G 12 (ix (G 23 (ix (w9 - 1)))))) = 0) → WW z 0 0 (WM (zk z) ad G1 Va) 57 [(0, .ref (ad 0)), (1, .int x), (2, .int (n9 + 1)), (3, .int (if Va 5 = 0 then g9 else (G 23 (ix (w9 - 1))))), (4, .int (w9 + (-1)))] []) 
    (k5 : ∀ (G1 : Nat → Nat → Int32), G1 = ug G 23 (ix w9) (G 12 (ix (G 23 (ix (w9 - 1))))) → ¬ (w9 ≤ 0) → V 5 = 0 → G 10 (ix (G 23 (ix (w9 - 1)))) = 0 → ¬ (fX6_isTwo (G 10 (ix (G 23 (ix (w9 - 1))))) = 0) → G 22 (ix (G 12 (ix (G 23 (ix (w9 - 1)))))) = 0 → WW z 0 0 (WM (zk z) ad G1 V) 57 [(0, .ref (ad 0)), (1, .int x), (2, .int n9), (3, .int g9), (4, .int (w9 + 1))] []) 
    (k6 : ∀ (Ga : Nat → Nat → Int32) (Va : Nat → Int32), Qd Ga Va → ∀ (G1 : Nat → Nat → Int32), G1 = ug Ga 22 (ix (G 23 (ix (w9 - 1)))) 1 → ¬ (w9 ≤ 0) → V 5 = 0 → ¬ (G 10 (ix (G 23 (ix (w9 - 1)))) = 0) → ¬ (G 22 (ix (G 11 (ix (G 23 (ix (w9 - 1)))))) = 0) → fX6_isTwo (G 10 (ix (G 23 (ix (w9 - 1))))) = 0 → WW z 0 0 (WM (zk z) ad G1 Va) 57 [(0, .ref (ad 0)), (1, .int x), (2, .int (n9 + 1)), (3, .int (if Va 5 = 0 then g9 else (G 23 (ix (w9 - 1))))), (4, .int (w9 + (-1)))] []) 
    (k7 : ∀ (Ga : Nat → Nat → Int32) (Va : Nat → Int32), Qd Ga Va → ∀ (G1 : Nat → Nat → Int32), G1 = ug Ga 22 (ix (G 23 (ix (w9 - 1)))) 1 → ¬ (w9 ≤ 0) → V 5 = 0 → ¬ (G 10 (ix (G 23 (ix (w9 - 1)))) = 0) → ¬ (G 22 (ix (G 11 (ix (G 23 (ix (w9 - 1)))))) = 0) → ¬ (fX6_isTwo (G 10 (ix (G 23 (ix (w9 - 1))))) = 0) → ¬ (G 22 (ix (G 12 (ix (G 23 (ix (w9 - 1)))))) = 0) → WW z 0 0 (WM (zk z) ad G1 Va) 57 [(0, .ref (ad 0)), (1, .int x), (2, .int (n9 + 1)), (3, .int (if Va 5 = 0 then g9 else (G 23 (ix (w9 - 1))))), (4, .int (w9 + (-1)))] []) 
    (k8 : ∀ (G1 : Nat → Nat → Int32), G1 = ug G 23 (ix w9) (G 12 (ix (G 23 (ix (w9 - 1))))) → ¬ (w9 ≤ 0) → V 5 = 0 → ¬ (G 10 (ix (G 23 (ix (w9 - 1)))) = 0) → ¬ (G 22 (ix (G 11 (ix (G 23 (ix (w9 - 1)))))) = 0) → ¬ (fX6_isTwo (G 10 (ix (G 23 (ix (w9 - 1))))) = 0) → G 22 (ix (G 12 (ix (G 23 (ix (w9 - 1)))))) = 0 → WW z 0 0 (WM (zk z) ad G1 V) 57 [(0, .ref (ad 0)), (1, .int x), (2, .int n9), (3, .int g9), (4, .int (w9 + 1))] []) 
    (k9 : ∀ (G1 : Nat → Nat → Int32), G1 = ug G 23 (ix w9) (G 11 (ix (G 23 (ix (w9 - 1))))) → ¬ (w9 ≤ 0) → V 5 = 0 → ¬ (G 10 (ix (G 23 (ix (w9 - 1)))) = 0) → G 22 (ix (G 11 (ix (G 23 (ix (w9 - 1)))))) = 0 → WW z 0 0 (WM (zk z) ad G1 V) 57 [(0, .ref (ad 0)), (1, .int x), (2, .int n9), (3, .int g9), (4, .int (w9 + 1))] []) :
    WW z 0 0 (WM (zk z) ad G V) 57 [(0, .ref (ad 0)), (1, .int x), (2, .int n9), (3, .int g9), (4, .int w9)] [] := by
  refine r_iload E (q := 59) 4 dX6_run_57 rfl rfl ?_
  refine r_if_le E (q := 62) 210 dX6_run_59 (by decide) rfl (fun c1 => ?_) (fun c1 => ?_)
  · refine r_sub [0, 1, 2, 3] rfl ?_
    exact k1 c1
  · refine r_aload_n E (q := 63) 0 dX6_run_62 rfl rfl rfl ?_
    refine r_get E (q := 66) fX6_190 0 wm_0 rfl dX6_run_63 rfl ?_
    refine r_if_ne E (q := 69) 210 dX6_run_66 (by decide) rfl (fun c2 => ?_) (fun c2 => ?_)
    · refine r_sub [0, 1, 2, 3] rfl ?_
      exact k2 c1 c2
    · refine r_aload_n E (q := 70) 0 dX6_run_69 rfl rfl rfl ?_
      refine r_get E (q := 73) fX6_78 0 wm_0 rfl dX6_run_70 rfl ?_
      refine r_iload E (q := 75) 4 dX6_run_73 rfl rfl ?_
      refine r_iconst E (q := 76) (v := 1) dX6_run_75 (by decide) rfl ?_
      refine r_isub E (q := 77) dX6_run_76 rfl ?_
      refine r_iald E (q := 78) 23 wm_23 (hw (by assumption)) dX6_run_77 rfl ?_
      refine r_istore E (q := 80) (lv' := [(0, .ref (ad 0)), (1, .int x), (2, .int n9), (3, .int g9), (4, .int w9), (5, .int (G 23 (ix (w9 - 1))))]) [1, 2, 3, 4, 5, 0] dX6_run_78 (by rw [hz]; decide) rfl rfl ?_
      refine r_aload_n E (q := 81) 0 dX6_run_80 rfl rfl rfl ?_
      refine r_get E (q := 84) fX6_38 0 wm_0 rfl dX6_run_81 rfl ?_
      refine r_iload E (q := 86) 5 dX6_run_84 rfl rfl ?_
      refine r_iald E (q := 87) 10 wm_10 (hnn (by assumption)) dX6_run_86 rfl ?_
      refine r_if_eq E (q := 90) 125 dX6_run_87 (by decide) rfl (fun c3 => ?_) (fun c3 => ?_)
      · refine r_aload_n E (q := 126) 0 dX6_run_125 rfl rfl rfl ?_
        refine r_get E (q := 129) fX6_38 0 wm_0 rfl dX6_run_126 rfl ?_
        refine r_iload E (q := 131) 5 dX6_run_129 rfl rfl ?_
        refine r_iald E (q := 132) 10 wm_10 (hnn (by assumption)) dX6_run_131 rfl ?_
        refine rSi E (q := 135) csX6_129 T.rr [.int (G 10 (ix (G 23 (ix (w9 - 1)))))] (c_X6_isTwo (G 10 (ix (G 23 (ix (w9 - 1)))))) (by omega) rfl rfl (Nat.le_of_ble_eq_true rfl) ⟨Nat.zero_le _, Nat.zero_le _⟩ dX6_run_132 rfl ?_
        refine r_if_eq E (q := 138) 173 dX6_run_135 (by decide) rfl (fun c4 => ?_) (fun c4 => ?_)
        · refine r_aload_n E (q := 174) 0 dX6_run_173 rfl rfl rfl ?_
          refine r_iload E (q := 176) 5 dX6_run_174 rfl rfl ?_
          refine rV E cvX6_223 T.rr Fr.all 0 wm_0 rfl [.int (G 23 (ix (w9 - 1)))] (hd (by assumption) (by assumption) (by first | exact Or.inl (by assumption) | exact Or.inr (by assumption)) (by first | exact Or.inl (by assumption) | exact Or.inr (by assumption))) (by omega) rfl rfl (Nat.le_of_ble_eq_true rfl) ⟨Nat.zero_le _, Nat.zero_le _⟩ dX6_run_176 (fun v9 w9 h9 => ?_)
          obtain ⟨rfl, Ga, Va, rfl, hq⟩ := h9
          show WW z 0 0 (WM (zk z) ad Ga Va) 179 [(0, .ref (ad 0)), (1, .int x), (2, .int n9), (3, .int g9), (4, .int w9), (5, .int (G 23 (ix (w9 - 1))))] []
          refine r_iinc E (q := 182) (v := n9 + 1) (lv' := [(0, .ref (ad 0)), (1, .int x), (2, .int (n9 + 1)), (3, .int g9), (4, .int w9), (5, .int (G 23 (ix (w9 - 1))))]) 2 [1, 2, 0, 3, 4, 5] dX6_run_179 rfl (by rfl) (by rw [hz]; decide) rfl rfl ?_
          refine r_aload_n E (q := 183) 0 dX6_run_182 rfl rfl rfl ?_
          refine r_get E (q := 186) fX6_75 0 wm_0 rfl dX6_run_183 rfl ?_
          refine r_iload E (q := 188) 5 dX6_run_186 rfl rfl ?_
          refine r_iconst E (q := 189) (v := 1) dX6_run_188 (by decide) rfl ?_
          refine r_zast E (q := 190) 22 wm_22 (hnn (by assumption)) (nar_b (Or.inr rfl)) wmu_22 dX6_run_189 rfl ?_
          refine r_nGM (fun G1 eG1 => ?_)
          refine r_aload_n E (q := 191) 0 dX6_run_190 rfl rfl rfl ?_
          refine r_get E (q := 194) fX6_190 0 wm_0 rfl dX6_run_191 rfl ?_
          refine r_join 203 (if Va 5 = 0 then g9 else (G 23 (ix (w9 - 1)))) (rest := []) ?_ (fun hj1 => ?_)
          · refine r_istore_n E (q := 204) (lv' := [(0, .ref (ad 0)), (1, .int x), (2, .int (n9 + 1)), (3, .int (if Va 5 = 0 then g9 else (G 23 (ix (w9 - 1))))), (4, .int w9), (5, .int (G 23 (ix (w9 - 1))))]) [1, 2, 3, 0, 4, 5] dX6_run_203 rfl (by rw [hz]; decide) rfl rfl ?_
            refine r_iinc E (q := 207) (v := w9 + (-1)) (lv' := [(0, .ref (ad 0)), (1, .int x), (2, .int (n9 + 1)), (3, .int (if Va 5 = 0 then g9 else (G 23 (ix (w9 - 1))))), (4, .int (w9 + (-1))), (5, .int (G 23 (ix (w9 - 1))))]) 4 [1, 2, 3, 4, 0, 5] dX6_run_204 rfl (by rfl) (by rw [hz]; decide) rfl rfl ?_
            refine r_goto E 57 dX6_run_207 (by decide) ?_
            refine r_sub [0, 1, 2, 3, 4] rfl ?_
            exact k3 Ga Va hq G1 eG1 c1 c2 c3 c4
          · refine r_if_eq E (q := 197) 202 dX6_run_194 (by decide) rfl (fun c5 => ?_) (fun c5 => ?_)
            · refine r_iload_n E (q := 203) 3 dX6_run_202 rfl rfl rfl ?_
              exact hj1 _ (if_pos c5).symm
            · refine r_iload E (q := 199) 5 dX6_run_197 rfl rfl ?_
              refine r_goto E 203 dX6_run_199 (by decide) ?_
              exact hj1 _ (if_neg c5).symm
        · refine r_aload_n E (q := 139) 0 dX6_run_138 rfl rfl rfl ?_
          refine r_get E (q := 142) fX6_75 0 wm_0 rfl dX6_run_139 rfl ?_
          refine r_aload_n E (q := 143) 0 dX6_run_142 rfl rfl rfl ?_
          refine r_get E (q := 146) fX6_44 0 wm_0 rfl dX6_run_143 rfl ?_
          refine r_iload E (q := 148) 5 dX6_run_146 rfl rfl ?_
          refine r_iald E (q := 149) 12 wm_12 (hnn (by assumption)) dX6_run_148 rfl ?_
          refine r_zald E (q := 150) 22 wm_22 (hB (by assumption) (by assumption)) dX6_run_149 rfl ?_
          refine r_if_ne E (q := 153) 173 dX6_run_150 (by decide) rfl (fun c6 => ?_) (fun c6 => ?_)
          · refine r_aload_n E (q := 174) 0 dX6_run_173 rfl rfl rfl ?_
            refine r_iload E (q := 176) 5 dX6_run_174 rfl rfl ?_
            refine rV E cvX6_223 T.rr Fr.all 0 wm_0 rfl [.int (G 23 (ix (w9 - 1)))] (hd (by assumption) (by assumption) (by first | exact Or.inl (by assumption) | exact Or.inr (by assumption)) (by first | exact Or.inl (by assumption) | exact Or.inr (by assumption))) (by omega) rfl rfl (Nat.le_of_ble_eq_true rfl) ⟨Nat.zero_le _, Nat.zero_le _⟩ dX6_run_176 (fun v9 w9 h9 => ?_)
            obtain ⟨rfl, Ga, Va, rfl, hq⟩ := h9
            show WW z 0 0 (WM (zk z) ad Ga Va) 179 [(0, .ref (ad 0)), (1, .int x), (2, .int n9), (3, .int g9), (4, .int w9), (5, .int (G 23 (ix (w9 - 1))))] []
            refine r_iinc E (q := 182) (v := n9 + 1) (lv' := [(0, .ref (ad 0)), (1, .int x), (2, .int (n9 + 1)), (3, .int g9), (4, .int w9), (5, .int (G 23 (ix (w9 - 1))))]) 2 [1, 2, 0, 3, 4, 5] dX6_run_179 rfl (by rfl) (by rw [hz]; decide) rfl rfl ?_
            refine r_aload_n E (q := 183) 0 dX6_run_182 rfl rfl rfl ?_
            refine r_get E (q := 186) fX6_75 0 wm_0 rfl dX6_run_183 rfl ?_
            refine r_iload E (q := 188) 5 dX6_run_186 rfl rfl ?_
            refine r_iconst E (q := 189) (v := 1) dX6_run_188 (by decide) rfl ?_
            refine r_zast E (q := 190) 22 wm_22 (hnn (by assumption)) (nar_b (Or.inr rfl)) wmu_22 dX6_run_189 rfl ?_
            refine r_nGM (fun G1 eG1 => ?_)
            refine r_aload_n E (q := 191) 0 dX6_run_190 rfl rfl rfl ?_
            refine r_get E (q := 194) fX6_190 0 wm_0 rfl dX6_run_191 rfl ?_
            refine r_join 203 (if Va 5 = 0 then g9 else (G 23 (ix (w9 - 1)))) (rest := []) ?_ (fun hj2 => ?_)
            · refine r_istore_n E (q := 204) (lv' := [(0, .ref (ad 0)), (1, .int x), (2, .int (n9 + 1)), (3, .int (if Va 5 = 0 then g9 else (G 23 (ix (w9 - 1))))), (4, .int w9), (5, .int (G 23 (ix (w9 - 1))))]) [1, 2, 3, 0, 4, 5] dX6_run_203 rfl (by rw [hz]; decide) rfl rfl ?_
              refine r_iinc E (q := 207) (v := w9 + (-1)) (lv' := [(0, .ref (ad 0)), (1, .int x), (2, .int (n9 + 1)), (3, .int (if Va 5 = 0 then g9 else (G 23 (ix (w9 - 1))))), (4, .int (w9 + (-1))), (5, .int (G 23 (ix (w9 - 1))))]) 4 [1, 2, 3, 4, 0, 5] dX6_run_204 rfl (by rfl) (by rw [hz]; decide) rfl rfl ?_
              refine r_goto E 57 dX6_run_207 (by decide) ?_
              refine r_sub [0, 1, 2, 3, 4] rfl ?_
              exact k4 Ga Va hq G1 eG1 c1 c2 c3 c4 c6
            · refine r_if_eq E (q := 197) 202 dX6_run_194 (by decide) rfl (fun c7 => ?_) (fun c7 => ?_)
              · refine r_iload_n E (q := 203) 3 dX6_run_202 rfl rfl rfl ?_
                exact hj2 _ (if_pos c7).symm
              · refine r_iload E (q := 199) 5 dX6_run_197 rfl rfl ?_
                refine r_goto E 203 dX6_run_199 (by decide) ?_
                exact hj2 _ (if_neg c7).symm
          · refine r_aload_n E (q := 154) 0 dX6_run_153 rfl rfl rfl ?_
            refine r_get E (q := 157) fX6_78 0 wm_0 rfl dX6_run_154 rfl ?_
            refine r_iload E (q := 159) 4 dX6_run_157 rfl rfl ?_
            refine r_aload_n E (q := 160) 0 dX6_run_159 rfl rfl rfl ?_
            refine r_get E (q := 163) fX6_44 0 wm_0 rfl dX6_run_160 rfl ?_
            refine r_iload E (q := 165) 5 dX6_run_163 rfl rfl ?_
            refine r_iald E (q := 166) 12 wm_12 (hnn (by assumption)) dX6_run_165 rfl ?_
            refine r_iast E (q := 167) 23 wm_23 (hw2 (by assumption) (by assumption) (by assumption)) wmu_23 dX6_run_166 rfl ?_
            refine r_nGM (fun G1 eG1 => ?_)
            refine r_iinc E (q := 170) (v := w9 + 1) (lv' := [(0, .ref (ad 0)), (1, .int x), (2, .int n9), (3, .int g9), (4, .int (w9 + 1)), (5, .int (G 23 (ix (w9 - 1))))]) 4 [1, 2, 3, 4, 0, 5] dX6_run_167 rfl (by rfl) (by rw [hz]; decide) rfl rfl ?_
            refine r_goto E 207 dX6_run_170 (by decide) ?_
            refine r_goto E 57 dX6_run_207 (by decide) ?_
            refine r_sub [0, 1, 2, 3, 4] rfl ?_
            exact k5 G1 eG1 c1 c2 c3 c4 c6
      · refine r_aload_n E (q := 91) 0 dX6_run_90 rfl rfl rfl ?_
        refine r_get E (q := 94) fX6_75 0 wm_0 rfl dX6_run_91 rfl ?_
        refine r_aload_n E (q := 95) 0 dX6_run_94 rfl rfl rfl ?_
        refine r_get E (q := 98) fX6_41 0 wm_0 rfl dX6_run_95 rfl ?_
        refine r_iload E (q := 100) 5 dX6_run_98 rfl rfl ?_
        refine r_iald E (q := 101) 11 wm_11 (hnn (by assumption)) dX6_run_100 rfl ?_
        refine r_zald E (q := 102) 22 wm_22 (hA (by assumption) (by assumption)) dX6_run_101 rfl ?_
        refine r_if_ne E (q := 105) 125 dX6_run_102 (by decide) rfl (fun c8 => ?_) (fun c8 => ?_)
        · refine r_aload_n E (q := 126) 0 dX6_run_125 rfl rfl rfl ?_
          refine r_get E (q := 129) fX6_38 0 wm_0 rfl dX6_run_126 rfl ?_
          refine r_iload E (q := 131) 5 dX6_run_129 rfl rfl ?_
          refine r_iald E (q := 132) 10 wm_10 (hnn (by assumption)) dX6_run_131 rfl ?_
          refine rSi E (q := 135) csX6_129 T.rr [.int (G 10 (ix (G 23 (ix (w9 - 1)))))] (c_X6_isTwo (G 10 (ix (G 23 (ix (w9 - 1)))))) (by omega) rfl rfl (Nat.le_of_ble_eq_true rfl) ⟨Nat.zero_le _, Nat.zero_le _⟩ dX6_run_132 rfl ?_
          refine r_if_eq E (q := 138) 173 dX6_run_135 (by decide) rfl (fun c9 => ?_) (fun c9 => ?_)
          · refine r_aload_n E (q := 174) 0 dX6_run_173 rfl rfl rfl ?_
            refine r_iload E (q := 176) 5 dX6_run_174 rfl rfl ?_
            refine rV E cvX6_223 T.rr Fr.all 0 wm_0 rfl [.int (G 23 (ix (w9 - 1)))] (hd (by assumption) (by assumption) (by first | exact Or.inl (by assumption) | exact Or.inr (by assumption)) (by first | exact Or.inl (by assumption) | exact Or.inr (by assumption))) (by omega) rfl rfl (Nat.le_of_ble_eq_true rfl) ⟨Nat.zero_le _, Nat.zero_le _⟩ dX6_run_176 (fun v9 w9 h9 => ?_)
            obtain ⟨rfl, Ga, Va, rfl, hq⟩ := h9
            show WW z 0 0 (WM (zk z) ad Ga Va) 179 [(0, .ref (ad 0)), (1, .int x), (2, .int n9), (3, .int g9), (4, .int w9), (5, .int (G 23 (ix (w9 - 1))))] []
            refine r_iinc E (q := 182) (v := n9 + 1) (lv' := [(0, .ref (ad 0)), (1, .int x), (2, .int (n9 + 1)), (3, .int g9), (4, .int w9), (5, .int (G 23 (ix (w9 - 1))))]) 2 [1, 2, 0, 3, 4, 5] dX6_run_179 rfl (by rfl) (by rw [hz]; decide) rfl rfl ?_
            refine r_aload_n E (q := 183) 0 dX6_run_182 rfl rfl rfl ?_
            refine r_get E (q := 186) fX6_75 0 wm_0 rfl dX6_run_183 rfl ?_
            refine r_iload E (q := 188) 5 dX6_run_186 rfl rfl ?_
            refine r_iconst E (q := 189) (v := 1) dX6_run_188 (by decide) rfl ?_
            refine r_zast E (q := 190) 22 wm_22 (hnn (by assumption)) (nar_b (Or.inr rfl)) wmu_22 dX6_run_189 rfl ?_
            refine r_nGM (fun G1 eG1 => ?_)
            refine r_aload_n E (q := 191) 0 dX6_run_190 rfl rfl rfl ?_
            refine r_get E (q := 194) fX6_190 0 wm_0 rfl dX6_run_191 rfl ?_
            refine r_join 203 (if Va 5 = 0 then g9 else (G 23 (ix (w9 - 1)))) (rest := []) ?_ (fun hj3 => ?_)
            · refine r_istore_n E (q := 204) (lv' := [(0, .ref (ad 0)), (1, .int x), (2, .int (n9 + 1)), (3, .int (if Va 5 = 0 then g9 else (G 23 (ix (w9 - 1))))), (4, .int w9), (5, .int (G 23 (ix (w9 - 1))))]) [1, 2, 3, 0, 4, 5] dX6_run_203 rfl (by rw [hz]; decide) rfl rfl ?_
              refine r_iinc E (q := 207) (v := w9 + (-1)) (lv' := [(0, .ref (ad 0)), (1, .int x), (2, .int (n9 + 1)), (3, .int (if Va 5 = 0 then g9 else (G 23 (ix (w9 - 1))))), (4, .int (w9 + (-1))), (5, .int (G 23 (ix (w9 - 1))))]) 4 [1, 2, 3, 4, 0, 5] dX6_run_204 rfl (by rfl) (by rw [hz]; decide) rfl rfl ?_
              refine r_goto E 57 dX6_run_207 (by decide) ?_
              refine r_sub [0, 1, 2, 3, 4] rfl ?_
              exact k6 Ga Va hq G1 eG1 c1 c2 c3 c8 c9
            · refine r_if_eq E (q := 197) 202 dX6_run_194 (by decide) rfl (fun c10 => ?_) (fun c10 => ?_)
              · refine r_iload_n E (q := 203) 3 dX6_run_202 rfl rfl rfl ?_
                exact hj3 _ (if_pos c10).symm
              · refine r_iload E (q := 199) 5 dX6_run_197 rfl rfl ?_
                refine r_goto E 203 dX6_run_199 (by decide) ?_
                exact hj3 _ (if_neg c10).symm
          · refine r_aload_n E (q := 139) 0 dX6_run_138 rfl rfl rfl ?_
            refine r_get E (q := 142) fX6_75 0 wm_0 rfl dX6_run_139 rfl ?_
            refine r_aload_n E (q := 143) 0 dX6_run_142 rfl rfl rfl ?_
            refine r_get E (q := 146) fX6_44 0 wm_0 rfl dX6_run_143 rfl ?_
            refine r_iload E (q := 148) 5 dX6_run_146 rfl rfl ?_
            refine r_iald E (q := 149) 12 wm_12 (hnn (by assumption)) dX6_run_148 rfl ?_
            refine r_zald E (q := 150) 22 wm_22 (hB (by assumption) (by assumption)) dX6_run_149 rfl ?_
            refine r_if_ne E (q := 153) 173 dX6_run_150 (by decide) rfl (fun c11 => ?_) (fun c11 => ?_)
            · refine r_aload_n E (q := 174) 0 dX6_run_173 rfl rfl rfl ?_
              refine r_iload E (q := 176) 5 dX6_run_174 rfl rfl ?_
              refine rV E cvX6_223 T.rr Fr.all 0 wm_0 rfl [.int (G 23 (ix (w9 - 1)))] (hd (by assumption) (by assumption) (by first | exact Or.inl (by assumption) | exact Or.inr (by assumption)) (by first | exact Or.inl (by assumption) | exact Or.inr (by assumption))) (by omega) rfl rfl (Nat.le_of_ble_eq_true rfl) ⟨Nat.zero_le _, Nat.zero_le _⟩ dX6_run_176 (fun v9 w9 h9 => ?_)
              obtain ⟨rfl, Ga, Va, rfl, hq⟩ := h9
              show WW z 0 0 (WM (zk z) ad Ga Va) 179 [(0, .ref (ad 0)), (1, .int x), (2, .int n9), (3, .int g9), (4, .int w9), (5, .int (G 23 (ix (w9 - 1))))] []
              refine r_iinc E (q := 182) (v := n9 + 1) (lv' := [(0, .ref (ad 0)), (1, .int x), (2, .int (n9 + 1)), (3, .int g9), (4, .int w9), (5, .int (G 23 (ix (w9 - 1))))]) 2 [1, 2, 0, 3, 4, 5] dX6_run_179 rfl (by rfl) (by rw [hz]; decide) rfl rfl ?_
              refine r_aload_n E (q := 183) 0 dX6_run_182 rfl rfl rfl ?_
              refine r_get E (q := 186) fX6_75 0 wm_0 rfl dX6_run_183 rfl ?_
              refine r_iload E (q := 188) 5 dX6_run_186 rfl rfl ?_
              refine r_iconst E (q := 189) (v := 1) dX6_run_188 (by decide) rfl ?_
              refine r_zast E (q := 190) 22 wm_22 (hnn (by assumption)) (nar_b (Or.inr rfl)) wmu_22 dX6_run_189 rfl ?_
              refine r_nGM (fun G1 eG1 => ?_)
              refine r_aload_n E (q := 191) 0 dX6_run_190 rfl rfl rfl ?_
              refine r_get E (q := 194) fX6_190 0 wm_0 rfl dX6_run_191 rfl ?_
              refine r_join 203 (if Va 5 = 0 then g9 else (G 23 (ix (w9 - 1)))) (rest := []) ?_ (fun hj4 => ?_)
              · refine r_istore_n E (q := 204) (lv' := [(0, .ref (ad 0)), (1, .int x), (2, .int (n9 + 1)), (3, .int (if Va 5 = 0 then g9 else (G 23 (ix (w9 - 1))))), (4, .int w9), (5, .int (G 23 (ix (w9 - 1))))]) [1, 2, 3, 0, 4, 5] dX6_run_203 rfl (by rw [hz]; decide) rfl rfl ?_
                refine r_iinc E (q := 207) (v := w9 + (-1)) (lv' := [(0, .ref (ad 0)), (1, .int x), (2, .int (n9 + 1)), (3, .int (if Va 5 = 0 then g9 else (G 23 (ix (w9 - 1))))), (4, .int (w9 + (-1))), (5, .int (G 23 (ix (w9 - 1))))]) 4 [1, 2, 3, 4, 0, 5] dX6_run_204 rfl (by rfl) (by rw [hz]; decide) rfl rfl ?_
                refine r_goto E 57 dX6_run_207 (by decide) ?_
                refine r_sub [0, 1, 2, 3, 4] rfl ?_
                exact k7 Ga Va hq G1 eG1 c1 c2 c3 c8 c9 c11
              · refine r_if_eq E (q := 197) 202 dX6_run_194 (by decide) rfl (fun c12 => ?_) (fun c12 => ?_)
                · refine r_iload_n E (q := 203) 3 dX6_run_202 rfl rfl rfl ?_
                  exact hj4 _ (if_pos c12).symm
                · refine r_iload E (q := 199) 5 dX6_run_197 rfl rfl ?_
                  refine r_goto E 203 dX6_run_199 (by decide) ?_
                  exact hj4 _ (if_neg c12).symm
            · refine r_aload_n E (q := 154) 0 dX6_run_153 rfl rfl rfl ?_
              refine r_get E (q := 157) fX6_78 0 wm_0 rfl dX6_run_154 rfl ?_
              refine r_iload E (q := 159) 4 dX6_run_157 rfl rfl ?_
              refine r_aload_n E (q := 160) 0 dX6_run_159 rfl rfl rfl ?_
              refine r_get E (q := 163) fX6_44 0 wm_0 rfl dX6_run_160 rfl ?_
              refine r_iload E (q := 165) 5 dX6_run_163 rfl rfl ?_
              refine r_iald E (q := 166) 12 wm_12 (hnn (by assumption)) dX6_run_165 rfl ?_
              refine r_iast E (q := 167) 23 wm_23 (hw2 (by assumption) (by assumption) (by assumption)) wmu_23 dX6_run_166 rfl ?_
              refine r_nGM (fun G1 eG1 => ?_)
              refine r_iinc E (q := 170) (v := w9 + 1) (lv' := [(0, .ref (ad 0)), (1, .int x), (2, .int n9), (3, .int g9), (4, .int (w9 + 1)), (5, .int (G 23 (ix (w9 - 1))))]) 4 [1, 2, 3, 4, 0, 5] dX6_run_167 rfl (by rfl) (by rw [hz]; decide) rfl rfl ?_
              refine r_goto E 207 dX6_run_170 (by decide) ?_
              refine r_goto E 57 dX6_run_207 (by decide) ?_
              refine r_sub [0, 1, 2, 3, 4] rfl ?_
              exact k8 G1 eG1 c1 c2 c3 c8 c9 c11
        · refine r_aload_n E (q := 106) 0 dX6_run_105 rfl rfl rfl ?_
          refine r_get E (q := 109) fX6_78 0 wm_0 rfl dX6_run_106 rfl ?_
          refine r_iload E (q := 111) 4 dX6_run_109 rfl rfl ?_
          refine r_aload_n E (q := 112) 0 dX6_run_111 rfl rfl rfl ?_
          refine r_get E (q := 115) fX6_41 0 wm_0 rfl dX6_run_112 rfl ?_
          refine r_iload E (q := 117) 5 dX6_run_115 rfl rfl ?_
          refine r_iald E (q := 118) 11 wm_11 (hnn (by assumption)) dX6_run_117 rfl ?_
          refine r_iast E (q := 119) 23 wm_23 (hw1 (by assumption) (by assumption) (by assumption)) wmu_23 dX6_run_118 rfl ?_
          refine r_nGM (fun G1 eG1 => ?_)
          refine r_iinc E (q := 122) (v := w9 + 1) (lv' := [(0, .ref (ad 0)), (1, .int x), (2, .int n9), (3, .int g9), (4, .int (w9 + 1)), (5, .int (G 23 (ix (w9 - 1))))]) 4 [1, 2, 3, 4, 0, 5] dX6_run_119 rfl (by rfl) (by rw [hz]; decide) rfl rfl ?_
          refine r_goto E 207 dX6_run_122 (by decide) ?_
          refine r_goto E 57 dX6_run_207 (by decide) ?_
          refine r_sub [0, 1, 2, 3, 4] rfl ?_
          exact k9 G1 eG1 c1 c2 c3 c8
set_option maxRecDepth 100000 in
set_option maxHeartbeats 800000 in
theorem r_d {z : Zt} (E : EN z cX6_run RX6) {w0 : va_W} {P : Option Value → va_W → Prop} {lvl : Nat} (T : RT z (some .int) lvl w0 P 0 0) (hz : zn z = 6) {ad : Nat → Nat} {G : Nat → Nat → Int32} {V : Nat → Int32} (hlv : 7 ≤ lvl) (x n9 g9 : Int32) (hx : vp_in x 60) 
    (k1 : WW z 0 0 (WM (zk z) ad G (upd (upd (upd (upd (upd V 8 (V 5)) 9 ((upd V 8 (V 5)) 6)) 10 n9) 11 g9) 7 (if (upd (upd (upd (upd V 8 (V 5)) 9 ((upd V 8 (V 5)) 6)) 10 n9) 11 g9) 5 = 0 then (G 21 (ix x)) else 0))) 260 [(0, .ref (ad 0)), (1, .int x), (5, .int 0)] []) :
    WW z 0 0 (WM (zk z) ad G V) 210 [(0, .ref (ad 0)), (1, .int x), (2, .int n9), (3, .int g9)] [] := by
  refine r_aload_n E (q := 211) 0 dX6_run_210 rfl rfl rfl ?_
  refine r_aload_n E (q := 212) 0 dX6_run_211 rfl rfl rfl ?_
  refine r_get E (q := 215) fX6_190 0 wm_0 rfl dX6_run_212 rfl ?_
  refine r_put E (q := 218) pX6_226 rfl 0 wm_0 rfl rfl (Nat.le_of_ble_eq_true rfl) wmv_8 dX6_run_215 rfl ?_
  refine r_aload_n E (q := 219) 0 dX6_run_218 rfl rfl rfl ?_
  refine r_aload_n E (q := 220) 0 dX6_run_219 rfl rfl rfl ?_
  refine r_get E (q := 223) fX6_167 0 wm_0 rfl dX6_run_220 rfl ?_
  refine r_put E (q := 226) pX6_229 rfl 0 wm_0 rfl rfl (Nat.le_of_ble_eq_true rfl) wmv_9 dX6_run_223 rfl ?_
  refine r_aload_n E (q := 227) 0 dX6_run_226 rfl rfl rfl ?_
  refine r_iload_n E (q := 228) 2 dX6_run_227 rfl rfl rfl ?_
  refine r_put E (q := 231) pX6_232 rfl 0 wm_0 rfl rfl (Nat.le_of_ble_eq_true rfl) wmv_10 dX6_run_228 rfl ?_
  refine r_aload_n E (q := 232) 0 dX6_run_231 rfl rfl rfl ?_
  refine r_iload_n E (q := 233) 3 dX6_run_232 rfl rfl rfl ?_
  refine r_put E (q := 236) pX6_84 rfl 0 wm_0 rfl rfl (Nat.le_of_ble_eq_true rfl) wmv_11 dX6_run_233 rfl ?_
  refine r_aload_n E (q := 237) 0 dX6_run_236 rfl rfl rfl ?_
  refine r_aload_n E (q := 238) 0 dX6_run_237 rfl rfl rfl ?_
  refine r_get E (q := 241) fX6_190 0 wm_0 rfl dX6_run_238 rfl ?_
  refine r_join 254 (if (upd (upd (upd (upd V 8 (V 5)) 9 ((upd V 8 (V 5)) 6)) 10 n9) 11 g9) 5 = 0 then (G 21 (ix x)) else 0) (rest := [.ref (ad 0)]) ?_ (fun hj1 => ?_)
  · refine r_put E (q := 257) pX6_235 rfl 0 wm_0 rfl rfl (Nat.le_of_ble_eq_true rfl) wmv_7 dX6_run_254 rfl ?_
    refine r_iconst E (q := 258) (v := 0) dX6_run_257 (by decide) rfl ?_
    refine r_istore E (q := 260) (lv' := [(0, .ref (ad 0)), (1, .int x), (2, .int n9), (3, .int g9), (5, .int 0)]) [1, 2, 3, 4, 0] dX6_run_258 (by rw [hz]; decide) rfl rfl ?_
    refine r_sub [0, 1, 4] rfl ?_
    exact k1 
  · refine r_if_ne E (q := 244) 253 dX6_run_241 (by decide) rfl (fun c1 => ?_) (fun c1 => ?_)
    · refine r_iconst E (q := 254) (v := 0) dX6_run_253 (by decide) rfl ?_
      exact hj1 _ (if_neg c1).symm
    · refine r_aload_n E (q := 245) 0 dX6_run_244 rfl rfl rfl ?_
      refine r_get E (q := 248) fX6_72 0 wm_0 rfl dX6_run_245 rfl ?_
      refine r_iload_n E (q := 249) 1 dX6_run_248 rfl rfl rfl ?_
      refine r_iald E (q := 250) 21 wm_21 hx dX6_run_249 rfl ?_
      refine r_goto E 254 dX6_run_250 (by decide) ?_
      exact hj1 _ (if_pos c1).symm
set_option maxRecDepth 100000 in
set_option maxHeartbeats 800000 in
theorem r_e {z : Zt} (E : EN z cX6_run RX6) {w0 : va_W} {P : Option Value → va_W → Prop} {lvl : Nat} (T : RT z (some .int) lvl w0 P 0 0) (hz : zn z = 6) {ad : Nat → Nat} {G : Nat → Nat → Int32} {V : Nat → Int32} (hlv : 7 ≤ lvl) (x n9 : Int32) (h1 : ¬ (6 * V 7) ≤ n9 → vp_in n9 600) (h2 : ¬ (6 * V 7) ≤ n9 → vp_in ((600 * x) + n9) 36000) 
    (k1 : 6 * (V 7) ≤ n9 → P (some (.int (if V 5 = 0 then (V 7) else ((-10) - (V 5))))) (WM (zk z) ad G V)) 
    (k2 : ∀ (G1 : Nat → Nat → Int32), G1 = ug G 24 (ix n9) (G 20 (ix ((600 * x) + n9))) → ¬ (6 * (V 7) ≤ n9) → WW z 0 0 (WM (zk z) ad G1 V) 260 [(0, .ref (ad 0)), (1, .int x), (5, .int (n9 + 1))] []) :
    WW z 0 0 (WM (zk z) ad G V) 260 [(0, .ref (ad 0)), (1, .int x), (5, .int n9)] [] := by
  refine r_iload E (q := 262) 2 dX6_run_260 rfl rfl ?_
  refine r_bipush E (q := 264) (v := 6) dX6_run_262 (by decide) rfl ?_
  refine r_aload_n E (q := 265) 0 dX6_run_264 rfl rfl rfl ?_
  refine r_get E (q := 268) fX6_235 0 wm_0 rfl dX6_run_265 rfl ?_
  refine r_imul E (q := 269) dX6_run_268 rfl ?_
  refine r_icmp_ge E (q := 272) 298 dX6_run_269 (by decide) rfl (fun c1 => ?_) (fun c1 => ?_)
  · refine r_aload_n E (q := 299) 0 dX6_run_298 rfl rfl rfl ?_
    refine r_get E (q := 302) fX6_190 0 wm_0 rfl dX6_run_299 rfl ?_
    refine r_join 319 (if V 5 = 0 then (V 7) else ((-10) - (V 5))) (rest := []) ?_ (fun hj1 => ?_)
    · exact r_iret E T dX6_run_319 (k1 c1)
    · refine r_if_ne E (q := 305) 312 dX6_run_302 (by decide) rfl (fun c2 => ?_) (fun c2 => ?_)
      · refine r_bipush E (q := 314) (v := (-10)) dX6_run_312 (by decide) rfl ?_
        refine r_aload_n E (q := 315) 0 dX6_run_314 rfl rfl rfl ?_
        refine r_get E (q := 318) fX6_190 0 wm_0 rfl dX6_run_315 rfl ?_
        refine r_isub E (q := 319) dX6_run_318 rfl ?_
        exact hj1 _ (if_neg c2).symm
      · refine r_aload_n E (q := 306) 0 dX6_run_305 rfl rfl rfl ?_
        refine r_get E (q := 309) fX6_235 0 wm_0 rfl dX6_run_306 rfl ?_
        refine r_goto E 319 dX6_run_309 (by decide) ?_
        exact hj1 _ (if_pos c2).symm
  · refine r_aload_n E (q := 273) 0 dX6_run_272 rfl rfl rfl ?_
    refine r_get E (q := 276) fX6_81 0 wm_0 rfl dX6_run_273 rfl ?_
    refine r_iload E (q := 278) 2 dX6_run_276 rfl rfl ?_
    refine r_aload_n E (q := 279) 0 dX6_run_278 rfl rfl rfl ?_
    refine r_get E (q := 282) fX6_69 0 wm_0 rfl dX6_run_279 rfl ?_
    refine r_sipush E (q := 285) (v := 600) dX6_run_282 (by decide) rfl ?_
    refine r_iload_n E (q := 286) 1 dX6_run_285 rfl rfl rfl ?_
    refine r_imul E (q := 287) dX6_run_286 rfl ?_
    refine r_iload E (q := 289) 2 dX6_run_287 rfl rfl ?_
    refine r_iadd E (q := 290) dX6_run_289 rfl ?_
    refine r_iald E (q := 291) 20 wm_20 (h2 (by assumption)) dX6_run_290 rfl ?_
    refine r_iast E (q := 292) 24 wm_24 (h1 (by assumption)) wmu_24 dX6_run_291 rfl ?_
    refine r_nGM (fun G1 eG1 => ?_)
    refine r_iinc E (q := 295) (v := n9 + 1) (lv' := [(0, .ref (ad 0)), (1, .int x), (5, .int (n9 + 1))]) 2 [1, 2, 0] dX6_run_292 rfl (by rfl) (by rw [hz]; decide) rfl rfl ?_
    refine r_goto E 260 dX6_run_295 (by decide) ?_
    exact k2 G1 eG1 c1
