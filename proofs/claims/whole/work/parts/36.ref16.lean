def fX6_member (G : Nat → Nat → Int32) (V : Nat → Int32) (i9 : Int32) (m9 : Int32) : Int32 := if fX6_in i9.toInt64 0 (((V 7) - 1).toInt64) = 0 then 0 else (if fX6_in m9.toInt64 0 5 = 0 then 0 else (G 24 (ix ((6 * i9) + m9))))
set_option maxRecDepth 100000 in
set_option maxHeartbeats 800000 in
theorem c_X6_member {l : Launch} {k : Kt} {ad : Nat → Nat} {G : Nat → Nat → Int32} {V : Nat → Int32} (i9 : Int32) (m9 : Int32) (hI : ¬ fX6_in i9.toInt64 0 ((V 7) - 1).toInt64 = 0 → ¬ fX6_in m9.toInt64 0 5 = 0 → vp_in ((6 * i9) + m9) 600) : CT l k yX6_member cX6_member 3 (some .int) 1 [.ref (ad 0), .int i9, .int m9] (WM k ad G V) (eqI (fX6_member G V i9 m9) (WM k ad G V)) 0 0 := by
  refine ct_of (own := RX6) (lv0 := [(0, .ref (ad 0)), (1, .int i9), (2, .int m9)]) (by decide) rfl (Nat.le_of_ble_eq_true rfl) rfl ?_
  rintro z rfl rfl hz - E T
  refine r_iload_n E (q := 1) 1 dX6_member_0 rfl rfl rfl ?_
  refine r_i2l E (q := 2) dX6_member_1 rfl ?_
  refine r_lconst E (q := 3) (v := 0) dX6_member_2 (by decide) rfl ?_
  refine r_aload_n E (q := 4) 0 dX6_member_3 rfl rfl rfl ?_
  refine r_get E (q := 7) fX6_235 0 wm_0 rfl dX6_member_4 rfl ?_
  refine r_iconst E (q := 8) (v := 1) dX6_member_7 (by decide) rfl ?_
  refine r_isub E (q := 9) dX6_member_8 rfl ?_
  refine r_i2l E (q := 10) dX6_member_9 rfl ?_
  refine rSi E (q := 13) csX6_90 T.rr [.long i9.toInt64, .long 0, .long (((V 7) - 1).toInt64)] (c_X6_in i9.toInt64 0 (((V 7) - 1).toInt64)) (by decide) rfl rfl (Nat.le_of_ble_eq_true rfl) ⟨(Nat.le_of_ble_eq_true rfl), (Nat.le_of_ble_eq_true rfl)⟩ dX6_member_10 rfl ?_
  refine r_join 43 (if fX6_in i9.toInt64 0 (((V 7) - 1).toInt64) = 0 then 0 else (if fX6_in m9.toInt64 0 5 = 0 then 0 else (G 24 (ix ((6 * i9) + m9))))) (rest := []) ?_ (fun hj1 => ?_)
  · exact r_iret E T dX6_member_43 (eqI.mk (by unfold fX6_member; exact rfl) rfl)
  · refine r_if_eq E (q := 16) 42 dX6_member_13 (by decide) rfl (fun c1 => ?_) (fun c1 => ?_)
    · refine r_iconst E (q := 43) (v := 0) dX6_member_42 (by decide) rfl ?_
      exact hj1 _ (if_pos c1).symm
    · refine r_iload_n E (q := 17) 2 dX6_member_16 rfl rfl rfl ?_
      refine r_i2l E (q := 18) dX6_member_17 rfl ?_
      refine r_lconst E (q := 19) (v := 0) dX6_member_18 (by decide) rfl ?_
      refine r_ldc2 E (q := 22) kX6_112 dX6_member_19 rfl ?_
      refine rSi E (q := 25) csX6_90 T.rr [.long m9.toInt64, .long 0, .long 5] (c_X6_in m9.toInt64 0 5) (by decide) rfl rfl (Nat.le_of_ble_eq_true rfl) ⟨(Nat.le_of_ble_eq_true rfl), (Nat.le_of_ble_eq_true rfl)⟩ dX6_member_22 rfl ?_
      refine r_if_eq E (q := 28) 42 dX6_member_25 (by decide) rfl (fun c2 => ?_) (fun c2 => ?_)
      · refine r_iconst E (q := 43) (v := 0) dX6_member_42 (by decide) rfl ?_
        exact hj1 _ ((if_neg c1).trans (if_pos c2)).symm
      · refine r_aload_n E (q := 29) 0 dX6_member_28 rfl rfl rfl ?_
        refine r_get E (q := 32) fX6_81 0 wm_0 rfl dX6_member_29 rfl ?_
        refine r_bipush E (q := 34) (v := 6) dX6_member_32 (by decide) rfl ?_
        refine r_iload_n E (q := 35) 1 dX6_member_34 rfl rfl rfl ?_
        refine r_imul E (q := 36) dX6_member_35 rfl ?_
        refine r_iload_n E (q := 37) 2 dX6_member_36 rfl rfl rfl ?_
        refine r_iadd E (q := 38) dX6_member_37 rfl ?_
        refine r_iald E (q := 39) 24 wm_24 (hI (by assumption) (by assumption)) dX6_member_38 rfl ?_
        refine r_goto E 43 dX6_member_39 (by decide) ?_
        exact hj1 _ ((if_neg c1).trans (if_neg c2)).symm
set_option maxRecDepth 100000 in
set_option maxHeartbeats 800000 in
theorem pt_told {z : Zt} (E : EN z cX6_told RX6) {w0 : va_W} {P : Option Value → va_W → Prop} {lvl : Nat} (T : RT z (some .int) lvl w0 P 0 0) (hz : zn z = 3) {ad : Nat → Nat} {G : Nat → Nat → Int32} {V : Nat → Int32} (hlv : 4 ≤ lvl) (x what : Int32) (h1 : ∃ j : Nat, j ≤ 60 ∧ V 1 = nI j) (Ql : (Nat → Nat → Int32) → Prop) (hlk : CT (zl z) (zk z) yX6_look cX6_look 5 none 2 [.ref (ad 0)] (WM (zk z) ad G V) (fun v9 w' => v9 = none ∧ ∃ G' : Nat → Nat → Int32, w' = WM (zk z) ad G' V ∧ Ql G') 0 0) 
    (k1 : fX6_isNode V x = 0 → P (some (.int (-1))) (WM (zk z) ad G V)) 
    (k2 : ∀ (Ga : Nat → Nat → Int32), Ql Ga → ¬ (fX6_isNode V x = 0) → ¬ (fX6_in what.toInt64 0 6 = 0) → what = 0 → P (some (.int (Ga 10 (ix x)))) (WM (zk z) ad Ga V)) 
    (k3 : ∀ (Ga : Nat → Nat → Int32), Ql Ga → ¬ (fX6_isNode V x = 0) → ¬ (fX6_in what.toInt64 0 6 = 0) → ¬ (what = 0) → what = 1 → P (some (.int (Ga 11 (ix x)))) (WM (zk z) ad Ga V)) 
    (k4 : ∀ (Ga : Nat → Nat → Int32), Ql Ga → ¬ (fX6_isNode V x = 0) → ¬ (fX6_in what.toInt64 0 6 = 0) → ¬ (what = 0) → ¬ (what = 1) → what = 2 → P (some (.int (Ga 12 (ix x)))) (WM (zk z) ad Ga V)) 
    (k5 : ∀ (Ga : Nat → Nat → Int32), Ql Ga → ¬ (fX6_isNode V x = 0) → ¬ (fX6_in what.toInt64 0 6 = 0) → ¬ (what = 0) → ¬ (what = 1) → ¬ (what = 2) → what = 3 → P (some (.int (Ga 13 (ix x)))) (WM (zk z) ad Ga V)) 
    (k6 : ∀ (Ga : Nat → Nat → Int32), Ql Ga → ¬ (fX6_isNode V x = 0) → ¬ (fX6_in what.toInt64 0 6 = 0) → ¬ (what = 0) → ¬ (what = 1) → ¬ (what = 2) → ¬ (what = 3) → what = 4 → P (some (.int (Ga 14 (ix x)))) (WM (zk z) ad Ga V)) 
    (k7 : ∀ (Ga : Nat → Nat → Int32), Ql Ga → ¬ (fX6_isNode V x = 0) → ¬ (fX6_in what.toInt64 0 6 = 0) → ¬ (what = 0) → ¬ (what = 1) → ¬ (what = 2) → ¬ (what = 3) → ¬ (what = 4) → what = 5 → P (some (.int (Ga 15 (ix x)))) (WM (zk z) ad Ga V)) 
    (k8 : ∀ (Ga : Nat → Nat → Int32), Ql Ga → ¬ (fX6_isNode V x = 0) → ¬ (fX6_in what.toInt64 0 6 = 0) → ¬ (what = 0) → ¬ (what = 1) → ¬ (what = 2) → ¬ (what = 3) → ¬ (what = 4) → ¬ (what = 5) → P (some (.int (if Ga 16 (ix x) = 0 then 0 else 1))) (WM (zk z) ad Ga V)) 
    (k9 : ¬ (fX6_isNode V x = 0) → fX6_in what.toInt64 0 6 = 0 → P (some (.int (-1))) (WM (zk z) ad G V)) :
    WW z 0 0 (WM (zk z) ad G V) 0 [(0, .ref (ad 0)), (1, .int x), (2, .int what)] [] := by
  refine r_aload_n E (q := 1) 0 dX6_told_0 rfl rfl rfl ?_
  refine r_iload_n E (q := 2) 1 dX6_told_1 rfl rfl rfl ?_
  refine rVi E (q := 5) cvX6_148 T.rr 0 wm_0 rfl [.int x] (c_X6_isNode x) (by omega) rfl rfl (Nat.le_of_ble_eq_true rfl) ⟨Nat.zero_le _, Nat.zero_le _⟩ dX6_told_2 rfl ?_
  refine r_if_eq E (q := 8) 20 dX6_told_5 (by decide) rfl (fun c1 => ?_) (fun c1 => ?_)
  · refine r_iconst E (q := 21) (v := (-1)) dX6_told_20 (by decide) rfl ?_
    exact r_iret E T dX6_told_21 (k1 c1)
  · refine r_iload_n E (q := 9) 2 dX6_told_8 rfl rfl rfl ?_
    refine r_i2l E (q := 10) dX6_told_9 rfl ?_
    refine r_lconst E (q := 11) (v := 0) dX6_told_10 (by decide) rfl ?_
    refine r_ldc2 E (q := 14) kX6_162 dX6_told_11 rfl ?_
    refine rSi E (q := 17) csX6_90 T.rr [.long what.toInt64, .long 0, .long 6] (c_X6_in what.toInt64 0 6) (by omega) rfl rfl (Nat.le_of_ble_eq_true rfl) ⟨Nat.zero_le _, Nat.zero_le _⟩ dX6_told_14 rfl ?_
    refine r_if_ne E (q := 20) 22 dX6_told_17 (by decide) rfl (fun c2 => ?_) (fun c2 => ?_)
    · refine r_aload_n E (q := 23) 0 dX6_told_22 rfl rfl rfl ?_
      refine rV E cvX6_159 T.rr Fr.all 0 wm_0 rfl [] hlk (by omega) rfl rfl (Nat.le_of_ble_eq_true rfl) ⟨Nat.zero_le _, Nat.zero_le _⟩ dX6_told_23 (fun v9 w9 h9 => ?_)
      obtain ⟨rfl, Ga, rfl, hq⟩ := h9
      show WW z 0 0 (WM (zk z) ad Ga V) 26 [(0, .ref (ad 0)), (1, .int x), (2, .int what)] []
      refine r_iload_n E (q := 27) 2 dX6_told_26 rfl rfl rfl ?_
      by_cases c3 : what = 0
      · refine r_tabIn E 0 c3 64 dX6_told_27 (by decide) (by rfl) (by decide) ?_
        refine r_aload_n E (q := 65) 0 dX6_told_64 rfl rfl rfl ?_
        refine r_get E (q := 68) fX6_38 0 wm_0 rfl dX6_told_65 rfl ?_
        refine r_iload_n E (q := 69) 1 dX6_told_68 rfl rfl rfl ?_
        refine r_iald E (q := 70) 10 wm_10 (isN_of h1 (by assumption)) dX6_told_69 rfl ?_
        exact r_iret E T dX6_told_70 (k2 Ga hq c1 c2 c3)
      · by_cases c4 : what = 1
        · refine r_tabIn E 1 c4 71 dX6_told_27 (by decide) (by rfl) (by decide) ?_
          refine r_aload_n E (q := 72) 0 dX6_told_71 rfl rfl rfl ?_
          refine r_get E (q := 75) fX6_41 0 wm_0 rfl dX6_told_72 rfl ?_
          refine r_iload_n E (q := 76) 1 dX6_told_75 rfl rfl rfl ?_
          refine r_iald E (q := 77) 11 wm_11 (isN_of h1 (by assumption)) dX6_told_76 rfl ?_
          exact r_iret E T dX6_told_77 (k3 Ga hq c1 c2 c3 c4)
        · by_cases c5 : what = 2
          · refine r_tabIn E 2 c5 78 dX6_told_27 (by decide) (by rfl) (by decide) ?_
            refine r_aload_n E (q := 79) 0 dX6_told_78 rfl rfl rfl ?_
            refine r_get E (q := 82) fX6_44 0 wm_0 rfl dX6_told_79 rfl ?_
            refine r_iload_n E (q := 83) 1 dX6_told_82 rfl rfl rfl ?_
            refine r_iald E (q := 84) 12 wm_12 (isN_of h1 (by assumption)) dX6_told_83 rfl ?_
            exact r_iret E T dX6_told_84 (k4 Ga hq c1 c2 c3 c4 c5)
          · by_cases c6 : what = 3
            · refine r_tabIn E 3 c6 85 dX6_told_27 (by decide) (by rfl) (by decide) ?_
              refine r_aload_n E (q := 86) 0 dX6_told_85 rfl rfl rfl ?_
              refine r_get E (q := 89) fX6_47 0 wm_0 rfl dX6_told_86 rfl ?_
              refine r_iload_n E (q := 90) 1 dX6_told_89 rfl rfl rfl ?_
              refine r_iald E (q := 91) 13 wm_13 (isN_of h1 (by assumption)) dX6_told_90 rfl ?_
              exact r_iret E T dX6_told_91 (k5 Ga hq c1 c2 c3 c4 c5 c6)
            · by_cases c7 : what = 4
              · refine r_tabIn E 4 c7 92 dX6_told_27 (by decide) (by rfl) (by decide) ?_
                refine r_aload_n E (q := 93) 0 dX6_told_92 rfl rfl rfl ?_
                refine r_get E (q := 96) fX6_50 0 wm_0 rfl dX6_told_93 rfl ?_
                refine r_iload_n E (q := 97) 1 dX6_told_96 rfl rfl rfl ?_
                refine r_iald E (q := 98) 14 wm_14 (isN_of h1 (by assumption)) dX6_told_97 rfl ?_
                exact r_iret E T dX6_told_98 (k6 Ga hq c1 c2 c3 c4 c5 c6 c7)
              · by_cases c8 : what = 5
                · refine r_tabIn E 5 c8 99 dX6_told_27 (by decide) (by rfl) (by decide) ?_
                  refine r_aload_n E (q := 100) 0 dX6_told_99 rfl rfl rfl ?_
                  refine r_get E (q := 103) fX6_53 0 wm_0 rfl dX6_told_100 rfl ?_
                  refine r_iload_n E (q := 104) 1 dX6_told_103 rfl rfl rfl ?_
                  refine r_iald E (q := 105) 15 wm_15 (isN_of h1 (by assumption)) dX6_told_104 rfl ?_
                  exact r_iret E T dX6_told_105 (k7 Ga hq c1 c2 c3 c4 c5 c6 c7 c8)
                · refine r_tabOut E 106 dX6_told_27 (sw_out (fun j hj e => by match j with | 0 => exact c3 (e.trans (by decide)) | 1 => exact c4 (e.trans (by decide)) | 2 => exact c5 (e.trans (by decide)) | 3 => exact c6 (e.trans (by decide)) | 4 => exact c7 (e.trans (by decide)) | 5 => exact c8 (e.trans (by decide)) | j + 6 => omega)) (by decide) ?_
                  refine r_aload_n E (q := 107) 0 dX6_told_106 rfl rfl rfl ?_
                  refine r_get E (q := 110) fX6_56 0 wm_0 rfl dX6_told_107 rfl ?_
                  refine r_iload_n E (q := 111) 1 dX6_told_110 rfl rfl rfl ?_
                  refine r_zald E (q := 112) 16 wm_16 (isN_of h1 (by assumption)) dX6_told_111 rfl ?_
                  refine r_join 120 (if Ga 16 (ix x) = 0 then 0 else 1) (rest := []) ?_ (fun hj1 => ?_)
                  · exact r_iret E T dX6_told_120 (k8 Ga hq c1 c2 c3 c4 c5 c6 c7 c8)
                  · refine r_if_eq E (q := 115) 119 dX6_told_112 (by decide) rfl (fun c9 => ?_) (fun c9 => ?_)
                    · refine r_iconst E (q := 120) (v := 0) dX6_told_119 (by decide) rfl ?_
                      exact hj1 _ (if_pos c9).symm
                    · refine r_iconst E (q := 116) (v := 1) dX6_told_115 (by decide) rfl ?_
                      refine r_goto E 120 dX6_told_116 (by decide) ?_
                      exact hj1 _ (if_neg c9).symm
    · refine r_iconst E (q := 21) (v := (-1)) dX6_told_20 (by decide) rfl ?_
      exact r_iret E T dX6_told_21 (k9 c1 c2)
set_option maxRecDepth 100000 in
set_option maxHeartbeats 800000 in
theorem pt_fits {z : Zt} (E : EN z cX6_fits RX6) {w0 : va_W} {P : Option Value → va_W → Prop} {lvl : Nat} (T : RT z (some .int) lvl w0 P 0 0) (hz : zn z = 3) {ad : Nat → Nat} {G : Nat → Nat → Int32} {V : Nat → Int32} (hlv : 4 ≤ lvl) (x rule : Int32) (Ql : (Nat → Nat → Int32) → Prop) (hlk : CT (zl z) (zk z) yX6_look cX6_look 5 none 2 [.ref (ad 0)] (WM (zk z) ad G V) (fun v9 w' => v9 = none ∧ ∃ G' : Nat → Nat → Int32, w' = WM (zk z) ad G' V ∧ Ql G') 0 0) (hst : ∀ Ga : Nat → Nat → Int32, Ql Ga → ¬ fX6_isNode V x = 0 → (vp_in x 60) ∧ (¬ Ga 10 (ix x) = 0 → vp_in (Ga 11 (ix x)) 60) ∧ (Ga 10 (ix x) = 1 ∨ Ga 10 (ix x) = 2 → vp_in (Ga 14 (ix x)) 40) ∧ (¬ Ga 10 (ix x) = 0 → Ga 10 (ix (Ga 11 (ix x))) = 1 ∨ Ga 10 (ix (Ga 11 (ix x))) = 2 → vp_in (Ga 14 (ix (Ga 11 (ix x)))) 40) ∧ (¬ Ga 10 (ix x) = 0 → Ga 10 (ix (Ga 11 (ix x))) = 5 → vp_in (Ga 11 (ix (Ga 11 (ix x)))) 60 ∧ vp_in (Ga 12 (ix (Ga 11 (ix x)))) 60)) 
    (k1 : fX6_isNode V x = 0 → P (some (.int (-1))) (WM (zk z) ad G V)) 
    (k2 : ∀ (Ga : Nat → Nat → Int32), Ql Ga → ¬ (fX6_isNode V x = 0) → ¬ (fX6_in rule.toInt64 0 17 = 0) → P (some (.int (if fX6_stands Ga x rule = 0 then 0 else 1))) (WM (zk z) ad Ga V)) 
    (k3 : ¬ (fX6_isNode V x = 0) → fX6_in rule.toInt64 0 17 = 0 → P (some (.int (-1))) (WM (zk z) ad G V)) :
    WW z 0 0 (WM (zk z) ad G V) 0 [(0, .ref (ad 0)), (1, .int x), (2, .int rule)] [] := by
  refine r_aload_n E (q := 1) 0 dX6_fits_0 rfl rfl rfl ?_
  refine r_iload_n E (q := 2) 1 dX6_fits_1 rfl rfl rfl ?_
  refine rVi E (q := 5) cvX6_148 T.rr 0 wm_0 rfl [.int x] (c_X6_isNode x) (by omega) rfl rfl (Nat.le_of_ble_eq_true rfl) ⟨Nat.zero_le _, Nat.zero_le _⟩ dX6_fits_2 rfl ?_
  refine r_if_eq E (q := 8) 20 dX6_fits_5 (by decide) rfl (fun c1 => ?_) (fun c1 => ?_)
  · refine r_iconst E (q := 21) (v := (-1)) dX6_fits_20 (by decide) rfl ?_
    exact r_iret E T dX6_fits_21 (k1 c1)
  · refine r_iload_n E (q := 9) 2 dX6_fits_8 rfl rfl rfl ?_
    refine r_i2l E (q := 10) dX6_fits_9 rfl ?_
    refine r_lconst E (q := 11) (v := 0) dX6_fits_10 (by decide) rfl ?_
    refine r_ldc2 E (q := 14) kX6_244 dX6_fits_11 rfl ?_
    refine rSi E (q := 17) csX6_90 T.rr [.long rule.toInt64, .long 0, .long 17] (c_X6_in rule.toInt64 0 17) (by omega) rfl rfl (Nat.le_of_ble_eq_true rfl) ⟨Nat.zero_le _, Nat.zero_le _⟩ dX6_fits_14 rfl ?_
    refine r_if_ne E (q := 20) 22 dX6_fits_17 (by decide) rfl (fun c2 => ?_) (fun c2 => ?_)
    · refine r_aload_n E (q := 23) 0 dX6_fits_22 rfl rfl rfl ?_
      refine rV E cvX6_159 T.rr Fr.all 0 wm_0 rfl [] hlk (by omega) rfl rfl (Nat.le_of_ble_eq_true rfl) ⟨Nat.zero_le _, Nat.zero_le _⟩ dX6_fits_23 (fun v9 w9 h9 => ?_)
      obtain ⟨rfl, Ga, rfl, hq⟩ := h9
      show WW z 0 0 (WM (zk z) ad Ga V) 26 [(0, .ref (ad 0)), (1, .int x), (2, .int rule)] []
      refine r_aload_n E (q := 27) 0 dX6_fits_26 rfl rfl rfl ?_
      refine r_iload_n E (q := 28) 1 dX6_fits_27 rfl rfl rfl ?_
      refine r_iload_n E (q := 29) 2 dX6_fits_28 rfl rfl rfl ?_
      refine rVi E (q := 32) cvX6_246 T.rr 0 wm_0 rfl [.int x, .int rule] (c_X6_stands x rule (hst Ga hq (by assumption)).1 (hst Ga hq (by assumption)).2.1 (hst Ga hq (by assumption)).2.2.1 (hst Ga hq (by assumption)).2.2.2.1 (hst Ga hq (by assumption)).2.2.2.2) (by omega) rfl rfl (Nat.le_of_ble_eq_true rfl) ⟨Nat.zero_le _, Nat.zero_le _⟩ dX6_fits_29 rfl ?_
      refine r_join 40 (if fX6_stands Ga x rule = 0 then 0 else 1) (rest := []) ?_ (fun hj1 => ?_)
      · exact r_iret E T dX6_fits_40 (k2 Ga hq c1 c2)
      · refine r_if_eq E (q := 35) 39 dX6_fits_32 (by decide) rfl (fun c3 => ?_) (fun c3 => ?_)
        · refine r_iconst E (q := 40) (v := 0) dX6_fits_39 (by decide) rfl ?_
          exact hj1 _ (if_pos c3).symm
        · refine r_iconst E (q := 36) (v := 1) dX6_fits_35 (by decide) rfl ?_
          refine r_goto E 40 dX6_fits_36 (by decide) ?_
          exact hj1 _ (if_neg c3).symm
    · refine r_iconst E (q := 21) (v := (-1)) dX6_fits_20 (by decide) rfl ?_
      exact r_iret E T dX6_fits_21 (k3 c1 c2)
set_option maxRecDepth 100000 in
set_option maxHeartbeats 800000 in
theorem pt_rewrite {z : Zt} (E : EN z cX6_rewrite RX6) {w0 : va_W} {P : Option Value → va_W → Prop} {lvl : Nat} (T : RT z (some .int) lvl w0 P 0 0) (hz : zn z = 3) {ad : Nat → Nat} {G : Nat → Nat → Int32} {V : Nat → Int32} (hlv : 8 ≤ lvl) (x rule : Int32) (Ql : (Nat → Nat → Int32) → Prop) (hlk : CT (zl z) (zk z) yX6_look cX6_look 5 none 2 [.ref (ad 0)] (WM (zk z) ad G V) (fun v9 w' => v9 = none ∧ ∃ G' : Nat → Nat → Int32, w' = WM (zk z) ad G' V ∧ Ql G') 0 0) (hst : ∀ Ga : Nat → Nat → Int32, Ql Ga → ¬ fX6_isNode V x = 0 → (vp_in x 60) ∧ (¬ Ga 10 (ix x) = 0 → vp_in (Ga 11 (ix x)) 60) ∧ (Ga 10 (ix x) = 1 ∨ Ga 10 (ix x) = 2 → vp_in (Ga 14 (ix x)) 40) ∧ (¬ Ga 10 (ix x) = 0 → Ga 10 (ix (Ga 11 (ix x))) = 1 ∨ Ga 10 (ix (Ga 11 (ix x))) = 2 → vp_in (Ga 14 (ix (Ga 11 (ix x)))) 40) ∧ (¬ Ga 10 (ix x) = 0 → Ga 10 (ix (Ga 11 (ix x))) = 5 → vp_in (Ga 11 (ix (Ga 11 (ix x)))) 60 ∧ vp_in (Ga 12 (ix (Ga 11 (ix x)))) 60)) (hrm : ∀ Ga : Nat → Nat → Int32, Ql Ga → ¬ fX6_isNode V x = 0 → ¬ fX6_stands Ga x rule = 0 → (rule = 7 → vp_in (Ga 11 (ix x)) 60 ∧ vp_in (Ga 14 (ix (Ga 11 (ix x)))) 40 ∧ vp_in (Ga 14 (ix x)) 40)) (hrw : ∀ Ga : Nat → Nat → Int32, Ql Ga → ¬ fX6_isNode V x = 0 → ¬ fX6_stands Ga x rule = 0 → ¬ fX6_hasRoom Ga V x rule = 0 → (vp_in (Ga 11 (ix x)) 60) ∧ (¬ (rule = 7 ∨ rule = 8 ∨ rule = 9 ∨ rule = 10 ∨ rule = 13 ∨ rule = 14 ∨ rule = 15) → vp_in (V 1) 60) ∧ (rule = 4 ∨ rule = 11 ∨ rule = 12 ∨ rule = 16 → vp_in (V 1 + 1) 60) ∧ (rule = 12 ∨ rule = 16 → vp_in (V 1 + 1 + 1) 60) ∧ (rule = 7 → vp_in (Ga 14 (ix (Ga 11 (ix x)))) 40 ∧ vp_in (Ga 14 (ix x)) 40 ∧ vp_in (V 0) 40)) 
    (k1 : fX6_isNode V x = 0 → P (some (.int (-1))) (WM (zk z) ad G V)) 
    (k2 : ∀ (Ga : Nat → Nat → Int32), Ql Ga → ∀ (G1 : Nat → Nat → Int32), G1 = fX6_rewrites_G Ga V x rule → ¬ (fX6_isNode V x = 0) → ¬ (fX6_in rule.toInt64 0 17 = 0) → ¬ (fX6_stands Ga x rule = 0) → ¬ (fX6_hasRoom Ga V x rule = 0) → P (some (.int ((fX6_rewrites_V Ga V x rule) 1))) (WM (zk z) ad G1 (fX6_rewrites_V Ga V x rule))) 
    (k3 : ∀ (Ga : Nat → Nat → Int32), Ql Ga → ¬ (fX6_isNode V x = 0) → ¬ (fX6_in rule.toInt64 0 17 = 0) → ¬ (fX6_stands Ga x rule = 0) → fX6_hasRoom Ga V x rule = 0 → P (some (.int (-2))) (WM (zk z) ad Ga V)) 
    (k4 : ∀ (Ga : Nat → Nat → Int32), Ql Ga → ¬ (fX6_isNode V x = 0) → ¬ (fX6_in rule.toInt64 0 17 = 0) → fX6_stands Ga x rule = 0 → P (some (.int (-3))) (WM (zk z) ad Ga V)) 
    (k5 : ¬ (fX6_isNode V x = 0) → fX6_in rule.toInt64 0 17 = 0 → P (some (.int (-1))) (WM (zk z) ad G V)) :
    WW z 0 0 (WM (zk z) ad G V) 0 [(0, .ref (ad 0)), (1, .int x), (2, .int rule)] [] := by
  refine r_aload_n E (q := 1) 0 dX6_rewrite_0 rfl rfl rfl ?_
  refine r_iload_n E (q := 2) 1 dX6_rewrite_1 rfl rfl rfl ?_
  refine rVi E (q := 5) cvX6_148 T.rr 0 wm_0 rfl [.int x] (c_X6_isNode x) (by omega) rfl rfl (Nat.le_of_ble_eq_true rfl) ⟨Nat.zero_le _, Nat.zero_le _⟩ dX6_rewrite_2 rfl ?_
  refine r_if_eq E (q := 8) 20 dX6_rewrite_5 (by decide) rfl (fun c1 => ?_) (fun c1 => ?_)
  · refine r_iconst E (q := 21) (v := (-1)) dX6_rewrite_20 (by decide) rfl ?_
    exact r_iret E T dX6_rewrite_21 (k1 c1)
  · refine r_iload_n E (q := 9) 2 dX6_rewrite_8 rfl rfl rfl ?_
    refine r_i2l E (q := 10) dX6_rewrite_9 rfl ?_
    refine r_lconst E (q := 11) (v := 0) dX6_rewrite_10 (by decide) rfl ?_
    refine r_ldc2 E (q := 14) kX6_244 dX6_rewrite_11 rfl ?_
    refine rSi E (q := 17) csX6_90 T.rr [.long rule.toInt64, .long 0, .long 17] (c_X6_in rule.toInt64 0 17) (by omega) rfl rfl (Nat.le_of_ble_eq_true rfl) ⟨Nat.zero_le _, Nat.zero_le _⟩ dX6_rewrite_14 rfl ?_
    refine r_if_ne E (q := 20) 22 dX6_rewrite_17 (by decide) rfl (fun c2 => ?_) (fun c2 => ?_)
    · refine r_aload_n E (q := 23) 0 dX6_rewrite_22 rfl rfl rfl ?_
      refine rV E cvX6_159 T.rr Fr.all 0 wm_0 rfl [] hlk (by omega) rfl rfl (Nat.le_of_ble_eq_true rfl) ⟨Nat.zero_le _, Nat.zero_le _⟩ dX6_rewrite_23 (fun v9 w9 h9 => ?_)
      obtain ⟨rfl, Ga, rfl, hq⟩ := h9
      show WW z 0 0 (WM (zk z) ad Ga V) 26 [(0, .ref (ad 0)), (1, .int x), (2, .int rule)] []
      refine r_aload_n E (q := 27) 0 dX6_rewrite_26 rfl rfl rfl ?_
      refine r_iload_n E (q := 28) 1 dX6_rewrite_27 rfl rfl rfl ?_
      refine r_iload_n E (q := 29) 2 dX6_rewrite_28 rfl rfl rfl ?_
      refine rVi E (q := 32) cvX6_246 T.rr 0 wm_0 rfl [.int x, .int rule] (c_X6_stands x rule (hst Ga hq (by assumption)).1 (hst Ga hq (by assumption)).2.1 (hst Ga hq (by assumption)).2.2.1 (hst Ga hq (by assumption)).2.2.2.1 (hst Ga hq (by assumption)).2.2.2.2) (by omega) rfl rfl (Nat.le_of_ble_eq_true rfl) ⟨Nat.zero_le _, Nat.zero_le _⟩ dX6_rewrite_29 rfl ?_
      refine r_if_ne E (q := 35) 38 dX6_rewrite_32 (by decide) rfl (fun c3 => ?_) (fun c3 => ?_)
      · refine r_aload_n E (q := 39) 0 dX6_rewrite_38 rfl rfl rfl ?_
        refine r_iload_n E (q := 40) 1 dX6_rewrite_39 rfl rfl rfl ?_
        refine r_iload_n E (q := 41) 2 dX6_rewrite_40 rfl rfl rfl ?_
        refine rVi E (q := 44) cvX6_261 T.rr 0 wm_0 rfl [.int x, .int rule] (c_X6_hasRoom x rule (hst Ga hq (by assumption)).1 (hrm Ga hq (by assumption) (by assumption))) (by omega) rfl rfl (Nat.le_of_ble_eq_true rfl) ⟨Nat.zero_le _, Nat.zero_le _⟩ dX6_rewrite_41 rfl ?_
        refine r_if_ne E (q := 47) 50 dX6_rewrite_44 (by decide) rfl (fun c4 => ?_) (fun c4 => ?_)
        · refine r_aload_n E (q := 51) 0 dX6_rewrite_50 rfl rfl rfl ?_
          refine r_iload_n E (q := 52) 1 dX6_rewrite_51 rfl rfl rfl ?_
          refine r_iload_n E (q := 53) 2 dX6_rewrite_52 rfl rfl rfl ?_
          refine rVv E (q := 56) cvX6_264 T.rr 0 wm_0 rfl [.int x, .int rule] (c_X6_rewrites x rule (hst Ga hq (by assumption)).1 (hrw Ga hq (by assumption) (by assumption) (by assumption)).1 (hrw Ga hq (by assumption) (by assumption) (by assumption)).2.1 (hrw Ga hq (by assumption) (by assumption) (by assumption)).2.2.1 (hrw Ga hq (by assumption) (by assumption) (by assumption)).2.2.2.1 (hrw Ga hq (by assumption) (by assumption) (by assumption)).2.2.2.2) (by omega) rfl rfl (Nat.le_of_ble_eq_true rfl) ⟨Nat.zero_le _, Nat.zero_le _⟩ dX6_rewrite_53 rfl ?_
          refine r_nGM (fun G1 eG1 => ?_)
          refine r_aload_n E (q := 57) 0 dX6_rewrite_56 rfl rfl rfl ?_
          refine r_get E (q := 60) fX6_120 0 wm_0 rfl dX6_rewrite_57 rfl ?_
          exact r_iret E T dX6_rewrite_60 (k2 Ga hq G1 eG1 c1 c2 c3 c4)
        · refine r_bipush E (q := 49) (v := (-2)) dX6_rewrite_47 (by decide) rfl ?_
          exact r_iret E T dX6_rewrite_49 (k3 Ga hq c1 c2 c3 c4)
      · refine r_bipush E (q := 37) (v := (-3)) dX6_rewrite_35 (by decide) rfl ?_
        exact r_iret E T dX6_rewrite_37 (k4 Ga hq c1 c2 c3)
    · refine r_iconst E (q := 21) (v := (-1)) dX6_rewrite_20 (by decide) rfl ?_
      exact r_iret E T dX6_rewrite_21 (k5 c1 c2)
