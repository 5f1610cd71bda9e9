theorem cnt_in {v : Int32} {m : Nat} (h0 : ∃ j : Nat, j ≤ m ∧ v = nI j) (hm : m < 2 ^ 31) (h : ¬ v = nI m) : vp_in v m := by
  obtain ⟨j, hj, rfl⟩ := h0
  exact vp_in_nI (Nat.lt_of_le_of_ne hj fun e => h (by rw [e])) hm
theorem isF_of {V : Nat → Int32} {f : Int32} (h0 : ∃ j : Nat, j ≤ 40 ∧ V 0 = nI j) (h : ¬ fX6_isFormula V f = 0) : vp_in f 40 := by
  obtain ⟨j, hj, e⟩ := h0
  exact in_cnt_of e hj (by omega) h
theorem isN_of {V : Nat → Int32} {f : Int32} (h1 : ∃ j : Nat, j ≤ 60 ∧ V 1 = nI j) (h : ¬ fX6_isNode V f = 0) : vp_in f 60 := by
  obtain ⟨j, hj, e⟩ := h1
  exact in_cnt_of e hj (by omega) h
theorem ne0_64 {y : Int32} (h : ¬ y = 0) : ¬ y.toInt64 = 0 := by
  intro e
  have e1 : y.toInt64.toInt = (0 : Int64).toInt := by rw [e]
  rw [Int32.toInt_toInt64] at e1
  exact h (Int32.toInt_inj.mp e1)
def fX6_bound (G : Nat → Nat → Int32) (x : Int32) : Int32 := if (if G 10 (ix x) = 0 then 6 else (G 15 (ix (G 11 (ix x)))) : Int32) = (-1) then (-1) else (if (if fX6_isTwo (G 10 (ix x)) = 0 then 0 else (G 15 (ix (G 12 (ix x)))) : Int32) = (-1) then (-1) else (if G 10 (ix x) = 4 then ((if G 10 (ix x) = 0 then 6 else (G 15 (ix (G 11 (ix x))))) * (if fX6_isTwo (G 10 (ix x)) = 0 then 0 else (G 15 (ix (G 12 (ix x)))))) else (if G 10 (ix x) = 5 then ((if G 10 (ix x) = 0 then 6 else (G 15 (ix (G 11 (ix x))))) + (if fX6_isTwo (G 10 (ix x)) = 0 then 0 else (G 15 (ix (G 12 (ix x)))))) else (if G 10 (ix x) = 8 then (if (if G 10 (ix x) = 0 then 6 else (G 15 (ix (G 11 (ix x)))) : Int32) ≤ G 14 (ix x) then (if G 10 (ix x) = 0 then 6 else (G 15 (ix (G 11 (ix x))))) else (G 14 (ix x))) else (if G 10 (ix x) = 0 then 6 else (G 15 (ix (G 11 (ix x)))))))))
set_option maxRecDepth 100000 in
set_option maxHeartbeats 800000 in
theorem c_X6_bound {l : Launch} {k : Kt} {ad : Nat → Nat} {G : Nat → Nat → Int32} {V : Nat → Int32} (x : Int32) (hx : vp_in x 60) (ha : ¬ G 10 (ix x) = 0 → vp_in (G 11 (ix x)) 60) (hb : ¬ fX6_isTwo (G 10 (ix x)) = 0 → vp_in (G 12 (ix x)) 60) : CT l k yX6_bound cX6_bound 4 (some .int) 1 [.ref (ad 0), .int x] (WM k ad G V) (eqI (fX6_bound G x) (WM k ad G V)) 0 0 := by
  refine ct_of (own := RX6) (lv0 := [(0, .ref (ad 0)), (1, .int x)]) (by decide) rfl (Nat.le_of_ble_eq_true rfl) rfl ?_
  rintro z rfl rfl hz - E T
  refine r_aload_n E (q := 1) 0 dX6_bound_0 rfl rfl rfl ?_
  refine r_get E (q := 4) fX6_38 0 wm_0 rfl dX6_bound_1 rfl ?_
  refine r_iload_n E (q := 5) 1 dX6_bound_4 rfl rfl rfl ?_
  refine r_iald E (q := 6) 10 wm_10 (by first | assumption | exact ha (by assumption) | exact hb (by assumption)) dX6_bound_5 rfl ?_
  refine r_join 25 (if G 10 (ix x) = 0 then 6 else (G 15 (ix (G 11 (ix x))))) (rest := []) ?_ (fun hj1 => ?_)
  · refine r_istore_n E (q := 26) (lv' := [(0, .ref (ad 0)), (1, .int x), (2, .int (if G 10 (ix x) = 0 then 6 else (G 15 (ix (G 11 (ix x))))))]) [1, 2, 0] dX6_bound_25 rfl (by rw [hz]; decide) rfl rfl ?_
    refine r_aload_n E (q := 27) 0 dX6_bound_26 rfl rfl rfl ?_
    refine r_get E (q := 30) fX6_38 0 wm_0 rfl dX6_bound_27 rfl ?_
    refine r_iload_n E (q := 31) 1 dX6_bound_30 rfl rfl rfl ?_
    refine r_iald E (q := 32) 10 wm_10 (by first | assumption | exact ha (by assumption) | exact hb (by assumption)) dX6_bound_31 rfl ?_
    refine rSi E (q := 35) csX6_129 T.rr [.int (G 10 (ix x))] (c_X6_isTwo (G 10 (ix x))) (by decide) rfl rfl (Nat.le_of_ble_eq_true rfl) ⟨(Nat.le_of_ble_eq_true rfl), (Nat.le_of_ble_eq_true rfl)⟩ dX6_bound_32 rfl ?_
    refine r_join 53 (if fX6_isTwo (G 10 (ix x)) = 0 then 0 else (G 15 (ix (G 12 (ix x))))) (rest := []) ?_ (fun hj2 => ?_)
    · refine r_istore_n E (q := 54) (lv' := [(0, .ref (ad 0)), (1, .int x), (2, .int (if G 10 (ix x) = 0 then 6 else (G 15 (ix (G 11 (ix x)))))), (3, .int (if fX6_isTwo (G 10 (ix x)) = 0 then 0 else (G 15 (ix (G 12 (ix x))))))]) [1, 2, 3, 0] dX6_bound_53 rfl (by rw [hz]; decide) rfl rfl ?_
      refine r_iload_n E (q := 55) 2 dX6_bound_54 rfl rfl rfl ?_
      refine r_iconst E (q := 56) (v := (-1)) dX6_bound_55 (by decide) rfl ?_
      refine r_icmp_eq E (q := 59) 64 dX6_bound_56 (by decide) rfl (fun c3 => ?_) (fun c3 => ?_)
      · refine r_iconst E (q := 65) (v := (-1)) dX6_bound_64 (by decide) rfl ?_
        exact r_iret E T dX6_bound_65 (eqI.mk (by unfold fX6_bound; exact (if_pos c3).symm) rfl)
      · refine r_iload_n E (q := 60) 3 dX6_bound_59 rfl rfl rfl ?_
        refine r_iconst E (q := 61) (v := (-1)) dX6_bound_60 (by decide) rfl ?_
        refine r_icmp_ne E (q := 64) 66 dX6_bound_61 (by decide) rfl (fun c4 => ?_) (fun c4 => ?_)
        · refine r_aload_n E (q := 67) 0 dX6_bound_66 rfl rfl rfl ?_
          refine r_get E (q := 70) fX6_38 0 wm_0 rfl dX6_bound_67 rfl ?_
          refine r_iload_n E (q := 71) 1 dX6_bound_70 rfl rfl rfl ?_
          refine r_iald E (q := 72) 10 wm_10 (by first | assumption | exact ha (by assumption) | exact hb (by assumption)) dX6_bound_71 rfl ?_
          refine r_iconst E (q := 73) (v := 4) dX6_bound_72 (by decide) rfl ?_
          refine r_join 129 (if G 10 (ix x) = 4 then ((if G 10 (ix x) = 0 then 6 else (G 15 (ix (G 11 (ix x))))) * (if fX6_isTwo (G 10 (ix x)) = 0 then 0 else (G 15 (ix (G 12 (ix x)))))) else (if G 10 (ix x) = 5 then ((if G 10 (ix x) = 0 then 6 else (G 15 (ix (G 11 (ix x))))) + (if fX6_isTwo (G 10 (ix x)) = 0 then 0 else (G 15 (ix (G 12 (ix x)))))) else (if G 10 (ix x) = 8 then (if (if G 10 (ix x) = 0 then 6 else (G 15 (ix (G 11 (ix x)))) : Int32) ≤ G 14 (ix x) then (if G 10 (ix x) = 0 then 6 else (G 15 (ix (G 11 (ix x))))) else (G 14 (ix x))) else (if G 10 (ix x) = 0 then 6 else (G 15 (ix (G 11 (ix x)))))))) (rest := []) ?_ (fun hj3 => ?_)
          · exact r_iret E T dX6_bound_129 (eqI.mk (by unfold fX6_bound; exact ((if_neg c3).trans (if_neg c4)).symm) rfl)
          · refine r_icmp_ne E (q := 76) 82 dX6_bound_73 (by decide) rfl (fun c5 => ?_) (fun c5 => ?_)
            · refine r_aload_n E (q := 83) 0 dX6_bound_82 rfl rfl rfl ?_
              refine r_get E (q := 86) fX6_38 0 wm_0 rfl dX6_bound_83 rfl ?_
              refine r_iload_n E (q := 87) 1 dX6_bound_86 rfl rfl rfl ?_
              refine r_iald E (q := 88) 10 wm_10 (by first | assumption | exact ha (by assumption) | exact hb (by assumption)) dX6_bound_87 rfl ?_
              refine r_iconst E (q := 89) (v := 5) dX6_bound_88 (by decide) rfl ?_
              refine r_icmp_ne E (q := 92) 98 dX6_bound_89 (by decide) rfl (fun c6 => ?_) (fun c6 => ?_)
              · refine r_aload_n E (q := 99) 0 dX6_bound_98 rfl rfl rfl ?_
                refine r_get E (q := 102) fX6_38 0 wm_0 rfl dX6_bound_99 rfl ?_
                refine r_iload_n E (q := 103) 1 dX6_bound_102 rfl rfl rfl ?_
                refine r_iald E (q := 104) 10 wm_10 (by first | assumption | exact ha (by assumption) | exact hb (by assumption)) dX6_bound_103 rfl ?_
                refine r_bipush E (q := 106) (v := 8) dX6_bound_104 (by decide) rfl ?_
                refine r_icmp_ne E (q := 109) 128 dX6_bound_106 (by decide) rfl (fun c7 => ?_) (fun c7 => ?_)
                · refine r_iload_n E (q := 129) 2 dX6_bound_128 rfl rfl rfl ?_
                  exact hj3 _ ((if_neg c5).trans ((if_neg c6).trans (if_neg c7))).symm
                · refine r_aload_n E (q := 110) 0 dX6_bound_109 rfl rfl rfl ?_
                  refine r_get E (q := 113) fX6_50 0 wm_0 rfl dX6_bound_110 rfl ?_
                  refine r_iload_n E (q := 114) 1 dX6_bound_113 rfl rfl rfl ?_
                  refine r_iald E (q := 115) 14 wm_14 (by first | assumption | exact ha (by assumption) | exact hb (by assumption)) dX6_bound_114 rfl ?_
                  refine r_iload_n E (q := 116) 2 dX6_bound_115 rfl rfl rfl ?_
                  refine r_icmp_ge E (q := 119) 128 dX6_bound_116 (by decide) rfl (fun c8 => ?_) (fun c8 => ?_)
                  · refine r_iload_n E (q := 129) 2 dX6_bound_128 rfl rfl rfl ?_
                    exact hj3 _ ((if_neg c5).trans ((if_neg c6).trans ((if_pos c7).trans (if_pos c8)))).symm
                  · refine r_aload_n E (q := 120) 0 dX6_bound_119 rfl rfl rfl ?_
                    refine r_get E (q := 123) fX6_50 0 wm_0 rfl dX6_bound_120 rfl ?_
                    refine r_iload_n E (q := 124) 1 dX6_bound_123 rfl rfl rfl ?_
                    refine r_iald E (q := 125) 14 wm_14 (by first | assumption | exact ha (by assumption) | exact hb (by assumption)) dX6_bound_124 rfl ?_
                    refine r_goto E 129 dX6_bound_125 (by decide) ?_
                    exact hj3 _ ((if_neg c5).trans ((if_neg c6).trans ((if_pos c7).trans (if_neg c8)))).symm
              · refine r_iload_n E (q := 93) 2 dX6_bound_92 rfl rfl rfl ?_
                refine r_iload_n E (q := 94) 3 dX6_bound_93 rfl rfl rfl ?_
                refine r_iadd E (q := 95) dX6_bound_94 rfl ?_
                refine r_goto E 129 dX6_bound_95 (by decide) ?_
                exact hj3 _ ((if_neg c5).trans (if_pos c6)).symm
            · refine r_iload_n E (q := 77) 2 dX6_bound_76 rfl rfl rfl ?_
              refine r_iload_n E (q := 78) 3 dX6_bound_77 rfl rfl rfl ?_
              refine r_imul E (q := 79) dX6_bound_78 rfl ?_
              refine r_goto E 129 dX6_bound_79 (by decide) ?_
              exact hj3 _ (if_pos c5).symm
        · refine r_iconst E (q := 65) (v := (-1)) dX6_bound_64 (by decide) rfl ?_
          exact r_iret E T dX6_bound_65 (eqI.mk (by unfold fX6_bound; exact ((if_neg c3).trans (if_pos c4)).symm) rfl)
    · refine r_if_eq E (q := 38) 52 dX6_bound_35 (by decide) rfl (fun c2 => ?_) (fun c2 => ?_)
      · refine r_iconst E (q := 53) (v := 0) dX6_bound_52 (by decide) rfl ?_
        exact hj2 _ (if_pos c2).symm
      · refine r_aload_n E (q := 39) 0 dX6_bound_38 rfl rfl rfl ?_
        refine r_get E (q := 42) fX6_53 0 wm_0 rfl dX6_bound_39 rfl ?_
        refine r_aload_n E (q := 43) 0 dX6_bound_42 rfl rfl rfl ?_
        refine r_get E (q := 46) fX6_44 0 wm_0 rfl dX6_bound_43 rfl ?_
        refine r_iload_n E (q := 47) 1 dX6_bound_46 rfl rfl rfl ?_
        refine r_iald E (q := 48) 12 wm_12 (by first | assumption | exact ha (by assumption) | exact hb (by assumption)) dX6_bound_47 rfl ?_
        refine r_iald E (q := 49) 15 wm_15 (by first | assumption | exact ha (by assumption) | exact hb (by assumption)) dX6_bound_48 rfl ?_
        refine r_goto E 53 dX6_bound_49 (by decide) ?_
        exact hj2 _ (if_neg c2).symm
  · refine r_if_ne E (q := 9) 14 dX6_bound_6 (by decide) rfl (fun c1 => ?_) (fun c1 => ?_)
    · refine r_aload_n E (q := 15) 0 dX6_bound_14 rfl rfl rfl ?_
      refine r_get E (q := 18) fX6_53 0 wm_0 rfl dX6_bound_15 rfl ?_
      refine r_aload_n E (q := 19) 0 dX6_bound_18 rfl rfl rfl ?_
      refine r_get E (q := 22) fX6_41 0 wm_0 rfl dX6_bound_19 rfl ?_
      refine r_iload_n E (q := 23) 1 dX6_bound_22 rfl rfl rfl ?_
      refine r_iald E (q := 24) 11 wm_11 (by first | assumption | exact ha (by assumption) | exact hb (by assumption)) dX6_bound_23 rfl ?_
      refine r_iald E (q := 25) 15 wm_15 (by first | assumption | exact ha (by assumption) | exact hb (by assumption)) dX6_bound_24 rfl ?_
      exact hj1 _ (if_neg c1).symm
    · refine r_bipush E (q := 11) (v := 6) dX6_bound_9 (by decide) rfl ?_
      refine r_goto E 25 dX6_bound_11 (by decide) ?_
      exact hj1 _ (if_pos c1).symm
def fX6_asks_G (G : Nat → Nat → Int32) (V : Nat → Int32) (f : Int32) : Nat → Nat → Int32 := fX6_begins_G (ug G 18 (ix ((V 3) - 1)) ((G 18 (ix ((V 3) - 1))) + 1)) V f
def fX6_asks_V (G : Nat → Nat → Int32) (V : Nat → Int32) (f : Int32) : Nat → Int32 := fX6_begins_V (ug G 18 (ix ((V 3) - 1)) ((G 18 (ix ((V 3) - 1))) + 1)) V f
set_option maxRecDepth 100000 in
set_option maxHeartbeats 800000 in
theorem c_X6_asks {l : Launch} {k : Kt} {ad : Nat → Nat} {G : Nat → Nat → Int32} {V : Nat → Int32} (f : Int32) (ht : vp_in (V 3 - 1) 40) (hh : vp_in (V 3) 40) : CT l k yX6_asks cX6_asks 2 none 1 [.ref (ad 0), .int f] (WM k ad G V) (eqV (WM k ad (fX6_asks_G G V f) (fX6_asks_V G V f))) 0 0 := by
  refine ct_of (own := RX6) (lv0 := [(0, .ref (ad 0)), (1, .int f)]) (by decide) rfl (Nat.le_of_ble_eq_true rfl) rfl ?_
  rintro z rfl rfl hz - E T
  refine r_aload_n E (q := 1) 0 dX6_asks_0 rfl rfl rfl ?_
  refine r_get E (q := 4) fX6_62 0 wm_0 rfl dX6_asks_1 rfl ?_
  refine r_aload_n E (q := 5) 0 dX6_asks_4 rfl rfl rfl ?_
  refine r_get E (q := 8) fX6_164 0 wm_0 rfl dX6_asks_5 rfl ?_
  refine r_iconst E (q := 9) (v := 1) dX6_asks_8 (by decide) rfl ?_
  refine r_isub E (q := 10) dX6_asks_9 rfl ?_
  refine r_dup2 E (q := 11) dX6_asks_10 rfl rfl rfl ?_
  refine r_iald E (q := 12) 18 wm_18 (by assumption) dX6_asks_11 rfl ?_
  refine r_iconst E (q := 13) (v := 1) dX6_asks_12 (by decide) rfl ?_
  refine r_iadd E (q := 14) dX6_asks_13 rfl ?_
  refine r_iast E (q := 15) 18 wm_18 (by assumption) wmu_18 dX6_asks_14 rfl ?_
  refine r_aload_n E (q := 16) 0 dX6_asks_15 rfl rfl rfl ?_
  refine r_iload_n E (q := 17) 1 dX6_asks_16 rfl rfl rfl ?_
  refine rVv E (q := 20) cvX6_170 T.rr 0 wm_0 rfl [.int f] (c_X6_begins f (by assumption)) (by decide) rfl rfl (Nat.le_of_ble_eq_true rfl) ⟨(Nat.le_of_ble_eq_true rfl), (Nat.le_of_ble_eq_true rfl)⟩ dX6_asks_17 rfl ?_
  exact r_vret E T dX6_asks_20 (eqV.mk (cgM (by unfold fX6_asks_G; exact rfl) (by unfold fX6_asks_V; exact rfl)))
def fX6_single_V (G : Nat → Nat → Int32) (V : Nat → Int32) (x : Int32) : Nat → Int32 := if x = 11 then (fX6_gives_V V (if V 4 = 0 then 1 else 0)) else (if fX6_in ((V 4).toInt64) 0 7 = 0 then (upd V 5 2) else (fX6_gives_V V (G 3 (ix (V 4)))))
set_option maxRecDepth 100000 in
set_option maxHeartbeats 800000 in
theorem c_X6_single {l : Launch} {k : Kt} {ad : Nat → Nat} {G : Nat → Nat → Int32} {V : Nat → Int32} (x : Int32) : CT l k yX6_single cX6_single 2 none 1 [.ref (ad 0), .int x] (WM k ad G V) (eqV (WM k ad G (fX6_single_V G V x))) 0 0 := by
  refine ct_of (own := RX6) (lv0 := [(0, .ref (ad 0)), (1, .int x)]) (by decide) rfl (Nat.le_of_ble_eq_true rfl) rfl ?_
  rintro z rfl rfl hz - E T
  refine r_iload_n E (q := 1) 1 dX6_single_0 rfl rfl rfl ?_
  refine r_bipush E (q := 3) (v := 11) dX6_single_1 (by decide) rfl ?_
  refine r_icmp_ne E (q := 6) 25 dX6_single_3 (by decide) rfl (fun c1 => ?_) (fun c1 => ?_)
  · refine r_aload_n E (q := 26) 0 dX6_single_25 rfl rfl rfl ?_
    refine r_get E (q := 29) fX6_174 0 wm_0 rfl dX6_single_26 rfl ?_
    refine r_i2l E (q := 30) dX6_single_29 rfl ?_
    refine r_lconst E (q := 31) (v := 0) dX6_single_30 (by decide) rfl ?_
    refine r_ldc2 E (q := 34) kX6_94 dX6_single_31 rfl ?_
    refine rSi E (q := 37) csX6_90 T.rr [.long ((V 4).toInt64), .long 0, .long 7] (c_X6_in ((V 4).toInt64) 0 7) (by decide) rfl rfl (Nat.le_of_ble_eq_true rfl) ⟨(Nat.le_of_ble_eq_true rfl), (Nat.le_of_ble_eq_true rfl)⟩ dX6_single_34 rfl ?_
    refine r_if_eq E (q := 40) 56 dX6_single_37 (by decide) rfl (fun c2 => ?_) (fun c2 => ?_)
    · refine r_aload_n E (q := 57) 0 dX6_single_56 rfl rfl rfl ?_
      refine r_iconst E (q := 58) (v := 2) dX6_single_57 (by decide) rfl ?_
      refine r_put E (q := 61) pX6_190 rfl 0 wm_0 rfl rfl (Nat.le_of_ble_eq_true rfl) wmv_5 dX6_single_58 rfl ?_
      exact r_vret E T dX6_single_61 (eqV.mk (cgM rfl (by unfold fX6_single_V; exact ((if_neg c1).trans (if_pos c2)).symm)))
    · refine r_aload_n E (q := 41) 0 dX6_single_40 rfl rfl rfl ?_
      refine r_aload_n E (q := 42) 0 dX6_single_41 rfl rfl rfl ?_
      refine r_get E (q := 45) fX6_16 0 wm_0 rfl dX6_single_42 rfl ?_
      refine r_aload_n E (q := 46) 0 dX6_single_45 rfl rfl rfl ?_
      refine r_get E (q := 49) fX6_174 0 wm_0 rfl dX6_single_46 rfl ?_
      refine r_iald E (q := 50) 3 wm_3 (in_of (m := 7) (by omega) (by assumption)) dX6_single_49 rfl ?_
      refine rVv E (q := 53) cvX6_177 T.rr 0 wm_0 rfl [.int (G 3 (ix (V 4)))] (c_X6_gives (G 3 (ix (V 4)))) (by decide) rfl rfl (Nat.le_of_ble_eq_true rfl) ⟨(Nat.le_of_ble_eq_true rfl), (Nat.le_of_ble_eq_true rfl)⟩ dX6_single_50 rfl ?_
      refine r_goto E 61 dX6_single_53 (by decide) ?_
      exact r_vret E T dX6_single_61 (eqV.mk (cgM rfl (by unfold fX6_single_V; exact ((if_neg c1).trans (if_neg c2)).symm)))
  · refine r_aload_n E (q := 7) 0 dX6_single_6 rfl rfl rfl ?_
    refine r_aload_n E (q := 8) 0 dX6_single_7 rfl rfl rfl ?_
    refine r_get E (q := 11) fX6_174 0 wm_0 rfl dX6_single_8 rfl ?_
    refine r_join 19 (if V 4 = 0 then 1 else 0) (rest := [.ref (ad 0)]) ?_ (fun hj1 => ?_)
    · refine rVv E (q := 22) cvX6_177 T.rr 0 wm_0 rfl [.int (if V 4 = 0 then 1 else 0)] (c_X6_gives (if V 4 = 0 then 1 else 0)) (by decide) rfl rfl (Nat.le_of_ble_eq_true rfl) ⟨(Nat.le_of_ble_eq_true rfl), (Nat.le_of_ble_eq_true rfl)⟩ dX6_single_19 rfl ?_
      refine r_goto E 61 dX6_single_22 (by decide) ?_
      exact r_vret E T dX6_single_61 (eqV.mk (cgM rfl (by unfold fX6_single_V; exact (if_pos c1).symm)))
    · refine r_if_ne E (q := 14) 18 dX6_single_11 (by decide) rfl (fun c3 => ?_) (fun c3 => ?_)
      · refine r_iconst E (q := 19) (v := 0) dX6_single_18 (by decide) rfl ?_
        exact hj1 _ (if_neg c3).symm
      · refine r_iconst E (q := 15) (v := 1) dX6_single_14 (by decide) rfl ?_
        refine r_goto E 19 dX6_single_15 (by decide) ?_
        exact hj1 _ (if_pos c3).symm
def fX6_both_V (V : Nat → Int32) (x : Int32) (y : Int32) (v : Int32) : Nat → Int32 := if x = 2 then (fX6_gives_V V (y + v)) else (if x = 3 then (fX6_gives_V V (y - v)) else (if x = 4 then (fX6_gives_V V (y * v)) else (if x = 5 then (if v = 0 then (upd V 5 1) else (fX6_gives_V V ((y.toInt64 / v.toInt64).toInt32))) else (if x = 6 then (fX6_gives_V V (if v = 0 then 0 else 1)) else (if x = 7 then (fX6_gives_V V (if v ≤ y then 0 else 1)) else (if x = 8 then (fX6_gives_V V (if y = v then 1 else 0)) else (fX6_gives_V V (if v = 0 then 0 else 1))))))))
set_option maxRecDepth 100000 in
set_option maxHeartbeats 800000 in
theorem c_X6_both {l : Launch} {k : Kt} {ad : Nat → Nat} {G : Nat → Nat → Int32} {V : Nat → Int32} (x : Int32) (y : Int32) (v : Int32) : CT l k yX6_both cX6_both 4 none 1 [.ref (ad 0), .int x, .int y, .int v] (WM k ad G V) (eqV (WM k ad G (fX6_both_V V x y v))) 0 0 := by
  refine ct_of (own := RX6) (lv0 := [(0, .ref (ad 0)), (1, .int x), (2, .int y), (3, .int v)]) (by decide) rfl (Nat.le_of_ble_eq_true rfl) rfl ?_
  rintro z rfl rfl hz - E T
  refine r_iload_n E (q := 1) 1 dX6_both_0 rfl rfl rfl ?_
  by_cases c1 : x = 2
  · refine r_tabIn E 2 c1 44 dX6_both_1 (by decide) (by rfl) (by decide) ?_
    refine r_aload_n E (q := 45) 0 dX6_both_44 rfl rfl rfl ?_
    refine r_iload_n E (q := 46) 2 dX6_both_45 rfl rfl rfl ?_
    refine r_iload_n E (q := 47) 3 dX6_both_46 rfl rfl rfl ?_
    refine r_iadd E (q := 48) dX6_both_47 rfl ?_
    refine rVv E (q := 51) cvX6_177 T.rr 0 wm_0 rfl [.int (y + v)] (c_X6_gives (y + v)) (by decide) rfl rfl (Nat.le_of_ble_eq_true rfl) ⟨(Nat.le_of_ble_eq_true rfl), (Nat.le_of_ble_eq_true rfl)⟩ dX6_both_48 rfl ?_
    refine r_goto E 146 dX6_both_51 (by decide) ?_
    exact r_vret E T dX6_both_146 (eqV.mk (cgM rfl (by unfold fX6_both_V; exact (if_pos c1).symm)))
  · by_cases c2 : x = 3
    · refine r_tabIn E 3 c2 54 dX6_both_1 (by decide) (by rfl) (by decide) ?_
      refine r_aload_n E (q := 55) 0 dX6_both_54 rfl rfl rfl ?_
      refine r_iload_n E (q := 56) 2 dX6_both_55 rfl rfl rfl ?_
      refine r_iload_n E (q := 57) 3 dX6_both_56 rfl rfl rfl ?_
      refine r_isub E (q := 58) dX6_both_57 rfl ?_
      refine rVv E (q := 61) cvX6_177 T.rr 0 wm_0 rfl [.int (y - v)] (c_X6_gives (y - v)) (by decide) rfl rfl (Nat.le_of_ble_eq_true rfl) ⟨(Nat.le_of_ble_eq_true rfl), (Nat.le_of_ble_eq_true rfl)⟩ dX6_both_58 rfl ?_
      refine r_goto E 146 dX6_both_61 (by decide) ?_
      exact r_vret E T dX6_both_146 (eqV.mk (cgM rfl (by unfold fX6_both_V; exact ((if_neg c1).trans (if_pos c2)).symm)))
    · by_cases c3 : x = 4
      · refine r_tabIn E 4 c3 64 dX6_both_1 (by decide) (by rfl) (by decide) ?_
        refine r_aload_n E (q := 65) 0 dX6_both_64 rfl rfl rfl ?_
        refine r_iload_n E (q := 66) 2 dX6_both_65 rfl rfl rfl ?_
        refine r_iload_n E (q := 67) 3 dX6_both_66 rfl rfl rfl ?_
        refine r_imul E (q := 68) dX6_both_67 rfl ?_
        refine rVv E (q := 71) cvX6_177 T.rr 0 wm_0 rfl [.int (y * v)] (c_X6_gives (y * v)) (by decide) rfl rfl (Nat.le_of_ble_eq_true rfl) ⟨(Nat.le_of_ble_eq_true rfl), (Nat.le_of_ble_eq_true rfl)⟩ dX6_both_68 rfl ?_
        refine r_goto E 146 dX6_both_71 (by decide) ?_
        exact r_vret E T dX6_both_146 (eqV.mk (cgM rfl (by unfold fX6_both_V; exact ((if_neg c1).trans ((if_neg c2).trans (if_pos c3))).symm)))
      · by_cases c4 : x = 5
        · refine r_tabIn E 5 c4 74 dX6_both_1 (by decide) (by rfl) (by decide) ?_
          refine r_iload_n E (q := 75) 3 dX6_both_74 rfl rfl rfl ?_
          refine r_if_ne E (q := 78) 86 dX6_both_75 (by decide) rfl (fun c5 => ?_) (fun c5 => ?_)
          · refine r_aload_n E (q := 87) 0 dX6_both_86 rfl rfl rfl ?_
            refine r_iload_n E (q := 88) 2 dX6_both_87 rfl rfl rfl ?_
            refine r_i2l E (q := 89) dX6_both_88 rfl ?_
            refine r_iload_n E (q := 90) 3 dX6_both_89 rfl rfl rfl ?_
            refine r_i2l E (q := 91) dX6_both_90 rfl ?_
            refine r_ldiv E (q := 92) dX6_both_91 (ne0_64 (by assumption)) rfl ?_
            refine r_l2i E (q := 93) dX6_both_92 rfl ?_
            refine rVv E (q := 96) cvX6_177 T.rr 0 wm_0 rfl [.int ((y.toInt64 / v.toInt64).toInt32)] (c_X6_gives ((y.toInt64 / v.toInt64).toInt32)) (by decide) rfl rfl (Nat.le_of_ble_eq_true rfl) ⟨(Nat.le_of_ble_eq_true rfl), (Nat.le_of_ble_eq_true rfl)⟩ dX6_both_93 rfl ?_
            refine r_goto E 146 dX6_both_96 (by decide) ?_
            exact r_vret E T dX6_both_146 (eqV.mk (cgM rfl (by unfold fX6_both_V; exact ((if_neg c1).trans ((if_neg c2).trans ((if_neg c3).trans ((if_pos c4).trans (if_neg c5))))).symm)))
          · refine r_aload_n E (q := 79) 0 dX6_both_78 rfl rfl rfl ?_
            refine r_iconst E (q := 80) (v := 1) dX6_both_79 (by decide) rfl ?_
            refine r_put E (q := 83) pX6_190 rfl 0 wm_0 rfl rfl (Nat.le_of_ble_eq_true rfl) wmv_5 dX6_both_80 rfl ?_
            refine r_goto E 146 dX6_both_83 (by decide) ?_
            exact r_vret E T dX6_both_146 (eqV.mk (cgM rfl (by unfold fX6_both_V; exact ((if_neg c1).trans ((if_neg c2).trans ((if_neg c3).trans ((if_pos c4).trans (if_pos c5))))).symm)))
        · by_cases c6 : x = 6
          · refine r_tabIn E 6 c6 133 dX6_both_1 (by decide) (by rfl) (by decide) ?_
            refine r_aload_n E (q := 134) 0 dX6_both_133 rfl rfl rfl ?_
            refine r_iload_n E (q := 135) 3 dX6_both_134 rfl rfl rfl ?_
            refine r_join 143 (if v = 0 then 0 else 1) (rest := [.ref (ad 0)]) ?_ (fun hj1 => ?_)
            · refine rVv E (q := 146) cvX6_177 T.rr 0 wm_0 rfl [.int (if v = 0 then 0 else 1)] (c_X6_gives (if v = 0 then 0 else 1)) (by decide) rfl rfl (Nat.le_of_ble_eq_true rfl) ⟨(Nat.le_of_ble_eq_true rfl), (Nat.le_of_ble_eq_true rfl)⟩ dX6_both_143 rfl ?_
              exact r_vret E T dX6_both_146 (eqV.mk (cgM rfl (by unfold fX6_both_V; exact ((if_neg c1).trans ((if_neg c2).trans ((if_neg c3).trans ((if_neg c4).trans (if_pos c6))))).symm)))
            · refine r_if_eq E (q := 138) 142 dX6_both_135 (by decide) rfl (fun c7 => ?_) (fun c7 => ?_)
              · refine r_iconst E (q := 143) (v := 0) dX6_both_142 (by decide) rfl ?_
                exact hj1 _ (if_pos c7).symm
              · refine r_iconst E (q := 139) (v := 1) dX6_both_138 (by decide) rfl ?_
                refine r_goto E 143 dX6_both_139 (by decide) ?_
                exact hj1 _ (if_neg c7).symm
          · by_cases c8 : x = 7
            · refine r_tabIn E 7 c8 99 dX6_both_1 (by decide) (by rfl) (by decide) ?_
              refine r_aload_n E (q := 100) 0 dX6_both_99 rfl rfl rfl ?_
              refine r_iload_n E (q := 101) 2 dX6_both_100 rfl rfl rfl ?_
              refine r_iload_n E (q := 102) 3 dX6_both_101 rfl rfl rfl ?_
              refine r_join 110 (if v ≤ y then 0 else 1) (rest := [.ref (ad 0)]) ?_ (fun hj2 => ?_)
              · refine rVv E (q := 113) cvX6_177 T.rr 0 wm_0 rfl [.int (if v ≤ y then 0 else 1)] (c_X6_gives (if v ≤ y then 0 else 1)) (by decide) rfl rfl (Nat.le_of_ble_eq_true rfl) ⟨(Nat.le_of_ble_eq_true rfl), (Nat.le_of_ble_eq_true rfl)⟩ dX6_both_110 rfl ?_
                refine r_goto E 146 dX6_both_113 (by decide) ?_
                exact r_vret E T dX6_both_146 (eqV.mk (cgM rfl (by unfold fX6_both_V; exact ((if_neg c1).trans ((if_neg c2).trans ((if_neg c3).trans ((if_neg c4).trans ((if_neg c6).trans (if_pos c8)))))).symm)))
              · refine r_icmp_ge E (q := 105) 109 dX6_both_102 (by decide) rfl (fun c9 => ?_) (fun c9 => ?_)
                · refine r_iconst E (q := 110) (v := 0) dX6_both_109 (by decide) rfl ?_
                  exact hj2 _ (if_pos c9).symm
                · refine r_iconst E (q := 106) (v := 1) dX6_both_105 (by decide) rfl ?_
                  refine r_goto E 110 dX6_both_106 (by decide) ?_
                  exact hj2 _ (if_neg c9).symm
            · by_cases c10 : x = 8
              · refine r_tabIn E 8 c10 116 dX6_both_1 (by decide) (by rfl) (by decide) ?_
                refine r_aload_n E (q := 117) 0 dX6_both_116 rfl rfl rfl ?_
                refine r_iload_n E (q := 118) 2 dX6_both_117 rfl rfl rfl ?_
                refine r_iload_n E (q := 119) 3 dX6_both_118 rfl rfl rfl ?_
                refine r_join 127 (if y = v then 1 else 0) (rest := [.ref (ad 0)]) ?_ (fun hj3 => ?_)
                · refine rVv E (q := 130) cvX6_177 T.rr 0 wm_0 rfl [.int (if y = v then 1 else 0)] (c_X6_gives (if y = v then 1 else 0)) (by decide) rfl rfl (Nat.le_of_ble_eq_true rfl) ⟨(Nat.le_of_ble_eq_true rfl), (Nat.le_of_ble_eq_true rfl)⟩ dX6_both_127 rfl ?_
                  refine r_goto E 146 dX6_both_130 (by decide) ?_
                  exact r_vret E T dX6_both_146 (eqV.mk (cgM rfl (by unfold fX6_both_V; exact ((if_neg c1).trans ((if_neg c2).trans ((if_neg c3).trans ((if_neg c4).trans ((if_neg c6).trans ((if_neg c8).trans (if_pos c10))))))).symm)))
                · refine r_icmp_ne E (q := 122) 126 dX6_both_119 (by decide) rfl (fun c11 => ?_) (fun c11 => ?_)
                  · refine r_iconst E (q := 127) (v := 0) dX6_both_126 (by decide) rfl ?_
                    exact hj3 _ (if_neg c11).symm
                  · refine r_iconst E (q := 123) (v := 1) dX6_both_122 (by decide) rfl ?_
                    refine r_goto E 127 dX6_both_123 (by decide) ?_
                    exact hj3 _ (if_pos c11).symm
              · refine r_tabOut E 133 dX6_both_1 (sw_out (fun j hj e => by match j with | 0 => exact c1 (e.trans (by decide)) | 1 => exact c2 (e.trans (by decide)) | 2 => exact c3 (e.trans (by decide)) | 3 => exact c4 (e.trans (by decide)) | 4 => exact c6 (e.trans (by decide)) | 5 => exact c8 (e.trans (by decide)) | 6 => exact c10 (e.trans (by decide)) | j + 7 => omega)) (by decide) ?_
                refine r_aload_n E (q := 134) 0 dX6_both_133 rfl rfl rfl ?_
                refine r_iload_n E (q := 135) 3 dX6_both_134 rfl rfl rfl ?_
                refine r_join 143 (if v = 0 then 0 else 1) (rest := [.ref (ad 0)]) ?_ (fun hj4 => ?_)
                · refine rVv E (q := 146) cvX6_177 T.rr 0 wm_0 rfl [.int (if v = 0 then 0 else 1)] (c_X6_gives (if v = 0 then 0 else 1)) (by decide) rfl rfl (Nat.le_of_ble_eq_true rfl) ⟨(Nat.le_of_ble_eq_true rfl), (Nat.le_of_ble_eq_true rfl)⟩ dX6_both_143 rfl ?_
                  exact r_vret E T dX6_both_146 (eqV.mk (cgM rfl (by unfold fX6_both_V; exact ((if_neg c1).trans ((if_neg c2).trans ((if_neg c3).trans ((if_neg c4).trans ((if_neg c6).trans ((if_neg c8).trans (if_neg c10))))))).symm)))
                · refine r_if_eq E (q := 138) 142 dX6_both_135 (by decide) rfl (fun c12 => ?_) (fun c12 => ?_)
                  · refine r_iconst E (q := 143) (v := 0) dX6_both_142 (by decide) rfl ?_
                    exact hj4 _ (if_pos c12).symm
                  · refine r_iconst E (q := 139) (v := 1) dX6_both_138 (by decide) rfl ?_
                    refine r_goto E 143 dX6_both_139 (by decide) ?_
                    exact hj4 _ (if_neg c12).symm
def fX6_goesOn_G (G : Nat → Nat → Int32) (V : Nat → Int32) (at9 : Int32) : Nat → Nat → Int32 := if G 4 (ix (G 17 (ix ((V 3) - 1)))) = 0 then G else (if G 4 (ix (G 17 (ix ((V 3) - 1)))) = 1 then G else (if G 18 (ix ((V 3) - 1)) = 0 then (fX6_asks_G G V (G 5 (ix (G 17 (ix ((V 3) - 1)))))) else (if fX6_hasTwo (G 4 (ix (G 17 (ix ((V 3) - 1))))) = 0 then G else (if G 18 (ix ((V 3) - 1)) = 1 then (if G 4 (ix (G 17 (ix ((V 3) - 1)))) = 9 then (if V 4 = 0 then (ug G 19 (ix ((V 3) - 1)) (V 4)) else (if G 4 (ix (G 17 (ix ((V 3) - 1)))) = 10 then (if V 4 = 0 then (fX6_asks_G (ug G 19 (ix ((V 3) - 1)) (V 4)) V ((ug G 19 (ix ((V 3) - 1)) (V 4)) 6 (ix (G 17 (ix ((V 3) - 1)))))) else (ug G 19 (ix ((V 3) - 1)) (V 4))) else (fX6_asks_G (ug G 19 (ix ((V 3) - 1)) (V 4)) V ((ug G 19 (ix ((V 3) - 1)) (V 4)) 6 (ix (G 17 (ix ((V 3) - 1)))))))) else (if G 4 (ix (G 17 (ix ((V 3) - 1)))) = 10 then (if V 4 = 0 then (fX6_asks_G (ug G 19 (ix ((V 3) - 1)) (V 4)) V ((ug G 19 (ix ((V 3) - 1)) (V 4)) 6 (ix (G 17 (ix ((V 3) - 1)))))) else (ug G 19 (ix ((V 3) - 1)) (V 4))) else (fX6_asks_G (ug G 19 (ix ((V 3) - 1)) (V 4)) V ((ug G 19 (ix ((V 3) - 1)) (V 4)) 6 (ix (G 17 (ix ((V 3) - 1)))))))) else G))))
def fX6_goesOn_V (G : Nat → Nat → Int32) (V : Nat → Int32) (at9 : Int32) : Nat → Int32 := if G 4 (ix (G 17 (ix ((V 3) - 1)))) = 0 then (fX6_gives_V V (G 20 (ix (at9 + (G 5 (ix (G 17 (ix ((V 3) - 1))))))))) else (if G 4 (ix (G 17 (ix ((V 3) - 1)))) = 1 then (fX6_gives_V V (G 5 (ix (G 17 (ix ((V 3) - 1)))))) else (if G 18 (ix ((V 3) - 1)) = 0 then (fX6_asks_V G V (G 5 (ix (G 17 (ix ((V 3) - 1)))))) else (if fX6_hasTwo (G 4 (ix (G 17 (ix ((V 3) - 1))))) = 0 then (fX6_single_V G V (G 4 (ix (G 17 (ix ((V 3) - 1)))))) else (if G 18 (ix ((V 3) - 1)) = 1 then (if G 4 (ix (G 17 (ix ((V 3) - 1)))) = 9 then (if V 4 = 0 then (fX6_gives_V V (if G 4 (ix (G 17 (ix ((V 3) - 1)))) = 9 then 0 else 1)) else (if G 4 (ix (G 17 (ix ((V 3) - 1)))) = 10 then (if V 4 = 0 then (fX6_asks_V (ug G 19 (ix ((V 3) - 1)) (V 4)) V ((ug G 19 (ix ((V 3) - 1)) (V 4)) 6 (ix (G 17 (ix ((V 3) - 1)))))) else (fX6_gives_V V (if G 4 (ix (G 17 (ix ((V 3) - 1)))) = 9 then 0 else 1))) else (fX6_asks_V (ug G 19 (ix ((V 3) - 1)) (V 4)) V ((ug G 19 (ix ((V 3) - 1)) (V 4)) 6 (ix (G 17 (ix ((V 3) - 1)))))))) else (if G 4 (ix (G 17 (ix ((V 3) - 1)))) = 10 then (if V 4 = 0 then (fX6_asks_V (ug G 19 (ix ((V 3) - 1)) (V 4)) V ((ug G 19 (ix ((V 3) - 1)) (V 4)) 6 (ix (G 17 (ix ((V 3) - 1)))))) else (fX6_gives_V V (if G 4 (ix (G 17 (ix ((V 3) - 1)))) = 9 then 0 else 1))) else (fX6_asks_V (ug G 19 (ix ((V 3) - 1)) (V 4)) V ((ug G 19 (ix ((V 3) - 1)) (V 4)) 6 (ix (G 17 (ix ((V 3) - 1)))))))) else (fX6_both_V V (G 4 (ix (G 17 (ix ((V 3) - 1))))) (G 19 (ix ((V 3) - 1))) (V 4))))))
set_option maxRecDepth 100000 in
set_option maxHeartbeats 800000 in
theorem c_X6_goesOn {l : Launch} {k : Kt} {ad : Nat → Nat} {G : Nat → Nat → Int32} {V : Nat → Int32} (at9 : Int32) (ht : vp_in (V 3 - 1) 40) (hf : vp_in (G 17 (ix (V 3 - 1))) 40) (hc : G 4 (ix (G 17 (ix (V 3 - 1)))) = 0 → vp_in (at9 + G 5 (ix (G 17 (ix (V 3 - 1))))) 36000) (hh : ¬ G 4 (ix (G 17 (ix (V 3 - 1)))) = 0 → ¬ G 4 (ix (G 17 (ix (V 3 - 1)))) = 1 → vp_in (V 3) 40) : CT l k yX6_goesOn cX6_goesOn 5 none 2 [.ref (ad 0), .int at9] (WM k ad G V) (eqV (WM k ad (fX6_goesOn_G G V at9) (fX6_goesOn_V G V at9))) 0 0 := by
  refine ct_of (own := RX6) (lv0 := [(0, .ref (ad 0)), (1, .int at9)]) (by decide) rfl (Nat.le_of_ble_eq_true rfl) rfl ?_
  rintro z rfl rfl hz - E T
  refine r_aload_n E (q := 1) 0 dX6_goesOn_0 rfl rfl rfl ?_
  refine r_get E (q := 4) fX6_164 0 wm_0 rfl dX6_goesOn_1 rfl ?_
  refine r_iconst E (q := 5) (v := 1) dX6_goesOn_4 (by decide) rfl ?_
  refine r_isub E (q := 6) dX6_goesOn_5 rfl ?_
  refine r_istore_n E (q := 7) (lv' := [(0, .ref (ad 0)), (1, .int at9), (2, .int ((V 3) - 1))]) [1, 2, 0] dX6_goesOn_6 rfl (by rw [hz]; decide) rfl rfl ?_
  refine r_aload_n E (q := 8) 0 dX6_goesOn_7 rfl rfl rfl ?_
  refine r_get E (q := 11) fX6_59 0 wm_0 rfl dX6_goesOn_8 rfl ?_
  refine r_iload_n E (q := 12) 2 dX6_goesOn_11 rfl rfl rfl ?_
  refine r_iald E (q := 13) 17 wm_17 (by first | assumption | exact hc (by assumption)) dX6_goesOn_12 rfl ?_
  refine r_istore_n E (q := 14) (lv' := [(0, .ref (ad 0)), (1, .int at9), (2, .int ((V 3) - 1)), (3, .int (G 17 (ix ((V 3) - 1))))]) [1, 2, 3, 0] dX6_goesOn_13 rfl (by rw [hz]; decide) rfl rfl ?_
  refine r_aload_n E (q := 15) 0 dX6_goesOn_14 rfl rfl rfl ?_
  refine r_get E (q := 18) fX6_19 0 wm_0 rfl dX6_goesOn_15 rfl ?_
  refine r_iload_n E (q := 19) 3 dX6_goesOn_18 rfl rfl rfl ?_
  refine r_iald E (q := 20) 4 wm_4 (by first | assumption | exact hc (by assumption)) dX6_goesOn_19 rfl ?_
  refine r_istore E (q := 22) (lv' := [(0, .ref (ad 0)), (1, .int at9), (2, .int ((V 3) - 1)), (3, .int (G 17 (ix ((V 3) - 1)))), (4, .int (G 4 (ix (G 17 (ix ((V 3) - 1))))))]) [1, 2, 3, 4, 0] dX6_goesOn_20 (by rw [hz]; decide) rfl rfl ?_
  refine r_iload E (q := 24) 4 dX6_goesOn_22 rfl rfl ?_
  refine r_if_ne E (q := 27) 47 dX6_goesOn_24 (by decide) rfl (fun c1 => ?_) (fun c1 => ?_)
  · refine r_iload E (q := 49) 4 dX6_goesOn_47 rfl rfl ?_
    refine r_iconst E (q := 50) (v := 1) dX6_goesOn_49 (by decide) rfl ?_
    refine r_icmp_ne E (q := 53) 66 dX6_goesOn_50 (by decide) rfl (fun c2 => ?_) (fun c2 => ?_)
    · refine r_aload_n E (q := 67) 0 dX6_goesOn_66 rfl rfl rfl ?_
      refine r_get E (q := 70) fX6_62 0 wm_0 rfl dX6_goesOn_67 rfl ?_
      refine r_iload_n E (q := 71) 2 dX6_goesOn_70 rfl rfl rfl ?_
      refine r_iald E (q := 72) 18 wm_18 (by first | assumption | exact hc (by assumption)) dX6_goesOn_71 rfl ?_
      refine r_if_ne E (q := 75) 88 dX6_goesOn_72 (by decide) rfl (fun c3 => ?_) (fun c3 => ?_)
      · refine r_iload E (q := 90) 4 dX6_goesOn_88 rfl rfl ?_
        refine rSi E (q := 93) csX6_103 T.rr [.int (G 4 (ix (G 17 (ix ((V 3) - 1)))))] (c_X6_hasTwo (G 4 (ix (G 17 (ix ((V 3) - 1)))))) (by decide) rfl rfl (Nat.le_of_ble_eq_true rfl) ⟨(Nat.le_of_ble_eq_true rfl), (Nat.le_of_ble_eq_true rfl)⟩ dX6_goesOn_90 rfl ?_
        refine r_if_ne E (q := 96) 105 dX6_goesOn_93 (by decide) rfl (fun c4 => ?_) (fun c4 => ?_)
        · refine r_aload_n E (q := 106) 0 dX6_goesOn_105 rfl rfl rfl ?_
          refine r_get E (q := 109) fX6_62 0 wm_0 rfl dX6_goesOn_106 rfl ?_
          refine r_iload_n E (q := 110) 2 dX6_goesOn_109 rfl rfl rfl ?_
          refine r_iald E (q := 111) 18 wm_18 (by first | assumption | exact hc (by assumption)) dX6_goesOn_110 rfl ?_
          refine r_iconst E (q := 112) (v := 1) dX6_goesOn_111 (by decide) rfl ?_
          refine r_icmp_ne E (q := 115) 185 dX6_goesOn_112 (by decide) rfl (fun c5 => ?_) (fun c5 => ?_)
          · refine r_aload_n E (q := 186) 0 dX6_goesOn_185 rfl rfl rfl ?_
            refine r_iload E (q := 188) 4 dX6_goesOn_186 rfl rfl ?_
            refine r_aload_n E (q := 189) 0 dX6_goesOn_188 rfl rfl rfl ?_
            refine r_get E (q := 192) fX6_65 0 wm_0 rfl dX6_goesOn_189 rfl ?_
            refine r_iload_n E (q := 193) 2 dX6_goesOn_192 rfl rfl rfl ?_
            refine r_iald E (q := 194) 19 wm_19 (by first | assumption | exact hc (by assumption)) dX6_goesOn_193 rfl ?_
            refine r_aload_n E (q := 195) 0 dX6_goesOn_194 rfl rfl rfl ?_
            refine r_get E (q := 198) fX6_174 0 wm_0 rfl dX6_goesOn_195 rfl ?_
            refine rVv E (q := 201) cvX6_186 T.rr 0 wm_0 rfl [.int (G 4 (ix (G 17 (ix ((V 3) - 1))))), .int (G 19 (ix ((V 3) - 1))), .int (V 4)] (c_X6_both (G 4 (ix (G 17 (ix ((V 3) - 1))))) (G 19 (ix ((V 3) - 1))) (V 4)) (by decide) rfl rfl (Nat.le_of_ble_eq_true rfl) ⟨(Nat.le_of_ble_eq_true rfl), (Nat.le_of_ble_eq_true rfl)⟩ dX6_goesOn_198 rfl ?_
            exact r_vret E T dX6_goesOn_201 (eqV.mk (cgM (by unfold fX6_goesOn_G; exact ((if_neg c1).trans ((if_neg c2).trans ((if_neg c3).trans ((if_neg c4).trans (if_neg c5))))).symm) (by unfold fX6_goesOn_V; exact ((if_neg c1).trans ((if_neg c2).trans ((if_neg c3).trans ((if_neg c4).trans (if_neg c5))))).symm)))
          · refine r_aload_n E (q := 116) 0 dX6_goesOn_115 rfl rfl rfl ?_
            refine r_get E (q := 119) fX6_65 0 wm_0 rfl dX6_goesOn_116 rfl ?_
            refine r_iload_n E (q := 120) 2 dX6_goesOn_119 rfl rfl rfl ?_
            refine r_aload_n E (q := 121) 0 dX6_goesOn_120 rfl rfl rfl ?_
            refine r_get E (q := 124) fX6_174 0 wm_0 rfl dX6_goesOn_121 rfl ?_
            refine r_iast E (q := 125) 19 wm_19 (by first | assumption | exact hc (by assumption)) wmu_19 dX6_goesOn_124 rfl ?_
            refine r_iload E (q := 127) 4 dX6_goesOn_125 rfl rfl ?_
            refine r_bipush E (q := 129) (v := 9) dX6_goesOn_127 (by decide) rfl ?_
            refine r_icmp_ne E (q := 132) 139 dX6_goesOn_129 (by decide) rfl (fun c6 => ?_) (fun c6 => ?_)
            · refine r_iload E (q := 141) 4 dX6_goesOn_139 rfl rfl ?_
              refine r_bipush E (q := 143) (v := 10) dX6_goesOn_141 (by decide) rfl ?_
              refine r_icmp_ne E (q := 146) 172 dX6_goesOn_143 (by decide) rfl (fun c7 => ?_) (fun c7 => ?_)
              · refine r_aload_n E (q := 173) 0 dX6_goesOn_172 rfl rfl rfl ?_
                refine r_aload_n E (q := 174) 0 dX6_goesOn_173 rfl rfl rfl ?_
                refine r_get E (q := 177) fX6_25 0 wm_0 rfl dX6_goesOn_174 rfl ?_
                refine r_iload_n E (q := 178) 3 dX6_goesOn_177 rfl rfl rfl ?_
                refine r_iald E (q := 179) 6 wm_6 (by first | assumption | exact hc (by assumption)) dX6_goesOn_178 rfl ?_
                refine rVv E (q := 182) cvX6_180 T.rr 0 wm_0 rfl [.int ((ug G 19 (ix ((V 3) - 1)) (V 4)) 6 (ix (G 17 (ix ((V 3) - 1)))))] (c_X6_asks ((ug G 19 (ix ((V 3) - 1)) (V 4)) 6 (ix (G 17 (ix ((V 3) - 1))))) (by first | exact ht | exact hh (by assumption) (by assumption)) (by first | exact ht | exact hh (by assumption) (by assumption))) (by decide) rfl rfl (Nat.le_of_ble_eq_true rfl) ⟨(Nat.le_of_ble_eq_true rfl), (Nat.le_of_ble_eq_true rfl)⟩ dX6_goesOn_179 rfl ?_
                refine r_goto E 201 dX6_goesOn_182 (by decide) ?_
                exact r_vret E T dX6_goesOn_201 (eqV.mk (cgM (by unfold fX6_goesOn_G; exact ((if_neg c1).trans ((if_neg c2).trans ((if_neg c3).trans ((if_neg c4).trans ((if_pos c5).trans ((if_neg c6).trans (if_neg c7))))))).symm) (by unfold fX6_goesOn_V; exact ((if_neg c1).trans ((if_neg c2).trans ((if_neg c3).trans ((if_neg c4).trans ((if_pos c5).trans ((if_neg c6).trans (if_neg c7))))))).symm)))
              · refine r_aload_n E (q := 147) 0 dX6_goesOn_146 rfl rfl rfl ?_
                refine r_get E (q := 150) fX6_174 0 wm_0 rfl dX6_goesOn_147 rfl ?_
                refine r_if_eq E (q := 153) 172 dX6_goesOn_150 (by decide) rfl (fun c8 => ?_) (fun c8 => ?_)
                · refine r_aload_n E (q := 173) 0 dX6_goesOn_172 rfl rfl rfl ?_
                  refine r_aload_n E (q := 174) 0 dX6_goesOn_173 rfl rfl rfl ?_
                  refine r_get E (q := 177) fX6_25 0 wm_0 rfl dX6_goesOn_174 rfl ?_
                  refine r_iload_n E (q := 178) 3 dX6_goesOn_177 rfl rfl rfl ?_
                  refine r_iald E (q := 179) 6 wm_6 (by first | assumption | exact hc (by assumption)) dX6_goesOn_178 rfl ?_
                  refine rVv E (q := 182) cvX6_180 T.rr 0 wm_0 rfl [.int ((ug G 19 (ix ((V 3) - 1)) (V 4)) 6 (ix (G 17 (ix ((V 3) - 1)))))] (c_X6_asks ((ug G 19 (ix ((V 3) - 1)) (V 4)) 6 (ix (G 17 (ix ((V 3) - 1))))) (by first | exact ht | exact hh (by assumption) (by assumption)) (by first | exact ht | exact hh (by assumption) (by assumption))) (by decide) rfl rfl (Nat.le_of_ble_eq_true rfl) ⟨(Nat.le_of_ble_eq_true rfl), (Nat.le_of_ble_eq_true rfl)⟩ dX6_goesOn_179 rfl ?_
                  refine r_goto E 201 dX6_goesOn_182 (by decide) ?_
                  exact r_vret E T dX6_goesOn_201 (eqV.mk (cgM (by unfold fX6_goesOn_G; exact ((if_neg c1).trans ((if_neg c2).trans ((if_neg c3).trans ((if_neg c4).trans ((if_pos c5).trans ((if_neg c6).trans ((if_pos c7).trans (if_pos c8)))))))).symm) (by unfold fX6_goesOn_V; exact ((if_neg c1).trans ((if_neg c2).trans ((if_neg c3).trans ((if_neg c4).trans ((if_pos c5).trans ((if_neg c6).trans ((if_pos c7).trans (if_pos c8)))))))).symm)))
                · refine r_aload_n E (q := 154) 0 dX6_goesOn_153 rfl rfl rfl ?_
                  refine r_iload E (q := 156) 4 dX6_goesOn_154 rfl rfl ?_
                  refine r_bipush E (q := 158) (v := 9) dX6_goesOn_156 (by decide) rfl ?_
                  refine r_join 166 (if G 4 (ix (G 17 (ix ((V 3) - 1)))) = 9 then 0 else 1) (rest := [.ref (ad 0)]) ?_ (fun hj1 => ?_)
                  · refine rVv E (q := 169) cvX6_177 T.rr 0 wm_0 rfl [.int (if G 4 (ix (G 17 (ix ((V 3) - 1)))) = 9 then 0 else 1)] (c_X6_gives (if G 4 (ix (G 17 (ix ((V 3) - 1)))) = 9 then 0 else 1)) (by decide) rfl rfl (Nat.le_of_ble_eq_true rfl) ⟨(Nat.le_of_ble_eq_true rfl), (Nat.le_of_ble_eq_true rfl)⟩ dX6_goesOn_166 rfl ?_
                    refine r_goto E 201 dX6_goesOn_169 (by decide) ?_
                    exact r_vret E T dX6_goesOn_201 (eqV.mk (cgM (by unfold fX6_goesOn_G; exact ((if_neg c1).trans ((if_neg c2).trans ((if_neg c3).trans ((if_neg c4).trans ((if_pos c5).trans ((if_neg c6).trans ((if_pos c7).trans (if_neg c8)))))))).symm) (by unfold fX6_goesOn_V; exact ((if_neg c1).trans ((if_neg c2).trans ((if_neg c3).trans ((if_neg c4).trans ((if_pos c5).trans ((if_neg c6).trans ((if_pos c7).trans (if_neg c8)))))))).symm)))
                  · refine r_icmp_ne E (q := 161) 165 dX6_goesOn_158 (by decide) rfl (fun c9 => ?_) (fun c9 => ?_)
                    · refine r_iconst E (q := 166) (v := 1) dX6_goesOn_165 (by decide) rfl ?_
                      exact hj1 _ (if_neg c9).symm
                    · refine r_iconst E (q := 162) (v := 0) dX6_goesOn_161 (by decide) rfl ?_
                      refine r_goto E 166 dX6_goesOn_162 (by decide) ?_
                      exact hj1 _ (if_pos c9).symm
            · refine r_aload_n E (q := 133) 0 dX6_goesOn_132 rfl rfl rfl ?_
              refine r_get E (q := 136) fX6_174 0 wm_0 rfl dX6_goesOn_133 rfl ?_
              refine r_if_eq E (q := 139) 153 dX6_goesOn_136 (by decide) rfl (fun c10 => ?_) (fun c10 => ?_)
              · refine r_aload_n E (q := 154) 0 dX6_goesOn_153 rfl rfl rfl ?_
                refine r_iload E (q := 156) 4 dX6_goesOn_154 rfl rfl ?_
                refine r_bipush E (q := 158) (v := 9) dX6_goesOn_156 (by decide) rfl ?_
                refine r_join 166 (if G 4 (ix (G 17 (ix ((V 3) - 1)))) = 9 then 0 else 1) (rest := [.ref (ad 0)]) ?_ (fun hj2 => ?_)
                · refine rVv E (q := 169) cvX6_177 T.rr 0 wm_0 rfl [.int (if G 4 (ix (G 17 (ix ((V 3) - 1)))) = 9 then 0 else 1)] (c_X6_gives (if G 4 (ix (G 17 (ix ((V 3) - 1)))) = 9 then 0 else 1)) (by decide) rfl rfl (Nat.le_of_ble_eq_true rfl) ⟨(Nat.le_of_ble_eq_true rfl), (Nat.le_of_ble_eq_true rfl)⟩ dX6_goesOn_166 rfl ?_
                  refine r_goto E 201 dX6_goesOn_169 (by decide) ?_
                  exact r_vret E T dX6_goesOn_201 (eqV.mk (cgM (by unfold fX6_goesOn_G; exact ((if_neg c1).trans ((if_neg c2).trans ((if_neg c3).trans ((if_neg c4).trans ((if_pos c5).trans ((if_pos c6).trans (if_pos c10))))))).symm) (by unfold fX6_goesOn_V; exact ((if_neg c1).trans ((if_neg c2).trans ((if_neg c3).trans ((if_neg c4).trans ((if_pos c5).trans ((if_pos c6).trans (if_pos c10))))))).symm)))
                · refine r_icmp_ne E (q := 161) 165 dX6_goesOn_158 (by decide) rfl (fun c11 => ?_) (fun c11 => ?_)
                  · refine r_iconst E (q := 166) (v := 1) dX6_goesOn_165 (by decide) rfl ?_
                    exact hj2 _ (if_neg c11).symm
                  · refine r_iconst E (q := 162) (v := 0) dX6_goesOn_161 (by decide) rfl ?_
                    refine r_goto E 166 dX6_goesOn_162 (by decide) ?_
                    exact hj2 _ (if_pos c11).symm
              · refine r_iload E (q := 141) 4 dX6_goesOn_139 rfl rfl ?_
                refine r_bipush E (q := 143) (v := 10) dX6_goesOn_141 (by decide) rfl ?_
                refine r_icmp_ne E (q := 146) 172 dX6_goesOn_143 (by decide) rfl (fun c12 => ?_) (fun c12 => ?_)
                · refine r_aload_n E (q := 173) 0 dX6_goesOn_172 rfl rfl rfl ?_
                  refine r_aload_n E (q := 174) 0 dX6_goesOn_173 rfl rfl rfl ?_
                  refine r_get E (q := 177) fX6_25 0 wm_0 rfl dX6_goesOn_174 rfl ?_
                  refine r_iload_n E (q := 178) 3 dX6_goesOn_177 rfl rfl rfl ?_
                  refine r_iald E (q := 179) 6 wm_6 (by first | assumption | exact hc (by assumption)) dX6_goesOn_178 rfl ?_
                  refine rVv E (q := 182) cvX6_180 T.rr 0 wm_0 rfl [.int ((ug G 19 (ix ((V 3) - 1)) (V 4)) 6 (ix (G 17 (ix ((V 3) - 1)))))] (c_X6_asks ((ug G 19 (ix ((V 3) - 1)) (V 4)) 6 (ix (G 17 (ix ((V 3) - 1))))) (by first | exact ht | exact hh (by assumption) (by assumption)) (by first | exact ht | exact hh (by assumption) (by assumption))) (by decide) rfl rfl (Nat.le_of_ble_eq_true rfl) ⟨(Nat.le_of_ble_eq_true rfl), (Nat.le_of_ble_eq_true rfl)⟩ dX6_goesOn_179 rfl ?_
                  refine r_goto E 201 dX6_goesOn_182 (by decide) ?_
                  exact r_vret E T dX6_goesOn_201 (eqV.mk (cgM (by unfold fX6_goesOn_G; exact ((if_neg c1).trans ((if_neg c2).trans ((if_neg c3).trans ((if_neg c4).trans ((if_pos c5).trans ((if_pos c6).trans ((if_neg c10).trans (if_neg c12)))))))).symm) (by unfold fX6_goesOn_V; exact ((if_neg c1).trans ((if_neg c2).trans ((if_neg c3).trans ((if_neg c4).trans ((if_pos c5).trans ((if_pos c6).trans ((if_neg c10).trans (if_neg c12)))))))).symm)))
                · refine r_aload_n E (q := 147) 0 dX6_goesOn_146 rfl rfl rfl ?_
                  refine r_get E (q := 150) fX6_174 0 wm_0 rfl dX6_goesOn_147 rfl ?_
                  refine r_if_eq E (q := 153) 172 dX6_goesOn_150 (by decide) rfl (fun c13 => ?_) (fun c13 => ?_)
                  · refine r_aload_n E (q := 173) 0 dX6_goesOn_172 rfl rfl rfl ?_
                    refine r_aload_n E (q := 174) 0 dX6_goesOn_173 rfl rfl rfl ?_
                    refine r_get E (q := 177) fX6_25 0 wm_0 rfl dX6_goesOn_174 rfl ?_
                    refine r_iload_n E (q := 178) 3 dX6_goesOn_177 rfl rfl rfl ?_
                    refine r_iald E (q := 179) 6 wm_6 (by first | assumption | exact hc (by assumption)) dX6_goesOn_178 rfl ?_
                    refine rVv E (q := 182) cvX6_180 T.rr 0 wm_0 rfl [.int ((ug G 19 (ix ((V 3) - 1)) (V 4)) 6 (ix (G 17 (ix ((V 3) - 1)))))] (c_X6_asks ((ug G 19 (ix ((V 3) - 1)) (V 4)) 6 (ix (G 17 (ix ((V 3) - 1))))) (by first | exact ht | exact hh (by assumption) (by assumption)) (by first | exact ht | exact hh (by assumption) (by assumption))) (by decide) rfl rfl (Nat.le_of_ble_eq_true rfl) ⟨(Nat.le_of_ble_eq_true rfl), (Nat.le_of_ble_eq_true rfl)⟩ dX6_goesOn_179 rfl ?_
                    refine r_goto E 201 dX6_goesOn_182 (by decide) ?_
                    exact r_vret E T dX6_goesOn_201 (eqV.mk (cgM (by unfold fX6_goesOn_G; exact ((if_neg c1).trans ((if_neg c2).trans ((if_neg c3).trans ((if_neg c4).trans ((if_pos c5).trans ((if_pos c6).trans ((if_neg c10).trans ((if_pos c12).trans (if_pos c13))))))))).symm) (by unfold fX6_goesOn_V; exact ((if_neg c1).trans ((if_neg c2).trans ((if_neg c3).trans ((if_neg c4).trans ((if_pos c5).trans ((if_pos c6).trans ((if_neg c10).trans ((if_pos c12).trans (if_pos c13))))))))).symm)))
                  · refine r_aload_n E (q := 154) 0 dX6_goesOn_153 rfl rfl rfl ?_
                    refine r_iload E (q := 156) 4 dX6_goesOn_154 rfl rfl ?_
                    refine r_bipush E (q := 158) (v := 9) dX6_goesOn_156 (by decide) rfl ?_
                    refine r_join 166 (if G 4 (ix (G 17 (ix ((V 3) - 1)))) = 9 then 0 else 1) (rest := [.ref (ad 0)]) ?_ (fun hj3 => ?_)
                    · refine rVv E (q := 169) cvX6_177 T.rr 0 wm_0 rfl [.int (if G 4 (ix (G 17 (ix ((V 3) - 1)))) = 9 then 0 else 1)] (c_X6_gives (if G 4 (ix (G 17 (ix ((V 3) - 1)))) = 9 then 0 else 1)) (by decide) rfl rfl (Nat.le_of_ble_eq_true rfl) ⟨(Nat.le_of_ble_eq_true rfl), (Nat.le_of_ble_eq_true rfl)⟩ dX6_goesOn_166 rfl ?_
                      refine r_goto E 201 dX6_goesOn_169 (by decide) ?_
                      exact r_vret E T dX6_goesOn_201 (eqV.mk (cgM (by unfold fX6_goesOn_G; exact ((if_neg c1).trans ((if_neg c2).trans ((if_neg c3).trans ((if_neg c4).trans ((if_pos c5).trans ((if_pos c6).trans ((if_neg c10).trans ((if_pos c12).trans (if_neg c13))))))))).symm) (by unfold fX6_goesOn_V; exact ((if_neg c1).trans ((if_neg c2).trans ((if_neg c3).trans ((if_neg c4).trans ((if_pos c5).trans ((if_pos c6).trans ((if_neg c10).trans ((if_pos c12).trans (if_neg c13))))))))).symm)))
                    · refine r_icmp_ne E (q := 161) 165 dX6_goesOn_158 (by decide) rfl (fun c14 => ?_) (fun c14 => ?_)
                      · refine r_iconst E (q := 166) (v := 1) dX6_goesOn_165 (by decide) rfl ?_
                        exact hj3 _ (if_neg c14).symm
                      · refine r_iconst E (q := 162) (v := 0) dX6_goesOn_161 (by decide) rfl ?_
                        refine r_goto E 166 dX6_goesOn_162 (by decide) ?_
                        exact hj3 _ (if_pos c14).symm
        · refine r_aload_n E (q := 97) 0 dX6_goesOn_96 rfl rfl rfl ?_
          refine r_iload E (q := 99) 4 dX6_goesOn_97 rfl rfl ?_
          refine rVv E (q := 102) cvX6_183 T.rr 0 wm_0 rfl [.int (G 4 (ix (G 17 (ix ((V 3) - 1)))))] (c_X6_single (G 4 (ix (G 17 (ix ((V 3) - 1)))))) (by decide) rfl rfl (Nat.le_of_ble_eq_true rfl) ⟨(Nat.le_of_ble_eq_true rfl), (Nat.le_of_ble_eq_true rfl)⟩ dX6_goesOn_99 rfl ?_
          refine r_goto E 201 dX6_goesOn_102 (by decide) ?_
          exact r_vret E T dX6_goesOn_201 (eqV.mk (cgM (by unfold fX6_goesOn_G; exact ((if_neg c1).trans ((if_neg c2).trans ((if_neg c3).trans (if_pos c4)))).symm) (by unfold fX6_goesOn_V; exact ((if_neg c1).trans ((if_neg c2).trans ((if_neg c3).trans (if_pos c4)))).symm)))
      · refine r_aload_n E (q := 76) 0 dX6_goesOn_75 rfl rfl rfl ?_
        refine r_aload_n E (q := 77) 0 dX6_goesOn_76 rfl rfl rfl ?_
        refine r_get E (q := 80) fX6_22 0 wm_0 rfl dX6_goesOn_77 rfl ?_
        refine r_iload_n E (q := 81) 3 dX6_goesOn_80 rfl rfl rfl ?_
        refine r_iald E (q := 82) 5 wm_5 (by first | assumption | exact hc (by assumption)) dX6_goesOn_81 rfl ?_
        refine rVv E (q := 85) cvX6_180 T.rr 0 wm_0 rfl [.int (G 5 (ix (G 17 (ix ((V 3) - 1)))))] (c_X6_asks (G 5 (ix (G 17 (ix ((V 3) - 1))))) (by first | exact ht | exact hh (by assumption) (by assumption)) (by first | exact ht | exact hh (by assumption) (by assumption))) (by decide) rfl rfl (Nat.le_of_ble_eq_true rfl) ⟨(Nat.le_of_ble_eq_true rfl), (Nat.le_of_ble_eq_true rfl)⟩ dX6_goesOn_82 rfl ?_
        refine r_goto E 201 dX6_goesOn_85 (by decide) ?_
        exact r_vret E T dX6_goesOn_201 (eqV.mk (cgM (by unfold fX6_goesOn_G; exact ((if_neg c1).trans ((if_neg c2).trans (if_pos c3))).symm) (by unfold fX6_goesOn_V; exact ((if_neg c1).trans ((if_neg c2).trans (if_pos c3))).symm)))
    · refine r_aload_n E (q := 54) 0 dX6_goesOn_53 rfl rfl rfl ?_
      refine r_aload_n E (q := 55) 0 dX6_goesOn_54 rfl rfl rfl ?_
      refine r_get E (q := 58) fX6_22 0 wm_0 rfl dX6_goesOn_55 rfl ?_
      refine r_iload_n E (q := 59) 3 dX6_goesOn_58 rfl rfl rfl ?_
      refine r_iald E (q := 60) 5 wm_5 (by first | assumption | exact hc (by assumption)) dX6_goesOn_59 rfl ?_
      refine rVv E (q := 63) cvX6_177 T.rr 0 wm_0 rfl [.int (G 5 (ix (G 17 (ix ((V 3) - 1)))))] (c_X6_gives (G 5 (ix (G 17 (ix ((V 3) - 1)))))) (by decide) rfl rfl (Nat.le_of_ble_eq_true rfl) ⟨(Nat.le_of_ble_eq_true rfl), (Nat.le_of_ble_eq_true rfl)⟩ dX6_goesOn_60 rfl ?_
      refine r_goto E 201 dX6_goesOn_63 (by decide) ?_
      exact r_vret E T dX6_goesOn_201 (eqV.mk (cgM (by unfold fX6_goesOn_G; exact ((if_neg c1).trans (if_pos c2)).symm) (by unfold fX6_goesOn_V; exact ((if_neg c1).trans (if_pos c2)).symm)))
  · refine r_aload_n E (q := 28) 0 dX6_goesOn_27 rfl rfl rfl ?_
    refine r_aload_n E (q := 29) 0 dX6_goesOn_28 rfl rfl rfl ?_
    refine r_get E (q := 32) fX6_69 0 wm_0 rfl dX6_goesOn_29 rfl ?_
    refine r_iload_n E (q := 33) 1 dX6_goesOn_32 rfl rfl rfl ?_
    refine r_aload_n E (q := 34) 0 dX6_goesOn_33 rfl rfl rfl ?_
    refine r_get E (q := 37) fX6_22 0 wm_0 rfl dX6_goesOn_34 rfl ?_
    refine r_iload_n E (q := 38) 3 dX6_goesOn_37 rfl rfl rfl ?_
    refine r_iald E (q := 39) 5 wm_5 (by first | assumption | exact hc (by assumption)) dX6_goesOn_38 rfl ?_
    refine r_iadd E (q := 40) dX6_goesOn_39 rfl ?_
    refine r_iald E (q := 41) 20 wm_20 (by first | assumption | exact hc (by assumption)) dX6_goesOn_40 rfl ?_
    refine rVv E (q := 44) cvX6_177 T.rr 0 wm_0 rfl [.int (G 20 (ix (at9 + (G 5 (ix (G 17 (ix ((V 3) - 1))))))))] (c_X6_gives (G 20 (ix (at9 + (G 5 (ix (G 17 (ix ((V 3) - 1))))))))) (by decide) rfl rfl (Nat.le_of_ble_eq_true rfl) ⟨(Nat.le_of_ble_eq_true rfl), (Nat.le_of_ble_eq_true rfl)⟩ dX6_goesOn_41 rfl ?_
    refine r_goto E 201 dX6_goesOn_44 (by decide) ?_
    exact r_vret E T dX6_goesOn_201 (eqV.mk (cgM (by unfold fX6_goesOn_G; exact (if_pos c1).symm) (by unfold fX6_goesOn_V; exact (if_pos c1).symm)))
def fX6_formula (G : Nat → Nat → Int32) (V : Nat → Int32) (x : Int32) (a : Int32) (b : Int32) : Int32 := if fX6_in x.toInt64 0 11 = 0 then (-1) else (if x = 0 then (if fX6_in a.toInt64 0 5 = 0 then (-1) else (if fX6_hasOne x = 0 then (if fX6_hasTwo x = 0 then (if V 0 = 40 then (-2) else (if fX6_sizeOf G x a b ≤ 30 then (fX6_tell G V x a b) else (-2))) else (if fX6_isFormula V b = 0 then (-1) else (if V 0 = 40 then (-2) else (if fX6_sizeOf G x a b ≤ 30 then (fX6_tell G V x a b) else (-2))))) else (if fX6_isFormula V a = 0 then (-1) else (if fX6_hasTwo x = 0 then (if V 0 = 40 then (-2) else (if fX6_sizeOf G x a b ≤ 30 then (fX6_tell G V x a b) else (-2))) else (if fX6_isFormula V b = 0 then (-1) else (if V 0 = 40 then (-2) else (if fX6_sizeOf G x a b ≤ 30 then (fX6_tell G V x a b) else (-2)))))))) else (if fX6_hasOne x = 0 then (if fX6_hasTwo x = 0 then (if V 0 = 40 then (-2) else (if fX6_sizeOf G x a b ≤ 30 then (fX6_tell G V x a b) else (-2))) else (if fX6_isFormula V b = 0 then (-1) else (if V 0 = 40 then (-2) else (if fX6_sizeOf G x a b ≤ 30 then (fX6_tell G V x a b) else (-2))))) else (if fX6_isFormula V a = 0 then (-1) else (if fX6_hasTwo x = 0 then (if V 0 = 40 then (-2) else (if fX6_sizeOf G x a b ≤ 30 then (fX6_tell G V x a b) else (-2))) else (if fX6_isFormula V b = 0 then (-1) else (if V 0 = 40 then (-2) else (if fX6_sizeOf G x a b ≤ 30 then (fX6_tell G V x a b) else (-2))))))))
def fX6_formula_G (G : Nat → Nat → Int32) (V : Nat → Int32) (x : Int32) (a : Int32) (b : Int32) : Nat → Nat → Int32 := if fX6_in x.toInt64 0 11 = 0 then G else (if x = 0 then (if fX6_in a.toInt64 0 5 = 0 then G else (if fX6_hasOne x = 0 then (if fX6_hasTwo x = 0 then (if V 0 = 40 then G else (if fX6_sizeOf G x a b ≤ 30 then (fX6_tell_G G V x a b) else G)) else (if fX6_isFormula V b = 0 then G else (if V 0 = 40 then G else (if fX6_sizeOf G x a b ≤ 30 then (fX6_tell_G G V x a b) else G)))) else (if fX6_isFormula V a = 0 then G else (if fX6_hasTwo x = 0 then (if V 0 = 40 then G else (if fX6_sizeOf G x a b ≤ 30 then (fX6_tell_G G V x a b) else G)) else (if fX6_isFormula V b = 0 then G else (if V 0 = 40 then G else (if fX6_sizeOf G x a b ≤ 30 then (fX6_tell_G G V x a b) else G))))))) else (if fX6_hasOne x = 0 then (if fX6_hasTwo x = 0 then (if V 0 = 40 then G else (if fX6_sizeOf G x a b ≤ 30 then (fX6_tell_G G V x a b) else G)) else (if fX6_isFormula V b = 0 then G else (if V 0 = 40 then G else (if fX6_sizeOf G x a b ≤ 30 then (fX6_tell_G G V x a b) else G)))) else (if fX6_isFormula V a = 0 then G else (if fX6_hasTwo x = 0 then (if V 0 = 40 then G else (if fX6_sizeOf G x a b ≤ 30 then (fX6_tell_G G V x a b) else G)) else (if fX6_isFormula V b = 0 then G else (if V 0 = 40 then G else (if fX6_sizeOf G x a b ≤ 30 then (fX6_tell_G G V x a b) else G)))))))
def fX6_formula_V (G : Nat → Nat → Int32) (V : Nat → Int32) (x : Int32) (a : Int32) (b : Int32) : Nat → Int32 := if fX6_in x.toInt64 0 11 = 0 then V else (if x = 0 then (if fX6_in a.toInt64 0 5 = 0 then V else (if fX6_hasOne x = 0 then (if fX6_hasTwo x = 0 then (if V 0 = 40 then V else (if fX6_sizeOf G x a b ≤ 30 then (fX6_tell_V G V x a b) else V)) else (if fX6_isFormula V b = 0 then V else (if V 0 = 40 then V else (if fX6_sizeOf G x a b ≤ 30 then (fX6_tell_V G V x a b) else V)))) else (if fX6_isFormula V a = 0 then V else (if fX6_hasTwo x = 0 then (if V 0 = 40 then V else (if fX6_sizeOf G x a b ≤ 30 then (fX6_tell_V G V x a b) else V)) else (if fX6_isFormula V b = 0 then V else (if V 0 = 40 then V else (if fX6_sizeOf G x a b ≤ 30 then (fX6_tell_V G V x a b) else V))))))) else (if fX6_hasOne x = 0 then (if fX6_hasTwo x = 0 then (if V 0 = 40 then V else (if fX6_sizeOf G x a b ≤ 30 then (fX6_tell_V G V x a b) else V)) else (if fX6_isFormula V b = 0 then V else (if V 0 = 40 then V else (if fX6_sizeOf G x a b ≤ 30 then (fX6_tell_V G V x a b) else V)))) else (if fX6_isFormula V a = 0 then V else (if fX6_hasTwo x = 0 then (if V 0 = 40 then V else (if fX6_sizeOf G x a b ≤ 30 then (fX6_tell_V G V x a b) else V)) else (if fX6_isFormula V b = 0 then V else (if V 0 = 40 then V else (if fX6_sizeOf G x a b ≤ 30 then (fX6_tell_V G V x a b) else V)))))))
set_option maxRecDepth 100000 in
set_option maxHeartbeats 800000 in
theorem c_X6_formula {l : Launch} {k : Kt} {ad : Nat → Nat} {G : Nat → Nat → Int32} {V : Nat → Int32} (x : Int32) (a : Int32) (b : Int32) (h0 : ∃ j : Nat, j ≤ 40 ∧ V 0 = nI j) : CT l k yX6_formula cX6_formula 4 (some .int) 3 [.ref (ad 0), .int x, .int a, .int b] (WM k ad G V) (eqI (fX6_formula G V x a b) (WM k ad (fX6_formula_G G V x a b) (fX6_formula_V G V x a b))) 0 0 := by
  refine ct_of (own := RX6) (lv0 := [(0, .ref (ad 0)), (1, .int x), (2, .int a), (3, .int b)]) (by decide) rfl (Nat.le_of_ble_eq_true rfl) rfl ?_
  rintro z rfl rfl hz - E T
  refine r_iload_n E (q := 1) 1 dX6_formula_0 rfl rfl rfl ?_
  refine r_i2l E (q := 2) dX6_formula_1 rfl ?_
  refine r_lconst E (q := 3) (v := 0) dX6_formula_2 (by decide) rfl ?_
  refine r_ldc2 E (q := 6) kX6_110 dX6_formula_3 rfl ?_
  refine rSi E (q := 9) csX6_90 T.rr [.long x.toInt64, .long 0, .long 11] (c_X6_in x.toInt64 0 11) (by decide) rfl rfl (Nat.le_of_ble_eq_true rfl) ⟨(Nat.le_of_ble_eq_true rfl), (Nat.le_of_ble_eq_true rfl)⟩ dX6_formula_6 rfl ?_
  refine r_if_eq E (q := 12) 58 dX6_formula_9 (by decide) rfl (fun c1 => ?_) (fun c1 => ?_)
  · refine r_iconst E (q := 59) (v := (-1)) dX6_formula_58 (by decide) rfl ?_
    exact r_iret E T dX6_formula_59 (eqI.mk (by unfold fX6_formula; exact (if_pos c1).symm) (cgM (by unfold fX6_formula_G; exact (if_pos c1).symm) (by unfold fX6_formula_V; exact (if_pos c1).symm)))
  · refine r_iload_n E (q := 13) 1 dX6_formula_12 rfl rfl rfl ?_
    refine r_if_ne E (q := 16) 28 dX6_formula_13 (by decide) rfl (fun c2 => ?_) (fun c2 => ?_)
    · refine r_iload_n E (q := 29) 1 dX6_formula_28 rfl rfl rfl ?_
      refine rSi E (q := 32) csX6_99 T.rr [.int x] (c_X6_hasOne x) (by decide) rfl rfl (Nat.le_of_ble_eq_true rfl) ⟨(Nat.le_of_ble_eq_true rfl), (Nat.le_of_ble_eq_true rfl)⟩ dX6_formula_29 rfl ?_
      refine r_if_eq E (q := 35) 43 dX6_formula_32 (by decide) rfl (fun c3 => ?_) (fun c3 => ?_)
      · refine r_iload_n E (q := 44) 1 dX6_formula_43 rfl rfl rfl ?_
        refine rSi E (q := 47) csX6_103 T.rr [.int x] (c_X6_hasTwo x) (by decide) rfl rfl (Nat.le_of_ble_eq_true rfl) ⟨(Nat.le_of_ble_eq_true rfl), (Nat.le_of_ble_eq_true rfl)⟩ dX6_formula_44 rfl ?_
        refine r_if_eq E (q := 50) 60 dX6_formula_47 (by decide) rfl (fun c4 => ?_) (fun c4 => ?_)
        · refine r_aload_n E (q := 61) 0 dX6_formula_60 rfl rfl rfl ?_
          refine r_get E (q := 64) fX6_96 0 wm_0 rfl dX6_formula_61 rfl ?_
          refine r_bipush E (q := 66) (v := 40) dX6_formula_64 (by decide) rfl ?_
          refine r_icmp_eq E (q := 69) 81 dX6_formula_66 (by decide) rfl (fun c5 => ?_) (fun c5 => ?_)
          · refine r_bipush E (q := 83) (v := (-2)) dX6_formula_81 (by decide) rfl ?_
            exact r_iret E T dX6_formula_83 (eqI.mk (by unfold fX6_formula; exact ((if_neg c1).trans ((if_neg c2).trans ((if_pos c3).trans ((if_pos c4).trans (if_pos c5))))).symm) (cgM (by unfold fX6_formula_G; exact ((if_neg c1).trans ((if_neg c2).trans ((if_pos c3).trans ((if_pos c4).trans (if_pos c5))))).symm) (by unfold fX6_formula_V; exact ((if_neg c1).trans ((if_neg c2).trans ((if_pos c3).trans ((if_pos c4).trans (if_pos c5))))).symm)))
          · refine r_aload_n E (q := 70) 0 dX6_formula_69 rfl rfl rfl ?_
            refine r_iload_n E (q := 71) 1 dX6_formula_70 rfl rfl rfl ?_
            refine r_iload_n E (q := 72) 2 dX6_formula_71 rfl rfl rfl ?_
            refine r_iload_n E (q := 73) 3 dX6_formula_72 rfl rfl rfl ?_
            refine rVi E (q := 76) cvX6_106 T.rr 0 wm_0 rfl [.int x, .int a, .int b] (c_X6_sizeOf x a b (by first | (intro h; exact absurd (by assumption) h) | (intro _; exact isF_of h0 (by assumption))) (by first | (intro h; exact absurd (by assumption) h) | (intro _; exact isF_of h0 (by assumption)))) (by decide) rfl rfl (Nat.le_of_ble_eq_true rfl) ⟨(Nat.le_of_ble_eq_true rfl), (Nat.le_of_ble_eq_true rfl)⟩ dX6_formula_73 rfl ?_
            refine r_bipush E (q := 78) (v := 30) dX6_formula_76 (by decide) rfl ?_
            refine r_icmp_le E (q := 81) 84 dX6_formula_78 (by decide) rfl (fun c6 => ?_) (fun c6 => ?_)
            · refine r_aload_n E (q := 85) 0 dX6_formula_84 rfl rfl rfl ?_
              refine r_iload_n E (q := 86) 1 dX6_formula_85 rfl rfl rfl ?_
              refine r_iload_n E (q := 87) 2 dX6_formula_86 rfl rfl rfl ?_
              refine r_iload_n E (q := 88) 3 dX6_formula_87 rfl rfl rfl ?_
              refine rVi E (q := 91) cvX6_117 T.rr 0 wm_0 rfl [.int x, .int a, .int b] (c_X6_tell x a b (by first | (intro h; exact absurd (by assumption) h) | (intro _; exact isF_of h0 (by assumption))) (by first | (intro h; exact absurd (by assumption) h) | (intro _; exact isF_of h0 (by assumption))) (cnt_in (m := 40) h0 (by omega) (by assumption))) (by decide) rfl rfl (Nat.le_of_ble_eq_true rfl) ⟨(Nat.le_of_ble_eq_true rfl), (Nat.le_of_ble_eq_true rfl)⟩ dX6_formula_88 rfl ?_
              exact r_iret E T dX6_formula_91 (eqI.mk (by unfold fX6_formula; exact ((if_neg c1).trans ((if_neg c2).trans ((if_pos c3).trans ((if_pos c4).trans ((if_neg c5).trans (if_pos c6)))))).symm) (cgM (by unfold fX6_formula_G; exact ((if_neg c1).trans ((if_neg c2).trans ((if_pos c3).trans ((if_pos c4).trans ((if_neg c5).trans (if_pos c6)))))).symm) (by unfold fX6_formula_V; exact ((if_neg c1).trans ((if_neg c2).trans ((if_pos c3).trans ((if_pos c4).trans ((if_neg c5).trans (if_pos c6)))))).symm)))
            · refine r_bipush E (q := 83) (v := (-2)) dX6_formula_81 (by decide) rfl ?_
              exact r_iret E T dX6_formula_83 (eqI.mk (by unfold fX6_formula; exact ((if_neg c1).trans ((if_neg c2).trans ((if_pos c3).trans ((if_pos c4).trans ((if_neg c5).trans (if_neg c6)))))).symm) (cgM (by unfold fX6_formula_G; exact ((if_neg c1).trans ((if_neg c2).trans ((if_pos c3).trans ((if_pos c4).trans ((if_neg c5).trans (if_neg c6)))))).symm) (by unfold fX6_formula_V; exact ((if_neg c1).trans ((if_neg c2).trans ((if_pos c3).trans ((if_pos c4).trans ((if_neg c5).trans (if_neg c6)))))).symm)))
        · refine r_aload_n E (q := 51) 0 dX6_formula_50 rfl rfl rfl ?_
          refine r_iload_n E (q := 52) 3 dX6_formula_51 rfl rfl rfl ?_
          refine rVi E (q := 55) cvX6_114 T.rr 0 wm_0 rfl [.int b] (c_X6_isFormula b) (by decide) rfl rfl (Nat.le_of_ble_eq_true rfl) ⟨(Nat.le_of_ble_eq_true rfl), (Nat.le_of_ble_eq_true rfl)⟩ dX6_formula_52 rfl ?_
          refine r_if_ne E (q := 58) 60 dX6_formula_55 (by decide) rfl (fun c7 => ?_) (fun c7 => ?_)
          · refine r_aload_n E (q := 61) 0 dX6_formula_60 rfl rfl rfl ?_
            refine r_get E (q := 64) fX6_96 0 wm_0 rfl dX6_formula_61 rfl ?_
            refine r_bipush E (q := 66) (v := 40) dX6_formula_64 (by decide) rfl ?_
            refine r_icmp_eq E (q := 69) 81 dX6_formula_66 (by decide) rfl (fun c8 => ?_) (fun c8 => ?_)
            · refine r_bipush E (q := 83) (v := (-2)) dX6_formula_81 (by decide) rfl ?_
              exact r_iret E T dX6_formula_83 (eqI.mk (by unfold fX6_formula; exact ((if_neg c1).trans ((if_neg c2).trans ((if_pos c3).trans ((if_neg c4).trans ((if_neg c7).trans (if_pos c8)))))).symm) (cgM (by unfold fX6_formula_G; exact ((if_neg c1).trans ((if_neg c2).trans ((if_pos c3).trans ((if_neg c4).trans ((if_neg c7).trans (if_pos c8)))))).symm) (by unfold fX6_formula_V; exact ((if_neg c1).trans ((if_neg c2).trans ((if_pos c3).trans ((if_neg c4).trans ((if_neg c7).trans (if_pos c8)))))).symm)))
            · refine r_aload_n E (q := 70) 0 dX6_formula_69 rfl rfl rfl ?_
              refine r_iload_n E (q := 71) 1 dX6_formula_70 rfl rfl rfl ?_
              refine r_iload_n E (q := 72) 2 dX6_formula_71 rfl rfl rfl ?_
              refine r_iload_n E (q := 73) 3 dX6_formula_72 rfl rfl rfl ?_
              refine rVi E (q := 76) cvX6_106 T.rr 0 wm_0 rfl [.int x, .int a, .int b] (c_X6_sizeOf x a b (by first | (intro h; exact absurd (by assumption) h) | (intro _; exact isF_of h0 (by assumption))) (by first | (intro h; exact absurd (by assumption) h) | (intro _; exact isF_of h0 (by assumption)))) (by decide) rfl rfl (Nat.le_of_ble_eq_true rfl) ⟨(Nat.le_of_ble_eq_true rfl), (Nat.le_of_ble_eq_true rfl)⟩ dX6_formula_73 rfl ?_
              refine r_bipush E (q := 78) (v := 30) dX6_formula_76 (by decide) rfl ?_
              refine r_icmp_le E (q := 81) 84 dX6_formula_78 (by decide) rfl (fun c9 => ?_) (fun c9 => ?_)
              · refine r_aload_n E (q := 85) 0 dX6_formula_84 rfl rfl rfl ?_
                refine r_iload_n E (q := 86) 1 dX6_formula_85 rfl rfl rfl ?_
                refine r_iload_n E (q := 87) 2 dX6_formula_86 rfl rfl rfl ?_
                refine r_iload_n E (q := 88) 3 dX6_formula_87 rfl rfl rfl ?_
                refine rVi E (q := 91) cvX6_117 T.rr 0 wm_0 rfl [.int x, .int a, .int b] (c_X6_tell x a b (by first | (intro h; exact absurd (by assumption) h) | (intro _; exact isF_of h0 (by assumption))) (by first | (intro h; exact absurd (by assumption) h) | (intro _; exact isF_of h0 (by assumption))) (cnt_in (m := 40) h0 (by omega) (by assumption))) (by decide) rfl rfl (Nat.le_of_ble_eq_true rfl) ⟨(Nat.le_of_ble_eq_true rfl), (Nat.le_of_ble_eq_true rfl)⟩ dX6_formula_88 rfl ?_
                exact r_iret E T dX6_formula_91 (eqI.mk (by unfold fX6_formula; exact ((if_neg c1).trans ((if_neg c2).trans ((if_pos c3).trans ((if_neg c4).trans ((if_neg c7).trans ((if_neg c8).trans (if_pos c9))))))).symm) (cgM (by unfold fX6_formula_G; exact ((if_neg c1).trans ((if_neg c2).trans ((if_pos c3).trans ((if_neg c4).trans ((if_neg c7).trans ((if_neg c8).trans (if_pos c9))))))).symm) (by unfold fX6_formula_V; exact ((if_neg c1).trans ((if_neg c2).trans ((if_pos c3).trans ((if_neg c4).trans ((if_neg c7).trans ((if_neg c8).trans (if_pos c9))))))).symm)))
              · refine r_bipush E (q := 83) (v := (-2)) dX6_formula_81 (by decide) rfl ?_
                exact r_iret E T dX6_formula_83 (eqI.mk (by unfold fX6_formula; exact ((if_neg c1).trans ((if_neg c2).trans ((if_pos c3).trans ((if_neg c4).trans ((if_neg c7).trans ((if_neg c8).trans (if_neg c9))))))).symm) (cgM (by unfold fX6_formula_G; exact ((if_neg c1).trans ((if_neg c2).trans ((if_pos c3).trans ((if_neg c4).trans ((if_neg c7).trans ((if_neg c8).trans (if_neg c9))))))).symm) (by unfold fX6_formula_V; exact ((if_neg c1).trans ((if_neg c2).trans ((if_pos c3).trans ((if_neg c4).trans ((if_neg c7).trans ((if_neg c8).trans (if_neg c9))))))).symm)))
          · refine r_iconst E (q := 59) (v := (-1)) dX6_formula_58 (by decide) rfl ?_
            exact r_iret E T dX6_formula_59 (eqI.mk (by unfold fX6_formula; exact ((if_neg c1).trans ((if_neg c2).trans ((if_pos c3).trans ((if_neg c4).trans (if_pos c7))))).symm) (cgM (by unfold fX6_formula_G; exact ((if_neg c1).trans ((if_neg c2).trans ((if_pos c3).trans ((if_neg c4).trans (if_pos c7))))).symm) (by unfold fX6_formula_V; exact ((if_neg c1).trans ((if_neg c2).trans ((if_pos c3).trans ((if_neg c4).trans (if_pos c7))))).symm)))
      · refine r_aload_n E (q := 36) 0 dX6_formula_35 rfl rfl rfl ?_
        refine r_iload_n E (q := 37) 2 dX6_formula_36 rfl rfl rfl ?_
        refine rVi E (q := 40) cvX6_114 T.rr 0 wm_0 rfl [.int a] (c_X6_isFormula a) (by decide) rfl rfl (Nat.le_of_ble_eq_true rfl) ⟨(Nat.le_of_ble_eq_true rfl), (Nat.le_of_ble_eq_true rfl)⟩ dX6_formula_37 rfl ?_
        refine r_if_eq E (q := 43) 58 dX6_formula_40 (by decide) rfl (fun c10 => ?_) (fun c10 => ?_)
        · refine r_iconst E (q := 59) (v := (-1)) dX6_formula_58 (by decide) rfl ?_
          exact r_iret E T dX6_formula_59 (eqI.mk (by unfold fX6_formula; exact ((if_neg c1).trans ((if_neg c2).trans ((if_neg c3).trans (if_pos c10)))).symm) (cgM (by unfold fX6_formula_G; exact ((if_neg c1).trans ((if_neg c2).trans ((if_neg c3).trans (if_pos c10)))).symm) (by unfold fX6_formula_V; exact ((if_neg c1).trans ((if_neg c2).trans ((if_neg c3).trans (if_pos c10)))).symm)))
        · refine r_iload_n E (q := 44) 1 dX6_formula_43 rfl rfl rfl ?_
          refine rSi E (q := 47) csX6_103 T.rr [.int x] (c_X6_hasTwo x) (by decide) rfl rfl (Nat.le_of_ble_eq_true rfl) ⟨(Nat.le_of_ble_eq_true rfl), (Nat.le_of_ble_eq_true rfl)⟩ dX6_formula_44 rfl ?_
          refine r_if_eq E (q := 50) 60 dX6_formula_47 (by decide) rfl (fun c11 => ?_) (fun c11 => ?_)
          · refine r_aload_n E (q := 61) 0 dX6_formula_60 rfl rfl rfl ?_
            refine r_get E (q := 64) fX6_96 0 wm_0 rfl dX6_formula_61 rfl ?_
            refine r_bipush E (q := 66) (v := 40) dX6_formula_64 (by decide) rfl ?_
            refine r_icmp_eq E (q := 69) 81 dX6_formula_66 (by decide) rfl (fun c12 => ?_) (fun c12 => ?_)
            · refine r_bipush E (q := 83) (v := (-2)) dX6_formula_81 (by decide) rfl ?_
              exact r_iret E T dX6_formula_83 (eqI.mk (by unfold fX6_formula; exact ((if_neg c1).trans ((if_neg c2).trans ((if_neg c3).trans ((if_neg c10).trans ((if_pos c11).trans (if_pos c12)))))).symm) (cgM (by unfold fX6_formula_G; exact ((if_neg c1).trans ((if_neg c2).trans ((if_neg c3).trans ((if_neg c10).trans ((if_pos c11).trans (if_pos c12)))))).symm) (by unfold fX6_formula_V; exact ((if_neg c1).trans ((if_neg c2).trans ((if_neg c3).trans ((if_neg c10).trans ((if_pos c11).trans (if_pos c12)))))).symm)))
            · refine r_aload_n E (q := 70) 0 dX6_formula_69 rfl rfl rfl ?_
              refine r_iload_n E (q := 71) 1 dX6_formula_70 rfl rfl rfl ?_
              refine r_iload_n E (q := 72) 2 dX6_formula_71 rfl rfl rfl ?_
              refine r_iload_n E (q := 73) 3 dX6_formula_72 rfl rfl rfl ?_
              refine rVi E (q := 76) cvX6_106 T.rr 0 wm_0 rfl [.int x, .int a, .int b] (c_X6_sizeOf x a b (by first | (intro h; exact absurd (by assumption) h) | (intro _; exact isF_of h0 (by assumption))) (by first | (intro h; exact absurd (by assumption) h) | (intro _; exact isF_of h0 (by assumption)))) (by decide) rfl rfl (Nat.le_of_ble_eq_true rfl) ⟨(Nat.le_of_ble_eq_true rfl), (Nat.le_of_ble_eq_true rfl)⟩ dX6_formula_73 rfl ?_
              refine r_bipush E (q := 78) (v := 30) dX6_formula_76 (by decide) rfl ?_
              refine r_icmp_le E (q := 81) 84 dX6_formula_78 (by decide) rfl (fun c13 => ?_) (fun c13 => ?_)
              · refine r_aload_n E (q := 85) 0 dX6_formula_84 rfl rfl rfl ?_
                refine r_iload_n E (q := 86) 1 dX6_formula_85 rfl rfl rfl ?_
                refine r_iload_n E (q := 87) 2 dX6_formula_86 rfl rfl rfl ?_
                refine r_iload_n E (q := 88) 3 dX6_formula_87 rfl rfl rfl ?_
                refine rVi E (q := 91) cvX6_117 T.rr 0 wm_0 rfl [.int x, .int a, .int b] (c_X6_tell x a b (by first | (intro h; exact absurd (by assumption) h) | (intro _; exact isF_of h0 (by assumption))) (by first | (intro h; exact absurd (by assumption) h) | (intro _; exact isF_of h0 (by assumption))) (cnt_in (m := 40) h0 (by omega) (by assumption))) (by decide) rfl rfl (Nat.le_of_ble_eq_true rfl) ⟨(Nat.le_of_ble_eq_true rfl), (Nat.le_of_ble_eq_true rfl)⟩ dX6_formula_88 rfl ?_
                exact r_iret E T dX6_formula_91 (eqI.mk (by unfold fX6_formula; exact ((if_neg c1).trans ((if_neg c2).trans ((if_neg c3).trans ((if_neg c10).trans ((if_pos c11).trans ((if_neg c12).trans (if_pos c13))))))).symm) (cgM (by unfold fX6_formula_G; exact ((if_neg c1).trans ((if_neg c2).trans ((if_neg c3).trans ((if_neg c10).trans ((if_pos c11).trans ((if_neg c12).trans (if_pos c13))))))).symm) (by unfold fX6_formula_V; exact ((if_neg c1).trans ((if_neg c2).trans ((if_neg c3).trans ((if_neg c10).trans ((if_pos c11).trans ((if_neg c12).trans (if_pos c13))))))).symm)))
              · refine r_bipush E (q := 83) (v := (-2)) dX6_formula_81 (by decide) rfl ?_
                exact r_iret E T dX6_formula_83 (eqI.mk (by unfold fX6_formula; exact ((if_neg c1).trans ((if_neg c2).trans ((if_neg c3).trans ((if_neg c10).trans ((if_pos c11).trans ((if_neg c12).trans (if_neg c13))))))).symm) (cgM (by unfold fX6_formula_G; exact ((if_neg c1).trans ((if_neg c2).trans ((if_neg c3).trans ((if_neg c10).trans ((if_pos c11).trans ((if_neg c12).trans (if_neg c13))))))).symm) (by unfold fX6_formula_V; exact ((if_neg c1).trans ((if_neg c2).trans ((if_neg c3).trans ((if_neg c10).trans ((if_pos c11).trans ((if_neg c12).trans (if_neg c13))))))).symm)))
          · refine r_aload_n E (q := 51) 0 dX6_formula_50 rfl rfl rfl ?_
            refine r_iload_n E (q := 52) 3 dX6_formula_51 rfl rfl rfl ?_
            refine rVi E (q := 55) cvX6_114 T.rr 0 wm_0 rfl [.int b] (c_X6_isFormula b) (by decide) rfl rfl (Nat.le_of_ble_eq_true rfl) ⟨(Nat.le_of_ble_eq_true rfl), (Nat.le_of_ble_eq_true rfl)⟩ dX6_formula_52 rfl ?_
            refine r_if_ne E (q := 58) 60 dX6_formula_55 (by decide) rfl (fun c14 => ?_) (fun c14 => ?_)
            · refine r_aload_n E (q := 61) 0 dX6_formula_60 rfl rfl rfl ?_
              refine r_get E (q := 64) fX6_96 0 wm_0 rfl dX6_formula_61 rfl ?_
              refine r_bipush E (q := 66) (v := 40) dX6_formula_64 (by decide) rfl ?_
              refine r_icmp_eq E (q := 69) 81 dX6_formula_66 (by decide) rfl (fun c15 => ?_) (fun c15 => ?_)
              · refine r_bipush E (q := 83) (v := (-2)) dX6_formula_81 (by decide) rfl ?_
                exact r_iret E T dX6_formula_83 (eqI.mk (by unfold fX6_formula; exact ((if_neg c1).trans ((if_neg c2).trans ((if_neg c3).trans ((if_neg c10).trans ((if_neg c11).trans ((if_neg c14).trans (if_pos c15))))))).symm) (cgM (by unfold fX6_formula_G; exact ((if_neg c1).trans ((if_neg c2).trans ((if_neg c3).trans ((if_neg c10).trans ((if_neg c11).trans ((if_neg c14).trans (if_pos c15))))))).symm) (by unfold fX6_formula_V; exact ((if_neg c1).trans ((if_neg c2).trans ((if_neg c3).trans ((if_neg c10).trans ((if_neg c11).trans ((if_neg c14).trans (if_pos c15))))))).symm)))
              · refine r_aload_n E (q := 70) 0 dX6_formula_69 rfl rfl rfl ?_
                refine r_iload_n E (q := 71) 1 dX6_formula_70 rfl rfl rfl ?_
                refine r_iload_n E (q := 72) 2 dX6_formula_71 rfl rfl rfl ?_
                refine r_iload_n E (q := 73) 3 dX6_formula_72 rfl rfl rfl ?_
                refine rVi E (q := 76) cvX6_106 T.rr 0 wm_0 rfl [.int x, .int a, .int b] (c_X6_sizeOf x a b (by first | (intro h; exact absurd (by assumption) h) | (intro _; exact isF_of h0 (by assumption))) (by first | (intro h; exact absurd (by assumption) h) | (intro _; exact isF_of h0 (by assumption)))) (by decide) rfl rfl (Nat.le_of_ble_eq_true rfl) ⟨(Nat.le_of_ble_eq_true rfl), (Nat.le_of_ble_eq_true rfl)⟩ dX6_formula_73 rfl ?_
                refine r_bipush E (q := 78) (v := 30) dX6_formula_76 (by decide) rfl ?_
                refine r_icmp_le E (q := 81) 84 dX6_formula_78 (by decide) rfl (fun c16 => ?_) (fun c16 => ?_)
                · refine r_aload_n E (q := 85) 0 dX6_formula_84 rfl rfl rfl ?_
                  refine r_iload_n E (q := 86) 1 dX6_formula_85 rfl rfl rfl ?_
                  refine r_iload_n E (q := 87) 2 dX6_formula_86 rfl rfl rfl ?_
                  refine r_iload_n E (q := 88) 3 dX6_formula_87 rfl rfl rfl ?_
                  refine rVi E (q := 91) cvX6_117 T.rr 0 wm_0 rfl [.int x, .int a, .int b] (c_X6_tell x a b (by first | (intro h; exact absurd (by assumption) h) | (intro _; exact isF_of h0 (by assumption))) (by first | (intro h; exact absurd (by assumption) h) | (intro _; exact isF_of h0 (by assumption))) (cnt_in (m := 40) h0 (by omega) (by assumption))) (by decide) rfl rfl (Nat.le_of_ble_eq_true rfl) ⟨(Nat.le_of_ble_eq_true rfl), (Nat.le_of_ble_eq_true rfl)⟩ dX6_formula_88 rfl ?_
                  exact r_iret E T dX6_formula_91 (eqI.mk (by unfold fX6_formula; exact ((if_neg c1).trans ((if_neg c2).trans ((if_neg c3).trans ((if_neg c10).trans ((if_neg c11).trans ((if_neg c14).trans ((if_neg c15).trans (if_pos c16)))))))).symm) (cgM (by unfold fX6_formula_G; exact ((if_neg c1).trans ((if_neg c2).trans ((if_neg c3).trans ((if_neg c10).trans ((if_neg c11).trans ((if_neg c14).trans ((if_neg c15).trans (if_pos c16)))))))).symm) (by unfold fX6_formula_V; exact ((if_neg c1).trans ((if_neg c2).trans ((if_neg c3).trans ((if_neg c10).trans ((if_neg c11).trans ((if_neg c14).trans ((if_neg c15).trans (if_pos c16)))))))).symm)))
                · refine r_bipush E (q := 83) (v := (-2)) dX6_formula_81 (by decide) rfl ?_
                  exact r_iret E T dX6_formula_83 (eqI.mk (by unfold fX6_formula; exact ((if_neg c1).trans ((if_neg c2).trans ((if_neg c3).trans ((if_neg c10).trans ((if_neg c11).trans ((if_neg c14).trans ((if_neg c15).trans (if_neg c16)))))))).symm) (cgM (by unfold fX6_formula_G; exact ((if_neg c1).trans ((if_neg c2).trans ((if_neg c3).trans ((if_neg c10).trans ((if_neg c11).trans ((if_neg c14).trans ((if_neg c15).trans (if_neg c16)))))))).symm) (by unfold fX6_formula_V; exact ((if_neg c1).trans ((if_neg c2).trans ((if_neg c3).trans ((if_neg c10).trans ((if_neg c11).trans ((if_neg c14).trans ((if_neg c15).trans (if_neg c16)))))))).symm)))
            · refine r_iconst E (q := 59) (v := (-1)) dX6_formula_58 (by decide) rfl ?_
              exact r_iret E T dX6_formula_59 (eqI.mk (by unfold fX6_formula; exact ((if_neg c1).trans ((if_neg c2).trans ((if_neg c3).trans ((if_neg c10).trans ((if_neg c11).trans (if_pos c14)))))).symm) (cgM (by unfold fX6_formula_G; exact ((if_neg c1).trans ((if_neg c2).trans ((if_neg c3).trans ((if_neg c10).trans ((if_neg c11).trans (if_pos c14)))))).symm) (by unfold fX6_formula_V; exact ((if_neg c1).trans ((if_neg c2).trans ((if_neg c3).trans ((if_neg c10).trans ((if_neg c11).trans (if_pos c14)))))).symm)))
    · refine r_iload_n E (q := 17) 2 dX6_formula_16 rfl rfl rfl ?_
      refine r_i2l E (q := 18) dX6_formula_17 rfl ?_
      refine r_lconst E (q := 19) (v := 0) dX6_formula_18 (by decide) rfl ?_
      refine r_ldc2 E (q := 22) kX6_112 dX6_formula_19 rfl ?_
      refine rSi E (q := 25) csX6_90 T.rr [.long a.toInt64, .long 0, .long 5] (c_X6_in a.toInt64 0 5) (by decide) rfl rfl (Nat.le_of_ble_eq_true rfl) ⟨(Nat.le_of_ble_eq_true rfl), (Nat.le_of_ble_eq_true rfl)⟩ dX6_formula_22 rfl ?_
      refine r_if_eq E (q := 28) 58 dX6_formula_25 (by decide) rfl (fun c17 => ?_) (fun c17 => ?_)
      · refine r_iconst E (q := 59) (v := (-1)) dX6_formula_58 (by decide) rfl ?_
        exact r_iret E T dX6_formula_59 (eqI.mk (by unfold fX6_formula; exact ((if_neg c1).trans ((if_pos c2).trans (if_pos c17))).symm) (cgM (by unfold fX6_formula_G; exact ((if_neg c1).trans ((if_pos c2).trans (if_pos c17))).symm) (by unfold fX6_formula_V; exact ((if_neg c1).trans ((if_pos c2).trans (if_pos c17))).symm)))
      · refine r_iload_n E (q := 29) 1 dX6_formula_28 rfl rfl rfl ?_
        refine rSi E (q := 32) csX6_99 T.rr [.int x] (c_X6_hasOne x) (by decide) rfl rfl (Nat.le_of_ble_eq_true rfl) ⟨(Nat.le_of_ble_eq_true rfl), (Nat.le_of_ble_eq_true rfl)⟩ dX6_formula_29 rfl ?_
        refine r_if_eq E (q := 35) 43 dX6_formula_32 (by decide) rfl (fun c18 => ?_) (fun c18 => ?_)
        · refine r_iload_n E (q := 44) 1 dX6_formula_43 rfl rfl rfl ?_
          refine rSi E (q := 47) csX6_103 T.rr [.int x] (c_X6_hasTwo x) (by decide) rfl rfl (Nat.le_of_ble_eq_true rfl) ⟨(Nat.le_of_ble_eq_true rfl), (Nat.le_of_ble_eq_true rfl)⟩ dX6_formula_44 rfl ?_
          refine r_if_eq E (q := 50) 60 dX6_formula_47 (by decide) rfl (fun c19 => ?_) (fun c19 => ?_)
          · refine r_aload_n E (q := 61) 0 dX6_formula_60 rfl rfl rfl ?_
            refine r_get E (q := 64) fX6_96 0 wm_0 rfl dX6_formula_61 rfl ?_
            refine r_bipush E (q := 66) (v := 40) dX6_formula_64 (by decide) rfl ?_
            refine r_icmp_eq E (q := 69) 81 dX6_formula_66 (by decide) rfl (fun c20 => ?_) (fun c20 => ?_)
            · refine r_bipush E (q := 83) (v := (-2)) dX6_formula_81 (by decide) rfl ?_
              exact r_iret E T dX6_formula_83 (eqI.mk (by unfold fX6_formula; exact ((if_neg c1).trans ((if_pos c2).trans ((if_neg c17).trans ((if_pos c18).trans ((if_pos c19).trans (if_pos c20)))))).symm) (cgM (by unfold fX6_formula_G; exact ((if_neg c1).trans ((if_pos c2).trans ((if_neg c17).trans ((if_pos c18).trans ((if_pos c19).trans (if_pos c20)))))).symm) (by unfold fX6_formula_V; exact ((if_neg c1).trans ((if_pos c2).trans ((if_neg c17).trans ((if_pos c18).trans ((if_pos c19).trans (if_pos c20)))))).symm)))
            · refine r_aload_n E (q := 70) 0 dX6_formula_69 rfl rfl rfl ?_
              refine r_iload_n E (q := 71) 1 dX6_formula_70 rfl rfl rfl ?_
              refine r_iload_n E (q := 72) 2 dX6_formula_71 rfl rfl rfl ?_
              refine r_iload_n E (q := 73) 3 dX6_formula_72 rfl rfl rfl ?_
              refine rVi E (q := 76) cvX6_106 T.rr 0 wm_0 rfl [.int x, .int a, .int b] (c_X6_sizeOf x a b (by first | (intro h; exact absurd (by assumption) h) | (intro _; exact isF_of h0 (by assumption))) (by first | (intro h; exact absurd (by assumption) h) | (intro _; exact isF_of h0 (by assumption)))) (by decide) rfl rfl (Nat.le_of_ble_eq_true rfl) ⟨(Nat.le_of_ble_eq_true rfl), (Nat.le_of_ble_eq_true rfl)⟩ dX6_formula_73 rfl ?_
              refine r_bipush E (q := 78) (v := 30) dX6_formula_76 (by decide) rfl ?_
              refine r_icmp_le E (q := 81) 84 dX6_formula_78 (by decide) rfl (fun c21 => ?_) (fun c21 => ?_)
              · refine r_aload_n E (q := 85) 0 dX6_formula_84 rfl rfl rfl ?_
                refine r_iload_n E (q := 86) 1 dX6_formula_85 rfl rfl rfl ?_
                refine r_iload_n E (q := 87) 2 dX6_formula_86 rfl rfl rfl ?_
                refine r_iload_n E (q := 88) 3 dX6_formula_87 rfl rfl rfl ?_
                refine rVi E (q := 91) cvX6_117 T.rr 0 wm_0 rfl [.int x, .int a, .int b] (c_X6_tell x a b (by first | (intro h; exact absurd (by assumption) h) | (intro _; exact isF_of h0 (by assumption))) (by first | (intro h; exact absurd (by assumption) h) | (intro _; exact isF_of h0 (by assumption))) (cnt_in (m := 40) h0 (by omega) (by assumption))) (by decide) rfl rfl (Nat.le_of_ble_eq_true rfl) ⟨(Nat.le_of_ble_eq_true rfl), (Nat.le_of_ble_eq_true rfl)⟩ dX6_formula_88 rfl ?_
                exact r_iret E T dX6_formula_91 (eqI.mk (by unfold fX6_formula; exact ((if_neg c1).trans ((if_pos c2).trans ((if_neg c17).trans ((if_pos c18).trans ((if_pos c19).trans ((if_neg c20).trans (if_pos c21))))))).symm) (cgM (by unfold fX6_formula_G; exact ((if_neg c1).trans ((if_pos c2).trans ((if_neg c17).trans ((if_pos c18).trans ((if_pos c19).trans ((if_neg c20).trans (if_pos c21))))))).symm) (by unfold fX6_formula_V; exact ((if_neg c1).trans ((if_pos c2).trans ((if_neg c17).trans ((if_pos c18).trans ((if_pos c19).trans ((if_neg c20).trans (if_pos c21))))))).symm)))
              · refine r_bipush E (q := 83) (v := (-2)) dX6_formula_81 (by decide) rfl ?_
                exact r_iret E T dX6_formula_83 (eqI.mk (by unfold fX6_formula; exact ((if_neg c1).trans ((if_pos c2).trans ((if_neg c17).trans ((if_pos c18).trans ((if_pos c19).trans ((if_neg c20).trans (if_neg c21))))))).symm) (cgM (by unfold fX6_formula_G; exact ((if_neg c1).trans ((if_pos c2).trans ((if_neg c17).trans ((if_pos c18).trans ((if_pos c19).trans ((if_neg c20).trans (if_neg c21))))))).symm) (by unfold fX6_formula_V; exact ((if_neg c1).trans ((if_pos c2).trans ((if_neg c17).trans ((if_pos c18).trans ((if_pos c19).trans ((if_neg c20).trans (if_neg c21))))))).symm)))
          · refine r_aload_n E (q := 51) 0 dX6_formula_50 rfl rfl rfl ?_
            refine r_iload_n E (q := 52) 3 dX6_formula_51 rfl rfl rfl ?_
            refine rVi E (q := 55) cvX6_114 T.rr 0 wm_0 rfl [.int b] (c_X6_isFormula b) (by decide) rfl rfl (Nat.le_of_ble_eq_true rfl) ⟨(Nat.le_of_ble_eq_true rfl), (Nat.le_of_ble_eq_true rfl)⟩ dX6_formula_52 rfl ?_
            refine r_if_ne E (q := 58) 60 dX6_formula_55 (by decide) rfl (fun c22 => ?_) (fun c22 => ?_)
            · refine r_aload_n E (q := 61) 0 dX6_formula_60 rfl rfl rfl ?_
              refine r_get E (q := 64) fX6_96 0 wm_0 rfl dX6_formula_61 rfl ?_
              refine r_bipush E (q := 66) (v := 40) dX6_formula_64 (by decide) rfl ?_
              refine r_icmp_eq E (q := 69) 81 dX6_formula_66 (by decide) rfl (fun c23 => ?_) (fun c23 => ?_)
              · refine r_bipush E (q := 83) (v := (-2)) dX6_formula_81 (by decide) rfl ?_
                exact r_iret E T dX6_formula_83 (eqI.mk (by unfold fX6_formula; exact ((if_neg c1).trans ((if_pos c2).trans ((if_neg c17).trans ((if_pos c18).trans ((if_neg c19).trans ((if_neg c22).trans (if_pos c23))))))).symm) (cgM (by unfold fX6_formula_G; exact ((if_neg c1).trans ((if_pos c2).trans ((if_neg c17).trans ((if_pos c18).trans ((if_neg c19).trans ((if_neg c22).trans (if_pos c23))))))).symm) (by unfold fX6_formula_V; exact ((if_neg c1).trans ((if_pos c2).trans ((if_neg c17).trans ((if_pos c18).trans ((if_neg c19).trans ((if_neg c22).trans (if_pos c23))))))).symm)))
              · refine r_aload_n E (q := 70) 0 dX6_formula_69 rfl rfl rfl ?_
                refine r_iload_n E (q := 71) 1 dX6_formula_70 rfl rfl rfl ?_
                refine r_iload_n E (q := 72) 2 dX6_formula_71 rfl rfl rfl ?_
                refine r_iload_n E (q := 73) 3 dX6_formula_72 rfl rfl rfl ?_
                refine rVi E (q := 76) cvX6_106 T.rr 0 wm_0 rfl [.int x, .int a, .int b] (c_X6_sizeOf x a b (by first | (intro h; exact absurd (by assumption) h) | (intro _; exact isF_of h0 (by assumption))) (by first | (intro h; exact absurd (by assumption) h) | (intro _; exact isF_of h0 (by assumption)))) (by decide) rfl rfl (Nat.le_of_ble_eq_true rfl) ⟨(Nat.le_of_ble_eq_true rfl), (Nat.le_of_ble_eq_true rfl)⟩ dX6_formula_73 rfl ?_
                refine r_bipush E (q := 78) (v := 30) dX6_formula_76 (by decide) rfl ?_
                refine r_icmp_le E (q := 81) 84 dX6_formula_78 (by decide) rfl (fun c24 => ?_) (fun c24 => ?_)
                · refine r_aload_n E (q := 85) 0 dX6_formula_84 rfl rfl rfl ?_
                  refine r_iload_n E (q := 86) 1 dX6_formula_85 rfl rfl rfl ?_
                  refine r_iload_n E (q := 87) 2 dX6_formula_86 rfl rfl rfl ?_
                  refine r_iload_n E (q := 88) 3 dX6_formula_87 rfl rfl rfl ?_
                  refine rVi E (q := 91) cvX6_117 T.rr 0 wm_0 rfl [.int x, .int a, .int b] (c_X6_tell x a b (by first | (intro h; exact absurd (by assumption) h) | (intro _; exact isF_of h0 (by assumption))) (by first | (intro h; exact absurd (by assumption) h) | (intro _; exact isF_of h0 (by assumption))) (cnt_in (m := 40) h0 (by omega) (by assumption))) (by decide) rfl rfl (Nat.le_of_ble_eq_true rfl) ⟨(Nat.le_of_ble_eq_true rfl), (Nat.le_of_ble_eq_true rfl)⟩ dX6_formula_88 rfl ?_
                  exact r_iret E T dX6_formula_91 (eqI.mk (by unfold fX6_formula; exact ((if_neg c1).trans ((if_pos c2).trans ((if_neg c17).trans ((if_pos c18).trans ((if_neg c19).trans ((if_neg c22).trans ((if_neg c23).trans (if_pos c24)))))))).symm) (cgM (by unfold fX6_formula_G; exact ((if_neg c1).trans ((if_pos c2).trans ((if_neg c17).trans ((if_pos c18).trans ((if_neg c19).trans ((if_neg c22).trans ((if_neg c23).trans (if_pos c24)))))))).symm) (by unfold fX6_formula_V; exact ((if_neg c1).trans ((if_pos c2).trans ((if_neg c17).trans ((if_pos c18).trans ((if_neg c19).trans ((if_neg c22).trans ((if_neg c23).trans (if_pos c24)))))))).symm)))
                · refine r_bipush E (q := 83) (v := (-2)) dX6_formula_81 (by decide) rfl ?_
                  exact r_iret E T dX6_formula_83 (eqI.mk (by unfold fX6_formula; exact ((if_neg c1).trans ((if_pos c2).trans ((if_neg c17).trans ((if_pos c18).trans ((if_neg c19).trans ((if_neg c22).trans ((if_neg c23).trans (if_neg c24)))))))).symm) (cgM (by unfold fX6_formula_G; exact ((if_neg c1).trans ((if_pos c2).trans ((if_neg c17).trans ((if_pos c18).trans ((if_neg c19).trans ((if_neg c22).trans ((if_neg c23).trans (if_neg c24)))))))).symm) (by unfold fX6_formula_V; exact ((if_neg c1).trans ((if_pos c2).trans ((if_neg c17).trans ((if_pos c18).trans ((if_neg c19).trans ((if_neg c22).trans ((if_neg c23).trans (if_neg c24)))))))).symm)))
            · refine r_iconst E (q := 59) (v := (-1)) dX6_formula_58 (by decide) rfl ?_
              exact r_iret E T dX6_formula_59 (eqI.mk (by unfold fX6_formula; exact ((if_neg c1).trans ((if_pos c2).trans ((if_neg c17).trans ((if_pos c18).trans ((if_neg c19).trans (if_pos c22)))))).symm) (cgM (by unfold fX6_formula_G; exact ((if_neg c1).trans ((if_pos c2).trans ((if_neg c17).trans ((if_pos c18).trans ((if_neg c19).trans (if_pos c22)))))).symm) (by unfold fX6_formula_V; exact ((if_neg c1).trans ((if_pos c2).trans ((if_neg c17).trans ((if_pos c18).trans ((if_neg c19).trans (if_pos c22)))))).symm)))
        · refine r_aload_n E (q := 36) 0 dX6_formula_35 rfl rfl rfl ?_
          refine r_iload_n E (q := 37) 2 dX6_formula_36 rfl rfl rfl ?_
          refine rVi E (q := 40) cvX6_114 T.rr 0 wm_0 rfl [.int a] (c_X6_isFormula a) (by decide) rfl rfl (Nat.le_of_ble_eq_true rfl) ⟨(Nat.le_of_ble_eq_true rfl), (Nat.le_of_ble_eq_true rfl)⟩ dX6_formula_37 rfl ?_
          refine r_if_eq E (q := 43) 58 dX6_formula_40 (by decide) rfl (fun c25 => ?_) (fun c25 => ?_)
          · refine r_iconst E (q := 59) (v := (-1)) dX6_formula_58 (by decide) rfl ?_
            exact r_iret E T dX6_formula_59 (eqI.mk (by unfold fX6_formula; exact ((if_neg c1).trans ((if_pos c2).trans ((if_neg c17).trans ((if_neg c18).trans (if_pos c25))))).symm) (cgM (by unfold fX6_formula_G; exact ((if_neg c1).trans ((if_pos c2).trans ((if_neg c17).trans ((if_neg c18).trans (if_pos c25))))).symm) (by unfold fX6_formula_V; exact ((if_neg c1).trans ((if_pos c2).trans ((if_neg c17).trans ((if_neg c18).trans (if_pos c25))))).symm)))
          · refine r_iload_n E (q := 44) 1 dX6_formula_43 rfl rfl rfl ?_
            refine rSi E (q := 47) csX6_103 T.rr [.int x] (c_X6_hasTwo x) (by decide) rfl rfl (Nat.le_of_ble_eq_true rfl) ⟨(Nat.le_of_ble_eq_true rfl), (Nat.le_of_ble_eq_true rfl)⟩ dX6_formula_44 rfl ?_
            refine r_if_eq E (q := 50) 60 dX6_formula_47 (by decide) rfl (fun c26 => ?_) (fun c26 => ?_)
            · refine r_aload_n E (q := 61) 0 dX6_formula_60 rfl rfl rfl ?_
              refine r_get E (q := 64) fX6_96 0 wm_0 rfl dX6_formula_61 rfl ?_
              refine r_bipush E (q := 66) (v := 40) dX6_formula_64 (by decide) rfl ?_
              refine r_icmp_eq E (q := 69) 81 dX6_formula_66 (by decide) rfl (fun c27 => ?_) (fun c27 => ?_)
              · refine r_bipush E (q := 83) (v := (-2)) dX6_formula_81 (by decide) rfl ?_
                exact r_iret E T dX6_formula_83 (eqI.mk (by unfold fX6_formula; exact ((if_neg c1).trans ((if_pos c2).trans ((if_neg c17).trans ((if_neg c18).trans ((if_neg c25).trans ((if_pos c26).trans (if_pos c27))))))).symm) (cgM (by unfold fX6_formula_G; exact ((if_neg c1).trans ((if_pos c2).trans ((if_neg c17).trans ((if_neg c18).trans ((if_neg c25).trans ((if_pos c26).trans (if_pos c27))))))).symm) (by unfold fX6_formula_V; exact ((if_neg c1).trans ((if_pos c2).trans ((if_neg c17).trans ((if_neg c18).trans ((if_neg c25).trans ((if_pos c26).trans (if_pos c27))))))).symm)))
              · refine r_aload_n E (q := 70) 0 dX6_formula_69 rfl rfl rfl ?_
                refine r_iload_n E (q := 71) 1 dX6_formula_70 rfl rfl rfl ?_
                refine r_iload_n E (q := 72) 2 dX6_formula_71 rfl rfl rfl ?_
                refine r_iload_n E (q := 73) 3 dX6_formula_72 rfl rfl rfl ?_
                refine rVi E (q := 76) cvX6_106 T.rr 0 wm_0 rfl [.int x, .int a, .int b] (c_X6_sizeOf x a b (by first | (intro h; exact absurd (by assumption) h) | (intro _; exact isF_of h0 (by assumption))) (by first | (intro h; exact absurd (by assumption) h) | (intro _; exact isF_of h0 (by assumption)))) (by decide) rfl rfl (Nat.le_of_ble_eq_true rfl) ⟨(Nat.le_of_ble_eq_true rfl), (Nat.le_of_ble_eq_true rfl)⟩ dX6_formula_73 rfl ?_
                refine r_bipush E (q := 78) (v := 30) dX6_formula_76 (by decide) rfl ?_
                refine r_icmp_le E (q := 81) 84 dX6_formula_78 (by decide) rfl (fun c28 => ?_) (fun c28 => ?_)
                · refine r_aload_n E (q := 85) 0 dX6_formula_84 rfl rfl rfl ?_
                  refine r_iload_n E (q := 86) 1 dX6_formula_85 rfl rfl rfl ?_
                  refine r_iload_n E (q := 87) 2 dX6_formula_86 rfl rfl rfl ?_
                  refine r_iload_n E (q := 88) 3 dX6_formula_87 rfl rfl rfl ?_
                  refine rVi E (q := 91) cvX6_117 T.rr 0 wm_0 rfl [.int x, .int a, .int b] (c_X6_tell x a b (by first | (intro h; exact absurd (by assumption) h) | (intro _; exact isF_of h0 (by assumption))) (by first | (intro h; exact absurd (by assumption) h) | (intro _; exact isF_of h0 (by assumption))) (cnt_in (m := 40) h0 (by omega) (by assumption))) (by decide) rfl rfl (Nat.le_of_ble_eq_true rfl) ⟨(Nat.le_of_ble_eq_true rfl), (Nat.le_of_ble_eq_true rfl)⟩ dX6_formula_88 rfl ?_
                  exact r_iret E T dX6_formula_91 (eqI.mk (by unfold fX6_formula; exact ((if_neg c1).trans ((if_pos c2).trans ((if_neg c17).trans ((if_neg c18).trans ((if_neg c25).trans ((if_pos c26).trans ((if_neg c27).trans (if_pos c28)))))))).symm) (cgM (by unfold fX6_formula_G; exact ((if_neg c1).trans ((if_pos c2).trans ((if_neg c17).trans ((if_neg c18).trans ((if_neg c25).trans ((if_pos c26).trans ((if_neg c27).trans (if_pos c28)))))))).symm) (by unfold fX6_formula_V; exact ((if_neg c1).trans ((if_pos c2).trans ((if_neg c17).trans ((if_neg c18).trans ((if_neg c25).trans ((if_pos c26).trans ((if_neg c27).trans (if_pos c28)))))))).symm)))
                · refine r_bipush E (q := 83) (v := (-2)) dX6_formula_81 (by decide) rfl ?_
                  exact r_iret E T dX6_formula_83 (eqI.mk (by unfold fX6_formula; exact ((if_neg c1).trans ((if_pos c2).trans ((if_neg c17).trans ((if_neg c18).trans ((if_neg c25).trans ((if_pos c26).trans ((if_neg c27).trans (if_neg c28)))))))).symm) (cgM (by unfold fX6_formula_G; exact ((if_neg c1).trans ((if_pos c2).trans ((if_neg c17).trans ((if_neg c18).trans ((if_neg c25).trans ((if_pos c26).trans ((if_neg c27).trans (if_neg c28)))))))).symm) (by unfold fX6_formula_V; exact ((if_neg c1).trans ((if_pos c2).trans ((if_neg c17).trans ((if_neg c18).trans ((if_neg c25).trans ((if_pos c26).trans ((if_neg c27).trans (if_neg c28)))))))).symm)))
            · refine r_aload_n E (q := 51) 0 dX6_formula_50 rfl rfl rfl ?_
              refine r_iload_n E (q := 52) 3 dX6_formula_51 rfl rfl rfl ?_
              refine rVi E (q := 55) cvX6_114 T.rr 0 wm_0 rfl [.int b] (c_X6_isFormula b) (by decide) rfl rfl (Nat.le_of_ble_eq_true rfl) ⟨(Nat.le_of_ble_eq_true rfl), (Nat.le_of_ble_eq_true rfl)⟩ dX6_formula_52 rfl ?_
              refine r_if_ne E (q := 58) 60 dX6_formula_55 (by decide) rfl (fun c29 => ?_) (fun c29 => ?_)
              · refine r_aload_n E (q := 61) 0 dX6_formula_60 rfl rfl rfl ?_
                refine r_get E (q := 64) fX6_96 0 wm_0 rfl dX6_formula_61 rfl ?_
                refine r_bipush E (q := 66) (v := 40) dX6_formula_64 (by decide) rfl ?_
                refine r_icmp_eq E (q := 69) 81 dX6_formula_66 (by decide) rfl (fun c30 => ?_) (fun c30 => ?_)
                · refine r_bipush E (q := 83) (v := (-2)) dX6_formula_81 (by decide) rfl ?_
                  exact r_iret E T dX6_formula_83 (eqI.mk (by unfold fX6_formula; exact ((if_neg c1).trans ((if_pos c2).trans ((if_neg c17).trans ((if_neg c18).trans ((if_neg c25).trans ((if_neg c26).trans ((if_neg c29).trans (if_pos c30)))))))).symm) (cgM (by unfold fX6_formula_G; exact ((if_neg c1).trans ((if_pos c2).trans ((if_neg c17).trans ((if_neg c18).trans ((if_neg c25).trans ((if_neg c26).trans ((if_neg c29).trans (if_pos c30)))))))).symm) (by unfold fX6_formula_V; exact ((if_neg c1).trans ((if_pos c2).trans ((if_neg c17).trans ((if_neg c18).trans ((if_neg c25).trans ((if_neg c26).trans ((if_neg c29).trans (if_pos c30)))))))).symm)))
                · refine r_aload_n E (q := 70) 0 dX6_formula_69 rfl rfl rfl ?_
                  refine r_iload_n E (q := 71) 1 dX6_formula_70 rfl rfl rfl ?_
                  refine r_iload_n E (q := 72) 2 dX6_formula_71 rfl rfl rfl ?_
                  refine r_iload_n E (q := 73) 3 dX6_formula_72 rfl rfl rfl ?_
                  refine rVi E (q := 76) cvX6_106 T.rr 0 wm_0 rfl [.int x, .int a, .int b] (c_X6_sizeOf x a b (by first | (intro h; exact absurd (by assumption) h) | (intro _; exact isF_of h0 (by assumption))) (by first | (intro h; exact absurd (by assumption) h) | (intro _; exact isF_of h0 (by assumption)))) (by decide) rfl rfl (Nat.le_of_ble_eq_true rfl) ⟨(Nat.le_of_ble_eq_true rfl), (Nat.le_of_ble_eq_true rfl)⟩ dX6_formula_73 rfl ?_
                  refine r_bipush E (q := 78) (v := 30) dX6_formula_76 (by decide) rfl ?_
                  refine r_icmp_le E (q := 81) 84 dX6_formula_78 (by decide) rfl (fun c31 => ?_) (fun c31 => ?_)
                  · refine r_aload_n E (q := 85) 0 dX6_formula_84 rfl rfl rfl ?_
                    refine r_iload_n E (q := 86) 1 dX6_formula_85 rfl rfl rfl ?_
                    refine r_iload_n E (q := 87) 2 dX6_formula_86 rfl rfl rfl ?_
                    refine r_iload_n E (q := 88) 3 dX6_formula_87 rfl rfl rfl ?_
                    refine rVi E (q := 91) cvX6_117 T.rr 0 wm_0 rfl [.int x, .int a, .int b] (c_X6_tell x a b (by first | (intro h; exact absurd (by assumption) h) | (intro _; exact isF_of h0 (by assumption))) (by first | (intro h; exact absurd (by assumption) h) | (intro _; exact isF_of h0 (by assumption))) (cnt_in (m := 40) h0 (by omega) (by assumption))) (by decide) rfl rfl (Nat.le_of_ble_eq_true rfl) ⟨(Nat.le_of_ble_eq_true rfl), (Nat.le_of_ble_eq_true rfl)⟩ dX6_formula_88 rfl ?_
                    exact r_iret E T dX6_formula_91 (eqI.mk (by unfold fX6_formula; exact ((if_neg c1).trans ((if_pos c2).trans ((if_neg c17).trans ((if_neg c18).trans ((if_neg c25).trans ((if_neg c26).trans ((if_neg c29).trans ((if_neg c30).trans (if_pos c31))))))))).symm) (cgM (by unfold fX6_formula_G; exact ((if_neg c1).trans ((if_pos c2).trans ((if_neg c17).trans ((if_neg c18).trans ((if_neg c25).trans ((if_neg c26).trans ((if_neg c29).trans ((if_neg c30).trans (if_pos c31))))))))).symm) (by unfold fX6_formula_V; exact ((if_neg c1).trans ((if_pos c2).trans ((if_neg c17).trans ((if_neg c18).trans ((if_neg c25).trans ((if_neg c26).trans ((if_neg c29).trans ((if_neg c30).trans (if_pos c31))))))))).symm)))
                  · refine r_bipush E (q := 83) (v := (-2)) dX6_formula_81 (by decide) rfl ?_
                    exact r_iret E T dX6_formula_83 (eqI.mk (by unfold fX6_formula; exact ((if_neg c1).trans ((if_pos c2).trans ((if_neg c17).trans ((if_neg c18).trans ((if_neg c25).trans ((if_neg c26).trans ((if_neg c29).trans ((if_neg c30).trans (if_neg c31))))))))).symm) (cgM (by unfold fX6_formula_G; exact ((if_neg c1).trans ((if_pos c2).trans ((if_neg c17).trans ((if_neg c18).trans ((if_neg c25).trans ((if_neg c26).trans ((if_neg c29).trans ((if_neg c30).trans (if_neg c31))))))))).symm) (by unfold fX6_formula_V; exact ((if_neg c1).trans ((if_pos c2).trans ((if_neg c17).trans ((if_neg c18).trans ((if_neg c25).trans ((if_neg c26).trans ((if_neg c29).trans ((if_neg c30).trans (if_neg c31))))))))).symm)))
              · refine r_iconst E (q := 59) (v := (-1)) dX6_formula_58 (by decide) rfl ?_
                exact r_iret E T dX6_formula_59 (eqI.mk (by unfold fX6_formula; exact ((if_neg c1).trans ((if_pos c2).trans ((if_neg c17).trans ((if_neg c18).trans ((if_neg c25).trans ((if_neg c26).trans (if_pos c29))))))).symm) (cgM (by unfold fX6_formula_G; exact ((if_neg c1).trans ((if_pos c2).trans ((if_neg c17).trans ((if_neg c18).trans ((if_neg c25).trans ((if_neg c26).trans (if_pos c29))))))).symm) (by unfold fX6_formula_V; exact ((if_neg c1).trans ((if_pos c2).trans ((if_neg c17).trans ((if_neg c18).trans ((if_neg c25).trans ((if_neg c26).trans (if_pos c29))))))).symm)))
def fX6_formulaOf (G : Nat → Nat → Int32) (V : Nat → Int32) (f : Int32) (what : Int32) : Int32 := if fX6_isFormula V f = 0 then (-1) else (if fX6_in what.toInt64 0 1 = 0 then (-1) else (if what = 0 then (G 7 (ix f)) else (if G 8 (ix f) = 0 then 0 else 1)))
set_option maxRecDepth 100000 in
set_option maxHeartbeats 800000 in
theorem c_X6_formulaOf {l : Launch} {k : Kt} {ad : Nat → Nat} {G : Nat → Nat → Int32} {V : Nat → Int32} (f : Int32) (what : Int32) (h0 : ∃ j : Nat, j ≤ 40 ∧ V 0 = nI j) : CT l k yX6_formulaOf cX6_formulaOf 3 (some .int) 2 [.ref (ad 0), .int f, .int what] (WM k ad G V) (eqI (fX6_formulaOf G V f what) (WM k ad G V)) 0 0 := by
  refine ct_of (own := RX6) (lv0 := [(0, .ref (ad 0)), (1, .int f), (2, .int what)]) (by decide) rfl (Nat.le_of_ble_eq_true rfl) rfl ?_
  rintro z rfl rfl hz - E T
  refine r_aload_n E (q := 1) 0 dX6_formulaOf_0 rfl rfl rfl ?_
  refine r_iload_n E (q := 2) 1 dX6_formulaOf_1 rfl rfl rfl ?_
  refine rVi E (q := 5) cvX6_114 T.rr 0 wm_0 rfl [.int f] (c_X6_isFormula f) (by decide) rfl rfl (Nat.le_of_ble_eq_true rfl) ⟨(Nat.le_of_ble_eq_true rfl), (Nat.le_of_ble_eq_true rfl)⟩ dX6_formulaOf_2 rfl ?_
  refine r_if_eq E (q := 8) 18 dX6_formulaOf_5 (by decide) rfl (fun c1 => ?_) (fun c1 => ?_)
  · refine r_iconst E (q := 19) (v := (-1)) dX6_formulaOf_18 (by decide) rfl ?_
    exact r_iret E T dX6_formulaOf_19 (eqI.mk (by unfold fX6_formulaOf; exact (if_pos c1).symm) rfl)
  · refine r_iload_n E (q := 9) 2 dX6_formulaOf_8 rfl rfl rfl ?_
    refine r_i2l E (q := 10) dX6_formulaOf_9 rfl ?_
    refine r_lconst E (q := 11) (v := 0) dX6_formulaOf_10 (by decide) rfl ?_
    refine r_lconst E (q := 12) (v := 1) dX6_formulaOf_11 (by decide) rfl ?_
    refine rSi E (q := 15) csX6_90 T.rr [.long what.toInt64, .long 0, .long 1] (c_X6_in what.toInt64 0 1) (by decide) rfl rfl (Nat.le_of_ble_eq_true rfl) ⟨(Nat.le_of_ble_eq_true rfl), (Nat.le_of_ble_eq_true rfl)⟩ dX6_formulaOf_12 rfl ?_
    refine r_if_ne E (q := 18) 20 dX6_formulaOf_15 (by decide) rfl (fun c2 => ?_) (fun c2 => ?_)
    · refine r_iload_n E (q := 21) 2 dX6_formulaOf_20 rfl rfl rfl ?_
      refine r_join 47 (if what = 0 then (G 7 (ix f)) else (if G 8 (ix f) = 0 then 0 else 1)) (rest := []) ?_ (fun hj1 => ?_)
      · exact r_iret E T dX6_formulaOf_47 (eqI.mk (by unfold fX6_formulaOf; exact ((if_neg c1).trans (if_neg c2)).symm) rfl)
      · refine r_if_ne E (q := 24) 33 dX6_formulaOf_21 (by decide) rfl (fun c3 => ?_) (fun c3 => ?_)
        · refine r_aload_n E (q := 34) 0 dX6_formulaOf_33 rfl rfl rfl ?_
          refine r_get E (q := 37) fX6_31 0 wm_0 rfl dX6_formulaOf_34 rfl ?_
          refine r_iload_n E (q := 38) 1 dX6_formulaOf_37 rfl rfl rfl ?_
          refine r_zald E (q := 39) 8 wm_8 (isF_of h0 (by assumption)) dX6_formulaOf_38 rfl ?_
          refine r_if_eq E (q := 42) 46 dX6_formulaOf_39 (by decide) rfl (fun c4 => ?_) (fun c4 => ?_)
          · refine r_iconst E (q := 47) (v := 0) dX6_formulaOf_46 (by decide) rfl ?_
            exact hj1 _ ((if_neg c3).trans (if_pos c4)).symm
          · refine r_iconst E (q := 43) (v := 1) dX6_formulaOf_42 (by decide) rfl ?_
            refine r_goto E 47 dX6_formulaOf_43 (by decide) ?_
            exact hj1 _ ((if_neg c3).trans (if_neg c4)).symm
        · refine r_aload_n E (q := 25) 0 dX6_formulaOf_24 rfl rfl rfl ?_
          refine r_get E (q := 28) fX6_28 0 wm_0 rfl dX6_formulaOf_25 rfl ?_
          refine r_iload_n E (q := 29) 1 dX6_formulaOf_28 rfl rfl rfl ?_
          refine r_iald E (q := 30) 7 wm_7 (isF_of h0 (by assumption)) dX6_formulaOf_29 rfl ?_
          refine r_goto E 47 dX6_formulaOf_30 (by decide) ?_
          exact hj1 _ (if_pos c3).symm
    · refine r_iconst E (q := 19) (v := (-1)) dX6_formulaOf_18 (by decide) rfl ?_
      exact r_iret E T dX6_formulaOf_19 (eqI.mk (by unfold fX6_formulaOf; exact ((if_neg c1).trans (if_pos c2)).symm) rfl)
def fX6_hasRoom (G : Nat → Nat → Int32) (V : Nat → Int32) (x : Int32) (rule : Int32) : Int32 := if rule = 7 then (if 40 ≤ V 0 then 0 else (if 30 < fX6_sizeOf G 9 (G 14 (ix (G 11 (ix x)))) (G 14 (ix x)) then 0 else 1)) else (if 60 < (V 1) + (fX6_news rule) then 0 else 1)
theorem b_X6_hasRoom (G : Nat → Nat → Int32) (V : Nat → Int32) (x : Int32) (rule : Int32) : fX6_hasRoom G V x rule = 0 ∨ fX6_hasRoom G V x rule = 1 := (b01 (b01 (Or.inl rfl) (b01 (Or.inl rfl) (Or.inr rfl))) (b01 (Or.inl rfl) (Or.inr rfl)))
set_option maxRecDepth 100000 in
set_option maxHeartbeats 800000 in
theorem c_X6_hasRoom {l : Launch} {k : Kt} {ad : Nat → Nat} {G : Nat → Nat → Int32} {V : Nat → Int32} (x : Int32) (rule : Int32) (hx : vp_in x 60) (h7 : rule = 7 → vp_in (G 11 (ix x)) 60 ∧ vp_in (G 14 (ix (G 11 (ix x)))) 40 ∧ vp_in (G 14 (ix x)) 40) : CT l k yX6_hasRoom cX6_hasRoom 4 (some .boolean) 2 [.ref (ad 0), .int x, .int rule] (WM k ad G V) (eqI (fX6_hasRoom G V x rule) (WM k ad G V)) 0 0 := by
  refine ct_of (own := RX6) (lv0 := [(0, .ref (ad 0)), (1, .int x), (2, .int rule)]) (by decide) rfl (Nat.le_of_ble_eq_true rfl) rfl ?_
  rintro z rfl rfl hz - E T
  refine r_aload_n E (q := 1) 0 dX6_hasRoom_0 rfl rfl rfl ?_
  refine r_get E (q := 4) fX6_120 0 wm_0 rfl dX6_hasRoom_1 rfl ?_
  refine r_iload_n E (q := 5) 2 dX6_hasRoom_4 rfl rfl rfl ?_
  refine rSi E (q := 8) csX6_255 T.rr [.int rule] (c_X6_news rule) (by decide) rfl rfl (Nat.le_of_ble_eq_true rfl) ⟨(Nat.le_of_ble_eq_true rfl), (Nat.le_of_ble_eq_true rfl)⟩ dX6_hasRoom_5 rfl ?_
  refine r_iadd E (q := 9) dX6_hasRoom_8 rfl ?_
  refine r_bipush E (q := 11) (v := 60) dX6_hasRoom_9 (by decide) rfl ?_
  refine r_join 19 (if 60 < (V 1) + (fX6_news rule) then 0 else 1) (rest := []) ?_ (fun hj1 => ?_)
  · refine r_istore_n E (q := 20) (lv' := [(0, .ref (ad 0)), (1, .int x), (2, .int rule), (3, .int (if 60 < (V 1) + (fX6_news rule) then 0 else 1))]) [1, 2, 3, 0] dX6_hasRoom_19 rfl (by rw [hz]; decide) rfl rfl ?_
    refine r_iload_n E (q := 21) 2 dX6_hasRoom_20 rfl rfl rfl ?_
    refine r_bipush E (q := 23) (v := 7) dX6_hasRoom_21 (by decide) rfl ?_
    refine r_join 72 (if rule = 7 then (if 40 ≤ V 0 then 0 else (if 30 < fX6_sizeOf G 9 (G 14 (ix (G 11 (ix x)))) (G 14 (ix x)) then 0 else 1)) else (if 60 < (V 1) + (fX6_news rule) then 0 else 1)) (rest := []) ?_ (fun hj2 => ?_)
    · exact r_zret E T (b01 (b01 (Or.inl rfl) (b01 (Or.inl rfl) (Or.inr rfl))) (b01 (Or.inl rfl) (Or.inr rfl))) dX6_hasRoom_72 (eqI.mk (by unfold fX6_hasRoom; exact rfl) rfl)
    · refine r_icmp_ne E (q := 26) 71 dX6_hasRoom_23 (by decide) rfl (fun c2 => ?_) (fun c2 => ?_)
      · refine r_iload_n E (q := 72) 3 dX6_hasRoom_71 rfl rfl rfl ?_
        exact hj2 _ (if_neg c2).symm
      · refine r_aload_n E (q := 27) 0 dX6_hasRoom_26 rfl rfl rfl ?_
        refine r_get E (q := 30) fX6_96 0 wm_0 rfl dX6_hasRoom_27 rfl ?_
        refine r_bipush E (q := 32) (v := 40) dX6_hasRoom_30 (by decide) rfl ?_
        refine r_icmp_ge E (q := 35) 67 dX6_hasRoom_32 (by decide) rfl (fun c3 => ?_) (fun c3 => ?_)
        · refine r_iconst E (q := 68) (v := 0) dX6_hasRoom_67 (by decide) rfl ?_
          refine r_goto E 72 dX6_hasRoom_68 (by decide) ?_
          exact hj2 _ ((if_pos c2).trans (if_pos c3)).symm
        · refine r_aload_n E (q := 36) 0 dX6_hasRoom_35 rfl rfl rfl ?_
          refine r_bipush E (q := 38) (v := 9) dX6_hasRoom_36 (by decide) rfl ?_
          refine r_aload_n E (q := 39) 0 dX6_hasRoom_38 rfl rfl rfl ?_
          refine r_get E (q := 42) fX6_50 0 wm_0 rfl dX6_hasRoom_39 rfl ?_
          refine r_aload_n E (q := 43) 0 dX6_hasRoom_42 rfl rfl rfl ?_
          refine r_get E (q := 46) fX6_41 0 wm_0 rfl dX6_hasRoom_43 rfl ?_
          refine r_iload_n E (q := 47) 1 dX6_hasRoom_46 rfl rfl rfl ?_
          refine r_iald E (q := 48) 11 wm_11 (by first | assumption | exact (h7 (by assumption)).1) dX6_hasRoom_47 rfl ?_
          refine r_iald E (q := 49) 14 wm_14 (by first | assumption | exact (h7 (by assumption)).1) dX6_hasRoom_48 rfl ?_
          refine r_aload_n E (q := 50) 0 dX6_hasRoom_49 rfl rfl rfl ?_
          refine r_get E (q := 53) fX6_50 0 wm_0 rfl dX6_hasRoom_50 rfl ?_
          refine r_iload_n E (q := 54) 1 dX6_hasRoom_53 rfl rfl rfl ?_
          refine r_iald E (q := 55) 14 wm_14 (by first | assumption | exact (h7 (by assumption)).1) dX6_hasRoom_54 rfl ?_
          refine rVi E (q := 58) cvX6_106 T.rr 0 wm_0 rfl [.int 9, .int (G 14 (ix (G 11 (ix x)))), .int (G 14 (ix x))] (c_X6_sizeOf 9 (G 14 (ix (G 11 (ix x)))) (G 14 (ix x)) (by first | exact fun _ => (h7 (by assumption)).2.1 | exact fun _ => (h7 (by assumption)).2.2) (by first | exact fun _ => (h7 (by assumption)).2.1 | exact fun _ => (h7 (by assumption)).2.2)) (by decide) rfl rfl (Nat.le_of_ble_eq_true rfl) ⟨(Nat.le_of_ble_eq_true rfl), (Nat.le_of_ble_eq_true rfl)⟩ dX6_hasRoom_55 rfl ?_
          refine r_bipush E (q := 60) (v := 30) dX6_hasRoom_58 (by decide) rfl ?_
          refine r_icmp_gt E (q := 63) 67 dX6_hasRoom_60 (by decide) rfl (fun c4 => ?_) (fun c4 => ?_)
          · refine r_iconst E (q := 68) (v := 0) dX6_hasRoom_67 (by decide) rfl ?_
            refine r_goto E 72 dX6_hasRoom_68 (by decide) ?_
            exact hj2 _ ((if_pos c2).trans ((if_neg c3).trans (if_pos c4))).symm
          · refine r_iconst E (q := 64) (v := 1) dX6_hasRoom_63 (by decide) rfl ?_
            refine r_goto E 72 dX6_hasRoom_64 (by decide) ?_
            exact hj2 _ ((if_pos c2).trans ((if_neg c3).trans (if_neg c4))).symm
  · refine r_icmp_gt E (q := 14) 18 dX6_hasRoom_11 (by decide) rfl (fun c1 => ?_) (fun c1 => ?_)
    · refine r_iconst E (q := 19) (v := 0) dX6_hasRoom_18 (by decide) rfl ?_
      exact hj1 _ (if_pos c1).symm
    · refine r_iconst E (q := 15) (v := 1) dX6_hasRoom_14 (by decide) rfl ?_
      refine r_goto E 19 dX6_hasRoom_15 (by decide) ?_
      exact hj1 _ (if_neg c1).symm
