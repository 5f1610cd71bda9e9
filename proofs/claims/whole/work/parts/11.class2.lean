def fX2_has (rule : Int32) : Int32 := if rule < 0 then 0 else (if 18 ≤ rule then 0 else 1)
theorem b_X2_has (rule : Int32) : fX2_has rule = 0 ∨ fX2_has rule = 1 := (b01 (Or.inl rfl) (b01 (Or.inl rfl) (Or.inr rfl)))
set_option maxRecDepth 100000 in
set_option maxHeartbeats 800000 in
theorem c_X2_has {l : Launch} {k : Kt} {ad : Nat → Nat} {G : Nat → Nat → Int32} {V : Nat → Int32} {n : Nat} (rule : Int32) : CT l k yX2_has cX2_has 2 (some .boolean) 0 [.ref (ad 27), .int rule] (WC k ad G V n) (eqI (fX2_has rule) (WC k ad G V n)) 0 0 := by
  refine ct_of (own := RX2) (lv0 := [(0, .ref (ad 27)), (1, .int rule)]) (by decide) rfl (Nat.le_of_ble_eq_true rfl) rfl ?_
  rintro z rfl rfl hz - E T
  refine r_iload_n E (q := 1) 1 dX2_has_0 rfl rfl rfl ?_
  refine r_join 15 (if rule < 0 then 0 else (if 18 ≤ rule then 0 else 1)) (rest := []) ?_ (fun hj1 => ?_)
  · exact r_zret E T (b01 (Or.inl rfl) (b01 (Or.inl rfl) (Or.inr rfl))) dX2_has_15 (eqI.mk (by unfold fX2_has; exact rfl) rfl)
  · refine r_if_lt E (q := 4) 14 dX2_has_1 (by decide) rfl (fun c1 => ?_) (fun c1 => ?_)
    · refine r_iconst E (q := 15) (v := 0) dX2_has_14 (by decide) rfl ?_
      exact hj1 _ (if_pos c1).symm
    · refine r_iload_n E (q := 5) 1 dX2_has_4 rfl rfl rfl ?_
      refine r_bipush E (q := 7) (v := 18) dX2_has_5 (by decide) rfl ?_
      refine r_icmp_ge E (q := 10) 14 dX2_has_7 (by decide) rfl (fun c2 => ?_) (fun c2 => ?_)
      · refine r_iconst E (q := 15) (v := 0) dX2_has_14 (by decide) rfl ?_
        exact hj1 _ ((if_neg c1).trans (if_pos c2)).symm
      · refine r_iconst E (q := 11) (v := 1) dX2_has_10 (by decide) rfl ?_
        refine r_goto E 15 dX2_has_11 (by decide) ?_
        exact hj1 _ ((if_neg c1).trans (if_neg c2)).symm
def fX2_isLikeJob (G : Nat → Nat → Int32) (x : Int32) (o : Int32) : Int32 := if G 13 (ix x) = G 13 (ix o) then (if G 16 (ix x) = G 16 (ix o) then (if G 17 (ix x) = G 17 (ix o) then 1 else 0) else 0) else 0
theorem b_X2_isLikeJob (G : Nat → Nat → Int32) (x : Int32) (o : Int32) : fX2_isLikeJob G x o = 0 ∨ fX2_isLikeJob G x o = 1 := (b01 (b01 (b01 (Or.inr rfl) (Or.inl rfl)) (Or.inl rfl)) (Or.inl rfl))
set_option maxRecDepth 100000 in
set_option maxHeartbeats 800000 in
theorem c_X2_isLikeJob {l : Launch} {k : Kt} {ad : Nat → Nat} {G : Nat → Nat → Int32} {V : Nat → Int32} {n : Nat} (x : Int32) (o : Int32) (hx : vp_in x 60) (ho : vp_in o 60) : CT l k yX2_isLikeJob cX2_isLikeJob 3 (some .boolean) 0 [.ref (ad 27), .int x, .int o] (WC k ad G V n) (eqI (fX2_isLikeJob G x o) (WC k ad G V n)) 0 0 := by
  refine ct_of (own := RX2) (lv0 := [(0, .ref (ad 27)), (1, .int x), (2, .int o)]) (by decide) rfl (Nat.le_of_ble_eq_true rfl) rfl ?_
  rintro z rfl rfl hz - E T
  refine r_aload_n E (q := 1) 0 dX2_isLikeJob_0 rfl rfl rfl ?_
  refine r_get E (q := 4) fX2_13 27 wc_27 rfl dX2_isLikeJob_1 rfl ?_
  refine r_get E (q := 7) fX2_17 12 wc_12 rfl dX2_isLikeJob_4 rfl ?_
  refine r_iload_n E (q := 8) 1 dX2_isLikeJob_7 rfl rfl rfl ?_
  refine r_iald E (q := 9) 13 wc_13 (by assumption) dX2_isLikeJob_8 rfl ?_
  refine r_aload_n E (q := 10) 0 dX2_isLikeJob_9 rfl rfl rfl ?_
  refine r_get E (q := 13) fX2_13 27 wc_27 rfl dX2_isLikeJob_10 rfl ?_
  refine r_get E (q := 16) fX2_17 12 wc_12 rfl dX2_isLikeJob_13 rfl ?_
  refine r_iload_n E (q := 17) 2 dX2_isLikeJob_16 rfl rfl rfl ?_
  refine r_iald E (q := 18) 13 wc_13 (by assumption) dX2_isLikeJob_17 rfl ?_
  refine r_join 68 (if G 13 (ix x) = G 13 (ix o) then (if G 16 (ix x) = G 16 (ix o) then (if G 17 (ix x) = G 17 (ix o) then 1 else 0) else 0) else 0) (rest := []) ?_ (fun hj1 => ?_)
  · exact r_zret E T (b01 (b01 (b01 (Or.inr rfl) (Or.inl rfl)) (Or.inl rfl)) (Or.inl rfl)) dX2_isLikeJob_68 (eqI.mk (by unfold fX2_isLikeJob; exact rfl) rfl)
  · refine r_icmp_ne E (q := 21) 67 dX2_isLikeJob_18 (by decide) rfl (fun c1 => ?_) (fun c1 => ?_)
    · refine r_iconst E (q := 68) (v := 0) dX2_isLikeJob_67 (by decide) rfl ?_
      exact hj1 _ (if_neg c1).symm
    · refine r_aload_n E (q := 22) 0 dX2_isLikeJob_21 rfl rfl rfl ?_
      refine r_get E (q := 25) fX2_13 27 wc_27 rfl dX2_isLikeJob_22 rfl ?_
      refine r_get E (q := 28) fX2_51 12 wc_12 rfl dX2_isLikeJob_25 rfl ?_
      refine r_iload_n E (q := 29) 1 dX2_isLikeJob_28 rfl rfl rfl ?_
      refine r_iald E (q := 30) 16 wc_16 (by assumption) dX2_isLikeJob_29 rfl ?_
      refine r_aload_n E (q := 31) 0 dX2_isLikeJob_30 rfl rfl rfl ?_
      refine r_get E (q := 34) fX2_13 27 wc_27 rfl dX2_isLikeJob_31 rfl ?_
      refine r_get E (q := 37) fX2_51 12 wc_12 rfl dX2_isLikeJob_34 rfl ?_
      refine r_iload_n E (q := 38) 2 dX2_isLikeJob_37 rfl rfl rfl ?_
      refine r_iald E (q := 39) 16 wc_16 (by assumption) dX2_isLikeJob_38 rfl ?_
      refine r_icmp_ne E (q := 42) 67 dX2_isLikeJob_39 (by decide) rfl (fun c2 => ?_) (fun c2 => ?_)
      · refine r_iconst E (q := 68) (v := 0) dX2_isLikeJob_67 (by decide) rfl ?_
        exact hj1 _ ((if_pos c1).trans (if_neg c2)).symm
      · refine r_aload_n E (q := 43) 0 dX2_isLikeJob_42 rfl rfl rfl ?_
        refine r_get E (q := 46) fX2_13 27 wc_27 rfl dX2_isLikeJob_43 rfl ?_
        refine r_get E (q := 49) fX2_32 12 wc_12 rfl dX2_isLikeJob_46 rfl ?_
        refine r_iload_n E (q := 50) 1 dX2_isLikeJob_49 rfl rfl rfl ?_
        refine r_iald E (q := 51) 17 wc_17 (by assumption) dX2_isLikeJob_50 rfl ?_
        refine r_aload_n E (q := 52) 0 dX2_isLikeJob_51 rfl rfl rfl ?_
        refine r_get E (q := 55) fX2_13 27 wc_27 rfl dX2_isLikeJob_52 rfl ?_
        refine r_get E (q := 58) fX2_32 12 wc_12 rfl dX2_isLikeJob_55 rfl ?_
        refine r_iload_n E (q := 59) 2 dX2_isLikeJob_58 rfl rfl rfl ?_
        refine r_iald E (q := 60) 17 wc_17 (by assumption) dX2_isLikeJob_59 rfl ?_
        refine r_icmp_ne E (q := 63) 67 dX2_isLikeJob_60 (by decide) rfl (fun c3 => ?_) (fun c3 => ?_)
        · refine r_iconst E (q := 68) (v := 0) dX2_isLikeJob_67 (by decide) rfl ?_
          exact hj1 _ ((if_pos c1).trans ((if_pos c2).trans (if_neg c3))).symm
        · refine r_iconst E (q := 64) (v := 1) dX2_isLikeJob_63 (by decide) rfl ?_
          refine r_goto E 68 dX2_isLikeJob_64 (by decide) ?_
          exact hj1 _ ((if_pos c1).trans ((if_pos c2).trans (if_pos c3))).symm
def fX2_suitsFilter (G : Nat → Nat → Int32) (rule : Int32) (g : Int32) (lower : Int32) : Int32 := if rule = 0 then (if fX5_isIn (G 16 (ix lower)) (G 10 (ix g)) = 0 then (if G 11 (ix (G 17 (ix lower))) = 0 then 1 else 0) else 0) else (if rule = 1 then (fX5_isWithin (G 10 (ix g)) (G 17 (ix lower))) else (if rule = 2 then (if (G 10 (ix g)) &&& (G 17 (ix lower)) = 0 then (if (if G 11 (ix g) = 0 then 1 else 0 : Int32) = 0 then 0 else 1) else 0) else (if rule = 3 then (if fX5_isWithin (G 10 (ix g)) (G 17 (ix lower)) = 0 then 0 else (if (if G 11 (ix g) = 0 then 1 else 0 : Int32) = 0 then 0 else 1)) else (if rule = 4 then (if (if G 11 (ix g) = 0 then 1 else 0 : Int32) = 0 then (if G 19 (ix (G 15 (ix lower))) = 0 then 1 else 0) else 1) else (if rule = 5 then (if fX5_isWithin (G 10 (ix g)) (1 <<< ((G 16 (ix lower)) &&& 31)) = 0 then 0 else (if (if G 11 (ix g) = 0 then 1 else 0 : Int32) = 0 then 0 else 1)) else (if rule = 6 then 1 else (if rule = 7 then (if (if G 11 (ix g) = 0 then 1 else 0 : Int32) = 0 then (if G 11 (ix (G 17 (ix lower))) = 0 then 1 else 0) else 1) else 1)))))))
theorem b_X2_suitsFilter (G : Nat → Nat → Int32) (rule : Int32) (g : Int32) (lower : Int32) : fX2_suitsFilter G rule g lower = 0 ∨ fX2_suitsFilter G rule g lower = 1 := (b01 (b01 (b01 (Or.inr rfl) (Or.inl rfl)) (Or.inl rfl)) (b01 (b_X5_isWithin _ _) (b01 (b01 (b01 (Or.inl rfl) (Or.inr rfl)) (Or.inl rfl)) (b01 (b01 (Or.inl rfl) (b01 (Or.inl rfl) (Or.inr rfl))) (b01 (b01 (b01 (Or.inr rfl) (Or.inl rfl)) (Or.inr rfl)) (b01 (b01 (Or.inl rfl) (b01 (Or.inl rfl) (Or.inr rfl))) (b01 (Or.inr rfl) (b01 (b01 (b01 (Or.inr rfl) (Or.inl rfl)) (Or.inr rfl)) (Or.inr rfl)))))))))
set_option maxRecDepth 100000 in
set_option maxHeartbeats 800000 in
theorem c_X2_suitsFilter {l : Launch} {k : Kt} {ad : Nat → Nat} {G : Nat → Nat → Int32} {V : Nat → Int32} {n : Nat} (rule : Int32) (g : Int32) (lower : Int32) (hg : vp_in g 40) (hl : vp_in lower 60) (h0 : rule = 0 → vp_in (G 17 (ix lower)) 40) (h4 : rule = 4 → vp_in (G 15 (ix lower)) 60) (h7 : rule = 7 → vp_in (G 17 (ix lower)) 40) : CT l k yX2_suitsFilter cX2_suitsFilter 8 (some .boolean) 1 [.ref (ad 27), .int rule, .int g, .int lower] (WC k ad G V n) (eqI (fX2_suitsFilter G rule g lower) (WC k ad G V n)) 0 0 := by
  refine ct_of (own := RX2) (lv0 := [(0, .ref (ad 27)), (1, .int rule), (2, .int g), (3, .int lower)]) (by decide) rfl (Nat.le_of_ble_eq_true rfl) rfl ?_
  rintro z rfl rfl hz - E T
  refine r_aload_n E (q := 1) 0 dX2_suitsFilter_0 rfl rfl rfl ?_
  refine r_get E (q := 4) fX2_7 27 wc_27 rfl dX2_suitsFilter_1 rfl ?_
  refine r_get E (q := 7) fX2_42 5 wc_5 rfl dX2_suitsFilter_4 rfl ?_
  refine r_iload_n E (q := 8) 2 dX2_suitsFilter_7 rfl rfl rfl ?_
  refine r_iald E (q := 9) 10 wc_10 (by first | assumption | exact h0 (by assumption) | exact h4 (by assumption) | exact h7 (by assumption)) dX2_suitsFilter_8 rfl ?_
  refine r_istore E (q := 11) (lv' := [(0, .ref (ad 27)), (1, .int rule), (2, .int g), (3, .int lower), (4, .int (G 10 (ix g)))]) [1, 2, 3, 4, 0] dX2_suitsFilter_9 (by rw [hz]; decide) rfl rfl ?_
  refine r_aload_n E (q := 12) 0 dX2_suitsFilter_11 rfl rfl rfl ?_
  refine r_get E (q := 15) fX2_7 27 wc_27 rfl dX2_suitsFilter_12 rfl ?_
  refine r_get E (q := 18) fX2_47 5 wc_5 rfl dX2_suitsFilter_15 rfl ?_
  refine r_iload_n E (q := 19) 2 dX2_suitsFilter_18 rfl rfl rfl ?_
  refine r_zald E (q := 20) 11 wc_11 (by first | assumption | exact h0 (by assumption) | exact h4 (by assumption) | exact h7 (by assumption)) dX2_suitsFilter_19 rfl ?_
  refine r_join 28 (if G 11 (ix g) = 0 then 1 else 0) (rest := []) ?_ (fun hj1 => ?_)
  · refine r_istore E (q := 30) (lv' := [(0, .ref (ad 27)), (1, .int rule), (2, .int g), (3, .int lower), (4, .int (G 10 (ix g))), (5, .int (if G 11 (ix g) = 0 then 1 else 0))]) [1, 2, 3, 4, 5, 0] dX2_suitsFilter_28 (by rw [hz]; decide) rfl rfl ?_
    refine r_aload_n E (q := 31) 0 dX2_suitsFilter_30 rfl rfl rfl ?_
    refine r_get E (q := 34) fX2_13 27 wc_27 rfl dX2_suitsFilter_31 rfl ?_
    refine r_get E (q := 37) fX2_51 12 wc_12 rfl dX2_suitsFilter_34 rfl ?_
    refine r_iload_n E (q := 38) 3 dX2_suitsFilter_37 rfl rfl rfl ?_
    refine r_iald E (q := 39) 16 wc_16 (by first | assumption | exact h0 (by assumption) | exact h4 (by assumption) | exact h7 (by assumption)) dX2_suitsFilter_38 rfl ?_
    refine r_istore E (q := 41) (lv' := [(0, .ref (ad 27)), (1, .int rule), (2, .int g), (3, .int lower), (4, .int (G 10 (ix g))), (5, .int (if G 11 (ix g) = 0 then 1 else 0)), (6, .int (G 16 (ix lower)))]) [1, 2, 3, 4, 5, 6, 0] dX2_suitsFilter_39 (by rw [hz]; decide) rfl rfl ?_
    refine r_aload_n E (q := 42) 0 dX2_suitsFilter_41 rfl rfl rfl ?_
    refine r_get E (q := 45) fX2_13 27 wc_27 rfl dX2_suitsFilter_42 rfl ?_
    refine r_get E (q := 48) fX2_32 12 wc_12 rfl dX2_suitsFilter_45 rfl ?_
    refine r_iload_n E (q := 49) 3 dX2_suitsFilter_48 rfl rfl rfl ?_
    refine r_iald E (q := 50) 17 wc_17 (by first | assumption | exact h0 (by assumption) | exact h4 (by assumption) | exact h7 (by assumption)) dX2_suitsFilter_49 rfl ?_
    refine r_istore E (q := 52) (lv' := [(0, .ref (ad 27)), (1, .int rule), (2, .int g), (3, .int lower), (4, .int (G 10 (ix g))), (5, .int (if G 11 (ix g) = 0 then 1 else 0)), (6, .int (G 16 (ix lower))), (7, .int (G 17 (ix lower)))]) [1, 2, 3, 4, 5, 6, 7, 0] dX2_suitsFilter_50 (by rw [hz]; decide) rfl rfl ?_
    refine r_iload_n E (q := 53) 1 dX2_suitsFilter_52 rfl rfl rfl ?_
    by_cases c2 : rule = 0
    · refine r_tabIn E 0 c2 100 dX2_suitsFilter_53 (by decide) (by rfl) (by decide) ?_
      refine r_iload E (q := 102) 6 dX2_suitsFilter_100 rfl rfl ?_
      refine r_iload E (q := 104) 4 dX2_suitsFilter_102 rfl rfl ?_
      refine rSNi E (q := 107) cnX2_54 T.rr [.int (G 16 (ix lower)), .int (G 10 (ix g))] (c_X5_isIn (G 16 (ix lower)) (G 10 (ix g))) (by decide) rfl rfl (Nat.le_of_ble_eq_true rfl) ⟨(Nat.le_of_ble_eq_true rfl), (Nat.le_of_ble_eq_true rfl)⟩ dX2_suitsFilter_104 rfl ?_
      refine r_join 128 (if fX5_isIn (G 16 (ix lower)) (G 10 (ix g)) = 0 then (if G 11 (ix (G 17 (ix lower))) = 0 then 1 else 0) else 0) (rest := []) ?_ (fun hj2 => ?_)
      · exact r_zret E T (b01 (b01 (Or.inr rfl) (Or.inl rfl)) (Or.inl rfl)) dX2_suitsFilter_128 (eqI.mk (by unfold fX2_suitsFilter; exact (if_pos c2).symm) rfl)
      · refine r_if_ne E (q := 110) 127 dX2_suitsFilter_107 (by decide) rfl (fun c3 => ?_) (fun c3 => ?_)
        · refine r_iconst E (q := 128) (v := 0) dX2_suitsFilter_127 (by decide) rfl ?_
          exact hj2 _ (if_neg c3).symm
        · refine r_aload_n E (q := 111) 0 dX2_suitsFilter_110 rfl rfl rfl ?_
          refine r_get E (q := 114) fX2_7 27 wc_27 rfl dX2_suitsFilter_111 rfl ?_
          refine r_get E (q := 117) fX2_47 5 wc_5 rfl dX2_suitsFilter_114 rfl ?_
          refine r_iload E (q := 119) 7 dX2_suitsFilter_117 rfl rfl ?_
          refine r_zald E (q := 120) 11 wc_11 (by first | assumption | exact h0 (by assumption) | exact h4 (by assumption) | exact h7 (by assumption)) dX2_suitsFilter_119 rfl ?_
          refine r_if_ne E (q := 123) 127 dX2_suitsFilter_120 (by decide) rfl (fun c4 => ?_) (fun c4 => ?_)
          · refine r_iconst E (q := 128) (v := 0) dX2_suitsFilter_127 (by decide) rfl ?_
            exact hj2 _ ((if_pos c3).trans (if_neg c4)).symm
          · refine r_iconst E (q := 124) (v := 1) dX2_suitsFilter_123 (by decide) rfl ?_
            refine r_goto E 128 dX2_suitsFilter_124 (by decide) ?_
            exact hj2 _ ((if_pos c3).trans (if_pos c4)).symm
    · by_cases c5 : rule = 1
      · refine r_tabIn E 1 c5 129 dX2_suitsFilter_53 (by decide) (by rfl) (by decide) ?_
        refine r_iload E (q := 131) 4 dX2_suitsFilter_129 rfl rfl ?_
        refine r_iload E (q := 133) 7 dX2_suitsFilter_131 rfl rfl ?_
        refine rSNi E (q := 136) cnX2_60 T.rr [.int (G 10 (ix g)), .int (G 17 (ix lower))] (c_X5_isWithin (G 10 (ix g)) (G 17 (ix lower))) (by decide) rfl rfl (Nat.le_of_ble_eq_true rfl) ⟨(Nat.le_of_ble_eq_true rfl), (Nat.le_of_ble_eq_true rfl)⟩ dX2_suitsFilter_133 rfl ?_
        exact r_zret E T (b_X5_isWithin _ _) dX2_suitsFilter_136 (eqI.mk (by unfold fX2_suitsFilter; exact ((if_neg c2).trans (if_pos c5)).symm) rfl)
      · by_cases c6 : rule = 2
        · refine r_tabIn E 2 c6 137 dX2_suitsFilter_53 (by decide) (by rfl) (by decide) ?_
          refine r_iload E (q := 139) 4 dX2_suitsFilter_137 rfl rfl ?_
          refine r_iload E (q := 141) 7 dX2_suitsFilter_139 rfl rfl ?_
          refine r_iand E (q := 142) dX2_suitsFilter_141 rfl ?_
          refine r_join 155 (if (G 10 (ix g)) &&& (G 17 (ix lower)) = 0 then (if (if G 11 (ix g) = 0 then 1 else 0 : Int32) = 0 then 0 else 1) else 0) (rest := []) ?_ (fun hj3 => ?_)
          · exact r_zret E T (b01 (b01 (Or.inl rfl) (Or.inr rfl)) (Or.inl rfl)) dX2_suitsFilter_155 (eqI.mk (by unfold fX2_suitsFilter; exact ((if_neg c2).trans ((if_neg c5).trans (if_pos c6))).symm) rfl)
          · refine r_if_ne E (q := 145) 154 dX2_suitsFilter_142 (by decide) rfl (fun c7 => ?_) (fun c7 => ?_)
            · refine r_iconst E (q := 155) (v := 0) dX2_suitsFilter_154 (by decide) rfl ?_
              exact hj3 _ (if_neg c7).symm
            · refine r_iload E (q := 147) 5 dX2_suitsFilter_145 rfl rfl ?_
              refine r_if_eq E (q := 150) 154 dX2_suitsFilter_147 (by decide) rfl (fun c8 => ?_) (fun c8 => ?_)
              · refine r_iconst E (q := 155) (v := 0) dX2_suitsFilter_154 (by decide) rfl ?_
                exact hj3 _ ((if_pos c7).trans (if_pos c8)).symm
              · refine r_iconst E (q := 151) (v := 1) dX2_suitsFilter_150 (by decide) rfl ?_
                refine r_goto E 155 dX2_suitsFilter_151 (by decide) ?_
                exact hj3 _ ((if_pos c7).trans (if_neg c8)).symm
        · by_cases c9 : rule = 3
          · refine r_tabIn E 3 c9 156 dX2_suitsFilter_53 (by decide) (by rfl) (by decide) ?_
            refine r_iload E (q := 158) 4 dX2_suitsFilter_156 rfl rfl ?_
            refine r_iload E (q := 160) 7 dX2_suitsFilter_158 rfl rfl ?_
            refine rSNi E (q := 163) cnX2_60 T.rr [.int (G 10 (ix g)), .int (G 17 (ix lower))] (c_X5_isWithin (G 10 (ix g)) (G 17 (ix lower))) (by decide) rfl rfl (Nat.le_of_ble_eq_true rfl) ⟨(Nat.le_of_ble_eq_true rfl), (Nat.le_of_ble_eq_true rfl)⟩ dX2_suitsFilter_160 rfl ?_
            refine r_join 176 (if fX5_isWithin (G 10 (ix g)) (G 17 (ix lower)) = 0 then 0 else (if (if G 11 (ix g) = 0 then 1 else 0 : Int32) = 0 then 0 else 1)) (rest := []) ?_ (fun hj4 => ?_)
            · exact r_zret E T (b01 (Or.inl rfl) (b01 (Or.inl rfl) (Or.inr rfl))) dX2_suitsFilter_176 (eqI.mk (by unfold fX2_suitsFilter; exact ((if_neg c2).trans ((if_neg c5).trans ((if_neg c6).trans (if_pos c9)))).symm) rfl)
            · refine r_if_eq E (q := 166) 175 dX2_suitsFilter_163 (by decide) rfl (fun c10 => ?_) (fun c10 => ?_)
              · refine r_iconst E (q := 176) (v := 0) dX2_suitsFilter_175 (by decide) rfl ?_
                exact hj4 _ (if_pos c10).symm
              · refine r_iload E (q := 168) 5 dX2_suitsFilter_166 rfl rfl ?_
                refine r_if_eq E (q := 171) 175 dX2_suitsFilter_168 (by decide) rfl (fun c11 => ?_) (fun c11 => ?_)
                · refine r_iconst E (q := 176) (v := 0) dX2_suitsFilter_175 (by decide) rfl ?_
                  exact hj4 _ ((if_neg c10).trans (if_pos c11)).symm
                · refine r_iconst E (q := 172) (v := 1) dX2_suitsFilter_171 (by decide) rfl ?_
                  refine r_goto E 176 dX2_suitsFilter_172 (by decide) ?_
                  exact hj4 _ ((if_neg c10).trans (if_neg c11)).symm
          · by_cases c12 : rule = 4
            · refine r_tabIn E 4 c12 177 dX2_suitsFilter_53 (by decide) (by rfl) (by decide) ?_
              refine r_iload E (q := 179) 5 dX2_suitsFilter_177 rfl rfl ?_
              refine r_join 207 (if (if G 11 (ix g) = 0 then 1 else 0 : Int32) = 0 then (if G 19 (ix (G 15 (ix lower))) = 0 then 1 else 0) else 1) (rest := []) ?_ (fun hj5 => ?_)
              · exact r_zret E T (b01 (b01 (Or.inr rfl) (Or.inl rfl)) (Or.inr rfl)) dX2_suitsFilter_207 (eqI.mk (by unfold fX2_suitsFilter; exact ((if_neg c2).trans ((if_neg c5).trans ((if_neg c6).trans ((if_neg c9).trans (if_pos c12))))).symm) rfl)
              · refine r_if_ne E (q := 182) 202 dX2_suitsFilter_179 (by decide) rfl (fun c13 => ?_) (fun c13 => ?_)
                · refine r_iconst E (q := 203) (v := 1) dX2_suitsFilter_202 (by decide) rfl ?_
                  refine r_goto E 207 dX2_suitsFilter_203 (by decide) ?_
                  exact hj5 _ (if_neg c13).symm
                · refine r_aload_n E (q := 183) 0 dX2_suitsFilter_182 rfl rfl rfl ?_
                  refine r_get E (q := 186) fX2_13 27 wc_27 rfl dX2_suitsFilter_183 rfl ?_
                  refine r_get E (q := 189) fX2_63 12 wc_12 rfl dX2_suitsFilter_186 rfl ?_
                  refine r_aload_n E (q := 190) 0 dX2_suitsFilter_189 rfl rfl rfl ?_
                  refine r_get E (q := 193) fX2_13 27 wc_27 rfl dX2_suitsFilter_190 rfl ?_
                  refine r_get E (q := 196) fX2_64 12 wc_12 rfl dX2_suitsFilter_193 rfl ?_
                  refine r_iload_n E (q := 197) 3 dX2_suitsFilter_196 rfl rfl rfl ?_
                  refine r_iald E (q := 198) 15 wc_15 (by first | assumption | exact h0 (by assumption) | exact h4 (by assumption) | exact h7 (by assumption)) dX2_suitsFilter_197 rfl ?_
                  refine r_zald E (q := 199) 19 wc_19 (by first | assumption | exact h0 (by assumption) | exact h4 (by assumption) | exact h7 (by assumption)) dX2_suitsFilter_198 rfl ?_
                  refine r_if_ne E (q := 202) 206 dX2_suitsFilter_199 (by decide) rfl (fun c14 => ?_) (fun c14 => ?_)
                  · refine r_iconst E (q := 207) (v := 0) dX2_suitsFilter_206 (by decide) rfl ?_
                    exact hj5 _ ((if_pos c13).trans (if_neg c14)).symm
                  · refine r_iconst E (q := 203) (v := 1) dX2_suitsFilter_202 (by decide) rfl ?_
                    refine r_goto E 207 dX2_suitsFilter_203 (by decide) ?_
                    exact hj5 _ ((if_pos c13).trans (if_pos c14)).symm
            · by_cases c15 : rule = 5
              · refine r_tabIn E 5 c15 208 dX2_suitsFilter_53 (by decide) (by rfl) (by decide) ?_
                refine r_iload E (q := 210) 4 dX2_suitsFilter_208 rfl rfl ?_
                refine r_iconst E (q := 211) (v := 1) dX2_suitsFilter_210 (by decide) rfl ?_
                refine r_iload E (q := 213) 6 dX2_suitsFilter_211 rfl rfl ?_
                refine r_ishl E (q := 214) dX2_suitsFilter_213 rfl ?_
                refine rSNi E (q := 217) cnX2_60 T.rr [.int (G 10 (ix g)), .int (1 <<< ((G 16 (ix lower)) &&& 31))] (c_X5_isWithin (G 10 (ix g)) (1 <<< ((G 16 (ix lower)) &&& 31))) (by decide) rfl rfl (Nat.le_of_ble_eq_true rfl) ⟨(Nat.le_of_ble_eq_true rfl), (Nat.le_of_ble_eq_true rfl)⟩ dX2_suitsFilter_214 rfl ?_
                refine r_join 230 (if fX5_isWithin (G 10 (ix g)) (1 <<< ((G 16 (ix lower)) &&& 31)) = 0 then 0 else (if (if G 11 (ix g) = 0 then 1 else 0 : Int32) = 0 then 0 else 1)) (rest := []) ?_ (fun hj6 => ?_)
                · exact r_zret E T (b01 (Or.inl rfl) (b01 (Or.inl rfl) (Or.inr rfl))) dX2_suitsFilter_230 (eqI.mk (by unfold fX2_suitsFilter; exact ((if_neg c2).trans ((if_neg c5).trans ((if_neg c6).trans ((if_neg c9).trans ((if_neg c12).trans (if_pos c15)))))).symm) rfl)
                · refine r_if_eq E (q := 220) 229 dX2_suitsFilter_217 (by decide) rfl (fun c16 => ?_) (fun c16 => ?_)
                  · refine r_iconst E (q := 230) (v := 0) dX2_suitsFilter_229 (by decide) rfl ?_
                    exact hj6 _ (if_pos c16).symm
                  · refine r_iload E (q := 222) 5 dX2_suitsFilter_220 rfl rfl ?_
                    refine r_if_eq E (q := 225) 229 dX2_suitsFilter_222 (by decide) rfl (fun c17 => ?_) (fun c17 => ?_)
                    · refine r_iconst E (q := 230) (v := 0) dX2_suitsFilter_229 (by decide) rfl ?_
                      exact hj6 _ ((if_neg c16).trans (if_pos c17)).symm
                    · refine r_iconst E (q := 226) (v := 1) dX2_suitsFilter_225 (by decide) rfl ?_
                      refine r_goto E 230 dX2_suitsFilter_226 (by decide) ?_
                      exact hj6 _ ((if_neg c16).trans (if_neg c17)).symm
              · by_cases c18 : rule = 6
                · refine r_tabIn E 6 c18 255 dX2_suitsFilter_53 (by decide) (by rfl) (by decide) ?_
                  refine r_iconst E (q := 256) (v := 1) dX2_suitsFilter_255 (by decide) rfl ?_
                  exact r_zret E T (Or.inr rfl) dX2_suitsFilter_256 (eqI.mk (by unfold fX2_suitsFilter; exact ((if_neg c2).trans ((if_neg c5).trans ((if_neg c6).trans ((if_neg c9).trans ((if_neg c12).trans ((if_neg c15).trans (if_pos c18))))))).symm) rfl)
                · by_cases c19 : rule = 7
                  · refine r_tabIn E 7 c19 231 dX2_suitsFilter_53 (by decide) (by rfl) (by decide) ?_
                    refine r_iload E (q := 233) 5 dX2_suitsFilter_231 rfl rfl ?_
                    refine r_join 254 (if (if G 11 (ix g) = 0 then 1 else 0 : Int32) = 0 then (if G 11 (ix (G 17 (ix lower))) = 0 then 1 else 0) else 1) (rest := []) ?_ (fun hj7 => ?_)
                    · exact r_zret E T (b01 (b01 (Or.inr rfl) (Or.inl rfl)) (Or.inr rfl)) dX2_suitsFilter_254 (eqI.mk (by unfold fX2_suitsFilter; exact ((if_neg c2).trans ((if_neg c5).trans ((if_neg c6).trans ((if_neg c9).trans ((if_neg c12).trans ((if_neg c15).trans ((if_neg c18).trans (if_pos c19)))))))).symm) rfl)
                    · refine r_if_ne E (q := 236) 249 dX2_suitsFilter_233 (by decide) rfl (fun c20 => ?_) (fun c20 => ?_)
                      · refine r_iconst E (q := 250) (v := 1) dX2_suitsFilter_249 (by decide) rfl ?_
                        refine r_goto E 254 dX2_suitsFilter_250 (by decide) ?_
                        exact hj7 _ (if_neg c20).symm
                      · refine r_aload_n E (q := 237) 0 dX2_suitsFilter_236 rfl rfl rfl ?_
                        refine r_get E (q := 240) fX2_7 27 wc_27 rfl dX2_suitsFilter_237 rfl ?_
                        refine r_get E (q := 243) fX2_47 5 wc_5 rfl dX2_suitsFilter_240 rfl ?_
                        refine r_iload E (q := 245) 7 dX2_suitsFilter_243 rfl rfl ?_
                        refine r_zald E (q := 246) 11 wc_11 (by first | assumption | exact h0 (by assumption) | exact h4 (by assumption) | exact h7 (by assumption)) dX2_suitsFilter_245 rfl ?_
                        refine r_if_ne E (q := 249) 253 dX2_suitsFilter_246 (by decide) rfl (fun c21 => ?_) (fun c21 => ?_)
                        · refine r_iconst E (q := 254) (v := 0) dX2_suitsFilter_253 (by decide) rfl ?_
                          exact hj7 _ ((if_pos c20).trans (if_neg c21)).symm
                        · refine r_iconst E (q := 250) (v := 1) dX2_suitsFilter_249 (by decide) rfl ?_
                          refine r_goto E 254 dX2_suitsFilter_250 (by decide) ?_
                          exact hj7 _ ((if_pos c20).trans (if_pos c21)).symm
                  · refine r_tabOut E 255 dX2_suitsFilter_53 (sw_out (fun j hj e => by match j with | 0 => exact c2 (e.trans (by decide)) | 1 => exact c5 (e.trans (by decide)) | 2 => exact c6 (e.trans (by decide)) | 3 => exact c9 (e.trans (by decide)) | 4 => exact c12 (e.trans (by decide)) | 5 => exact c15 (e.trans (by decide)) | 6 => exact c18 (e.trans (by decide)) | 7 => exact c19 (e.trans (by decide)) | j + 8 => omega)) (by decide) ?_
                    refine r_iconst E (q := 256) (v := 1) dX2_suitsFilter_255 (by decide) rfl ?_
                    exact r_zret E T (Or.inr rfl) dX2_suitsFilter_256 (eqI.mk (by unfold fX2_suitsFilter; exact ((if_neg c2).trans ((if_neg c5).trans ((if_neg c6).trans ((if_neg c9).trans ((if_neg c12).trans ((if_neg c15).trans ((if_neg c18).trans (if_neg c19)))))))).symm) rfl)
  · refine r_if_ne E (q := 23) 27 dX2_suitsFilter_20 (by decide) rfl (fun c1 => ?_) (fun c1 => ?_)
    · refine r_iconst E (q := 28) (v := 0) dX2_suitsFilter_27 (by decide) rfl ?_
      exact hj1 _ (if_neg c1).symm
    · refine r_iconst E (q := 24) (v := 1) dX2_suitsFilter_23 (by decide) rfl ?_
      refine r_goto E 28 dX2_suitsFilter_24 (by decide) ?_
      exact hj1 _ (if_pos c1).symm
def fX2_suitsOther (G : Nat → Nat → Int32) (rule : Int32) (x : Int32) (lower : Int32) : Int32 := if rule = 8 then (if G 16 (ix lower) = G 16 (ix x) then (if fX5_isIn (G 16 (ix x)) (G 10 (ix (G 17 (ix x)))) = 0 then (if G 11 (ix (G 17 (ix lower))) = 0 then 1 else 0) else 0) else 0) else (if rule = 9 then 1 else (if rule = 10 then (if fX5_isIn (G 16 (ix lower)) (G 17 (ix x)) = 0 then (if G 11 (ix (G 17 (ix lower))) = 0 then 1 else 0) else 0) else (if rule = 11 then 1 else (if rule = 12 then (if fX2_isLikeJob G x (G 14 (ix lower)) = 0 then 1 else (if fX2_isLikeJob G x (G 15 (ix lower)) = 0 then 1 else 0)) else (if rule = 13 then (if fX5_isIn (G 16 (ix x)) (G 17 (ix lower)) = 0 then 0 else (if fX5_isIn (G 17 (ix x)) (G 17 (ix lower)) = 0 then 0 else 1)) else (if rule = 14 then 1 else (if rule = 15 then 1 else (if rule = 16 then (if fX2_isLikeJob G x (G 14 (ix lower)) = 0 then 1 else (if fX2_isLikeJob G x (G 15 (ix lower)) = 0 then 1 else 0)) else (if rule = 17 then (if G 11 (ix (G 17 (ix lower))) = 0 then 1 else 0) else 1)))))))))
theorem b_X2_suitsOther (G : Nat → Nat → Int32) (rule : Int32) (x : Int32) (lower : Int32) : fX2_suitsOther G rule x lower = 0 ∨ fX2_suitsOther G rule x lower = 1 := (b01 (b01 (b01 (b01 (Or.inr rfl) (Or.inl rfl)) (Or.inl rfl)) (Or.inl rfl)) (b01 (Or.inr rfl) (b01 (b01 (b01 (Or.inr rfl) (Or.inl rfl)) (Or.inl rfl)) (b01 (Or.inr rfl) (b01 (b01 (Or.inr rfl) (b01 (Or.inr rfl) (Or.inl rfl))) (b01 (b01 (Or.inl rfl) (b01 (Or.inl rfl) (Or.inr rfl))) (b01 (Or.inr rfl) (b01 (Or.inr rfl) (b01 (b01 (Or.inr rfl) (b01 (Or.inr rfl) (Or.inl rfl))) (b01 (b01 (Or.inr rfl) (Or.inl rfl)) (Or.inr rfl)))))))))))
set_option maxRecDepth 100000 in
set_option maxHeartbeats 800000 in
theorem c_X2_suitsOther {l : Launch} {k : Kt} {ad : Nat → Nat} {G : Nat → Nat → Int32} {V : Nat → Int32} {n : Nat} (rule : Int32) (x : Int32) (lower : Int32) (hx : vp_in x 60) (hl : vp_in lower 60) (h8 : rule = 8 → vp_in (G 17 (ix x)) 40 ∧ vp_in (G 17 (ix lower)) 40) (h10 : rule = 10 ∨ rule = 17 → vp_in (G 17 (ix lower)) 40) (h12 : rule = 12 ∨ rule = 16 → vp_in (G 14 (ix lower)) 60 ∧ vp_in (G 15 (ix lower)) 60) : CT l k yX2_suitsOther cX2_suitsOther 8 (some .boolean) 1 [.ref (ad 27), .int rule, .int x, .int lower] (WC k ad G V n) (eqI (fX2_suitsOther G rule x lower) (WC k ad G V n)) 0 0 := by
  refine ct_of (own := RX2) (lv0 := [(0, .ref (ad 27)), (1, .int rule), (2, .int x), (3, .int lower)]) (by decide) rfl (Nat.le_of_ble_eq_true rfl) rfl ?_
  rintro z rfl rfl hz - E T
  refine r_aload_n E (q := 1) 0 dX2_suitsOther_0 rfl rfl rfl ?_
  refine r_get E (q := 4) fX2_13 27 wc_27 rfl dX2_suitsOther_1 rfl ?_
  refine r_get E (q := 7) fX2_51 12 wc_12 rfl dX2_suitsOther_4 rfl ?_
  refine r_iload_n E (q := 8) 2 dX2_suitsOther_7 rfl rfl rfl ?_
  refine r_iald E (q := 9) 16 wc_16 (by first | assumption | exact (h8 (by assumption)).1 | exact (h8 (by assumption)).2 | exact h10 (Or.inl (by assumption)) | exact h10 (Or.inr (by assumption)) | exact (h12 (Or.inl (by assumption))).1 | exact (h12 (Or.inr (by assumption))).1 | exact (h12 (Or.inl (by assumption))).2 | exact (h12 (Or.inr (by assumption))).2) dX2_suitsOther_8 rfl ?_
  refine r_istore E (q := 11) (lv' := [(0, .ref (ad 27)), (1, .int rule), (2, .int x), (3, .int lower), (4, .int (G 16 (ix x)))]) [1, 2, 3, 4, 0] dX2_suitsOther_9 (by rw [hz]; decide) rfl rfl ?_
  refine r_aload_n E (q := 12) 0 dX2_suitsOther_11 rfl rfl rfl ?_
  refine r_get E (q := 15) fX2_13 27 wc_27 rfl dX2_suitsOther_12 rfl ?_
  refine r_get E (q := 18) fX2_32 12 wc_12 rfl dX2_suitsOther_15 rfl ?_
  refine r_iload_n E (q := 19) 2 dX2_suitsOther_18 rfl rfl rfl ?_
  refine r_iald E (q := 20) 17 wc_17 (by first | assumption | exact (h8 (by assumption)).1 | exact (h8 (by assumption)).2 | exact h10 (Or.inl (by assumption)) | exact h10 (Or.inr (by assumption)) | exact (h12 (Or.inl (by assumption))).1 | exact (h12 (Or.inr (by assumption))).1 | exact (h12 (Or.inl (by assumption))).2 | exact (h12 (Or.inr (by assumption))).2) dX2_suitsOther_19 rfl ?_
  refine r_istore E (q := 22) (lv' := [(0, .ref (ad 27)), (1, .int rule), (2, .int x), (3, .int lower), (4, .int (G 16 (ix x))), (5, .int (G 17 (ix x)))]) [1, 2, 3, 4, 5, 0] dX2_suitsOther_20 (by rw [hz]; decide) rfl rfl ?_
  refine r_aload_n E (q := 23) 0 dX2_suitsOther_22 rfl rfl rfl ?_
  refine r_get E (q := 26) fX2_13 27 wc_27 rfl dX2_suitsOther_23 rfl ?_
  refine r_get E (q := 29) fX2_51 12 wc_12 rfl dX2_suitsOther_26 rfl ?_
  refine r_iload_n E (q := 30) 3 dX2_suitsOther_29 rfl rfl rfl ?_
  refine r_iald E (q := 31) 16 wc_16 (by first | assumption | exact (h8 (by assumption)).1 | exact (h8 (by assumption)).2 | exact h10 (Or.inl (by assumption)) | exact h10 (Or.inr (by assumption)) | exact (h12 (Or.inl (by assumption))).1 | exact (h12 (Or.inr (by assumption))).1 | exact (h12 (Or.inl (by assumption))).2 | exact (h12 (Or.inr (by assumption))).2) dX2_suitsOther_30 rfl ?_
  refine r_istore E (q := 33) (lv' := [(0, .ref (ad 27)), (1, .int rule), (2, .int x), (3, .int lower), (4, .int (G 16 (ix x))), (5, .int (G 17 (ix x))), (6, .int (G 16 (ix lower)))]) [1, 2, 3, 4, 5, 6, 0] dX2_suitsOther_31 (by rw [hz]; decide) rfl rfl ?_
  refine r_aload_n E (q := 34) 0 dX2_suitsOther_33 rfl rfl rfl ?_
  refine r_get E (q := 37) fX2_13 27 wc_27 rfl dX2_suitsOther_34 rfl ?_
  refine r_get E (q := 40) fX2_32 12 wc_12 rfl dX2_suitsOther_37 rfl ?_
  refine r_iload_n E (q := 41) 3 dX2_suitsOther_40 rfl rfl rfl ?_
  refine r_iald E (q := 42) 17 wc_17 (by first | assumption | exact (h8 (by assumption)).1 | exact (h8 (by assumption)).2 | exact h10 (Or.inl (by assumption)) | exact h10 (Or.inr (by assumption)) | exact (h12 (Or.inl (by assumption))).1 | exact (h12 (Or.inr (by assumption))).1 | exact (h12 (Or.inl (by assumption))).2 | exact (h12 (Or.inr (by assumption))).2) dX2_suitsOther_41 rfl ?_
  refine r_istore E (q := 44) (lv' := [(0, .ref (ad 27)), (1, .int rule), (2, .int x), (3, .int lower), (4, .int (G 16 (ix x))), (5, .int (G 17 (ix x))), (6, .int (G 16 (ix lower))), (7, .int (G 17 (ix lower)))]) [1, 2, 3, 4, 5, 6, 7, 0] dX2_suitsOther_42 (by rw [hz]; decide) rfl rfl ?_
  refine r_iload_n E (q := 45) 1 dX2_suitsOther_44 rfl rfl rfl ?_
  by_cases c1 : rule = 8
  · refine r_tabIn E 8 c1 100 dX2_suitsOther_45 (by decide) (by rfl) (by decide) ?_
    refine r_iload E (q := 102) 6 dX2_suitsOther_100 rfl rfl ?_
    refine r_iload E (q := 104) 4 dX2_suitsOther_102 rfl rfl ?_
    refine r_join 143 (if G 16 (ix lower) = G 16 (ix x) then (if fX5_isIn (G 16 (ix x)) (G 10 (ix (G 17 (ix x)))) = 0 then (if G 11 (ix (G 17 (ix lower))) = 0 then 1 else 0) else 0) else 0) (rest := []) ?_ (fun hj1 => ?_)
    · exact r_zret E T (b01 (b01 (b01 (Or.inr rfl) (Or.inl rfl)) (Or.inl rfl)) (Or.inl rfl)) dX2_suitsOther_143 (eqI.mk (by unfold fX2_suitsOther; exact (if_pos c1).symm) rfl)
    · refine r_icmp_ne E (q := 107) 142 dX2_suitsOther_104 (by decide) rfl (fun c2 => ?_) (fun c2 => ?_)
      · refine r_iconst E (q := 143) (v := 0) dX2_suitsOther_142 (by decide) rfl ?_
        exact hj1 _ (if_neg c2).symm
      · refine r_iload E (q := 109) 4 dX2_suitsOther_107 rfl rfl ?_
        refine r_aload_n E (q := 110) 0 dX2_suitsOther_109 rfl rfl rfl ?_
        refine r_get E (q := 113) fX2_7 27 wc_27 rfl dX2_suitsOther_110 rfl ?_
        refine r_get E (q := 116) fX2_42 5 wc_5 rfl dX2_suitsOther_113 rfl ?_
        refine r_iload E (q := 118) 5 dX2_suitsOther_116 rfl rfl ?_
        refine r_iald E (q := 119) 10 wc_10 (by first | assumption | exact (h8 (by assumption)).1 | exact (h8 (by assumption)).2 | exact h10 (Or.inl (by assumption)) | exact h10 (Or.inr (by assumption)) | exact (h12 (Or.inl (by assumption))).1 | exact (h12 (Or.inr (by assumption))).1 | exact (h12 (Or.inl (by assumption))).2 | exact (h12 (Or.inr (by assumption))).2) dX2_suitsOther_118 rfl ?_
        refine rSNi E (q := 122) cnX2_54 T.rr [.int (G 16 (ix x)), .int (G 10 (ix (G 17 (ix x))))] (c_X5_isIn (G 16 (ix x)) (G 10 (ix (G 17 (ix x))))) (by decide) rfl rfl (Nat.le_of_ble_eq_true rfl) ⟨(Nat.le_of_ble_eq_true rfl), (Nat.le_of_ble_eq_true rfl)⟩ dX2_suitsOther_119 rfl ?_
        refine r_if_ne E (q := 125) 142 dX2_suitsOther_122 (by decide) rfl (fun c3 => ?_) (fun c3 => ?_)
        · refine r_iconst E (q := 143) (v := 0) dX2_suitsOther_142 (by decide) rfl ?_
          exact hj1 _ ((if_pos c2).trans (if_neg c3)).symm
        · refine r_aload_n E (q := 126) 0 dX2_suitsOther_125 rfl rfl rfl ?_
          refine r_get E (q := 129) fX2_7 27 wc_27 rfl dX2_suitsOther_126 rfl ?_
          refine r_get E (q := 132) fX2_47 5 wc_5 rfl dX2_suitsOther_129 rfl ?_
          refine r_iload E (q := 134) 7 dX2_suitsOther_132 rfl rfl ?_
          refine r_zald E (q := 135) 11 wc_11 (by first | assumption | exact (h8 (by assumption)).1 | exact (h8 (by assumption)).2 | exact h10 (Or.inl (by assumption)) | exact h10 (Or.inr (by assumption)) | exact (h12 (Or.inl (by assumption))).1 | exact (h12 (Or.inr (by assumption))).1 | exact (h12 (Or.inl (by assumption))).2 | exact (h12 (Or.inr (by assumption))).2) dX2_suitsOther_134 rfl ?_
          refine r_if_ne E (q := 138) 142 dX2_suitsOther_135 (by decide) rfl (fun c4 => ?_) (fun c4 => ?_)
          · refine r_iconst E (q := 143) (v := 0) dX2_suitsOther_142 (by decide) rfl ?_
            exact hj1 _ ((if_pos c2).trans ((if_pos c3).trans (if_neg c4))).symm
          · refine r_iconst E (q := 139) (v := 1) dX2_suitsOther_138 (by decide) rfl ?_
            refine r_goto E 143 dX2_suitsOther_139 (by decide) ?_
            exact hj1 _ ((if_pos c2).trans ((if_pos c3).trans (if_pos c4))).symm
  · by_cases c5 : rule = 9
    · refine r_tabIn E 9 c5 258 dX2_suitsOther_45 (by decide) (by rfl) (by decide) ?_
      refine r_iconst E (q := 259) (v := 1) dX2_suitsOther_258 (by decide) rfl ?_
      exact r_zret E T (Or.inr rfl) dX2_suitsOther_259 (eqI.mk (by unfold fX2_suitsOther; exact ((if_neg c1).trans (if_pos c5)).symm) rfl)
    · by_cases c6 : rule = 10
      · refine r_tabIn E 10 c6 144 dX2_suitsOther_45 (by decide) (by rfl) (by decide) ?_
        refine r_iload E (q := 146) 6 dX2_suitsOther_144 rfl rfl ?_
        refine r_iload E (q := 148) 5 dX2_suitsOther_146 rfl rfl ?_
        refine rSNi E (q := 151) cnX2_54 T.rr [.int (G 16 (ix lower)), .int (G 17 (ix x))] (c_X5_isIn (G 16 (ix lower)) (G 17 (ix x))) (by decide) rfl rfl (Nat.le_of_ble_eq_true rfl) ⟨(Nat.le_of_ble_eq_true rfl), (Nat.le_of_ble_eq_true rfl)⟩ dX2_suitsOther_148 rfl ?_
        refine r_join 172 (if fX5_isIn (G 16 (ix lower)) (G 17 (ix x)) = 0 then (if G 11 (ix (G 17 (ix lower))) = 0 then 1 else 0) else 0) (rest := []) ?_ (fun hj2 => ?_)
        · exact r_zret E T (b01 (b01 (Or.inr rfl) (Or.inl rfl)) (Or.inl rfl)) dX2_suitsOther_172 (eqI.mk (by unfold fX2_suitsOther; exact ((if_neg c1).trans ((if_neg c5).trans (if_pos c6))).symm) rfl)
        · refine r_if_ne E (q := 154) 171 dX2_suitsOther_151 (by decide) rfl (fun c7 => ?_) (fun c7 => ?_)
          · refine r_iconst E (q := 172) (v := 0) dX2_suitsOther_171 (by decide) rfl ?_
            exact hj2 _ (if_neg c7).symm
          · refine r_aload_n E (q := 155) 0 dX2_suitsOther_154 rfl rfl rfl ?_
            refine r_get E (q := 158) fX2_7 27 wc_27 rfl dX2_suitsOther_155 rfl ?_
            refine r_get E (q := 161) fX2_47 5 wc_5 rfl dX2_suitsOther_158 rfl ?_
            refine r_iload E (q := 163) 7 dX2_suitsOther_161 rfl rfl ?_
            refine r_zald E (q := 164) 11 wc_11 (by first | assumption | exact (h8 (by assumption)).1 | exact (h8 (by assumption)).2 | exact h10 (Or.inl (by assumption)) | exact h10 (Or.inr (by assumption)) | exact (h12 (Or.inl (by assumption))).1 | exact (h12 (Or.inr (by assumption))).1 | exact (h12 (Or.inl (by assumption))).2 | exact (h12 (Or.inr (by assumption))).2) dX2_suitsOther_163 rfl ?_
            refine r_if_ne E (q := 167) 171 dX2_suitsOther_164 (by decide) rfl (fun c8 => ?_) (fun c8 => ?_)
            · refine r_iconst E (q := 172) (v := 0) dX2_suitsOther_171 (by decide) rfl ?_
              exact hj2 _ ((if_pos c7).trans (if_neg c8)).symm
            · refine r_iconst E (q := 168) (v := 1) dX2_suitsOther_167 (by decide) rfl ?_
              refine r_goto E 172 dX2_suitsOther_168 (by decide) ?_
              exact hj2 _ ((if_pos c7).trans (if_pos c8)).symm
      · by_cases c9 : rule = 11
        · refine r_tabIn E 11 c9 258 dX2_suitsOther_45 (by decide) (by rfl) (by decide) ?_
          refine r_iconst E (q := 259) (v := 1) dX2_suitsOther_258 (by decide) rfl ?_
          exact r_zret E T (Or.inr rfl) dX2_suitsOther_259 (eqI.mk (by unfold fX2_suitsOther; exact ((if_neg c1).trans ((if_neg c5).trans ((if_neg c6).trans (if_pos c9)))).symm) rfl)
        · by_cases c10 : rule = 12
          · refine r_tabIn E 12 c10 173 dX2_suitsOther_45 (by decide) (by rfl) (by decide) ?_
            refine r_aload_n E (q := 174) 0 dX2_suitsOther_173 rfl rfl rfl ?_
            refine r_iload_n E (q := 175) 2 dX2_suitsOther_174 rfl rfl rfl ?_
            refine r_aload_n E (q := 176) 0 dX2_suitsOther_175 rfl rfl rfl ?_
            refine r_get E (q := 179) fX2_13 27 wc_27 rfl dX2_suitsOther_176 rfl ?_
            refine r_get E (q := 182) fX2_26 12 wc_12 rfl dX2_suitsOther_179 rfl ?_
            refine r_iload_n E (q := 183) 3 dX2_suitsOther_182 rfl rfl rfl ?_
            refine r_iald E (q := 184) 14 wc_14 (by first | assumption | exact (h8 (by assumption)).1 | exact (h8 (by assumption)).2 | exact h10 (Or.inl (by assumption)) | exact h10 (Or.inr (by assumption)) | exact (h12 (Or.inl (by assumption))).1 | exact (h12 (Or.inr (by assumption))).1 | exact (h12 (Or.inl (by assumption))).2 | exact (h12 (Or.inr (by assumption))).2) dX2_suitsOther_183 rfl ?_
            refine rVi E (q := 187) cvX2_67 T.rr 27 wc_27 rfl [.int x, .int (G 14 (ix lower))] (c_X2_isLikeJob x (G 14 (ix lower)) (by first | assumption | exact (h12 (Or.inl (by assumption))).1 | exact (h12 (Or.inr (by assumption))).1 | exact (h12 (Or.inl (by assumption))).2 | exact (h12 (Or.inr (by assumption))).2) (by first | assumption | exact (h12 (Or.inl (by assumption))).1 | exact (h12 (Or.inr (by assumption))).1 | exact (h12 (Or.inl (by assumption))).2 | exact (h12 (Or.inr (by assumption))).2)) (by decide) rfl rfl (Nat.le_of_ble_eq_true rfl) ⟨(Nat.le_of_ble_eq_true rfl), (Nat.le_of_ble_eq_true rfl)⟩ dX2_suitsOther_184 rfl ?_
            refine r_join 212 (if fX2_isLikeJob G x (G 14 (ix lower)) = 0 then 1 else (if fX2_isLikeJob G x (G 15 (ix lower)) = 0 then 1 else 0)) (rest := []) ?_ (fun hj3 => ?_)
            · exact r_zret E T (b01 (Or.inr rfl) (b01 (Or.inr rfl) (Or.inl rfl))) dX2_suitsOther_212 (eqI.mk (by unfold fX2_suitsOther; exact ((if_neg c1).trans ((if_neg c5).trans ((if_neg c6).trans ((if_neg c9).trans (if_pos c10))))).symm) rfl)
            · refine r_if_eq E (q := 190) 207 dX2_suitsOther_187 (by decide) rfl (fun c11 => ?_) (fun c11 => ?_)
              · refine r_iconst E (q := 208) (v := 1) dX2_suitsOther_207 (by decide) rfl ?_
                refine r_goto E 212 dX2_suitsOther_208 (by decide) ?_
                exact hj3 _ (if_pos c11).symm
              · refine r_aload_n E (q := 191) 0 dX2_suitsOther_190 rfl rfl rfl ?_
                refine r_iload_n E (q := 192) 2 dX2_suitsOther_191 rfl rfl rfl ?_
                refine r_aload_n E (q := 193) 0 dX2_suitsOther_192 rfl rfl rfl ?_
                refine r_get E (q := 196) fX2_13 27 wc_27 rfl dX2_suitsOther_193 rfl ?_
                refine r_get E (q := 199) fX2_64 12 wc_12 rfl dX2_suitsOther_196 rfl ?_
                refine r_iload_n E (q := 200) 3 dX2_suitsOther_199 rfl rfl rfl ?_
                refine r_iald E (q := 201) 15 wc_15 (by first | assumption | exact (h8 (by assumption)).1 | exact (h8 (by assumption)).2 | exact h10 (Or.inl (by assumption)) | exact h10 (Or.inr (by assumption)) | exact (h12 (Or.inl (by assumption))).1 | exact (h12 (Or.inr (by assumption))).1 | exact (h12 (Or.inl (by assumption))).2 | exact (h12 (Or.inr (by assumption))).2) dX2_suitsOther_200 rfl ?_
                refine rVi E (q := 204) cvX2_67 T.rr 27 wc_27 rfl [.int x, .int (G 15 (ix lower))] (c_X2_isLikeJob x (G 15 (ix lower)) (by first | assumption | exact (h12 (Or.inl (by assumption))).1 | exact (h12 (Or.inr (by assumption))).1 | exact (h12 (Or.inl (by assumption))).2 | exact (h12 (Or.inr (by assumption))).2) (by first | assumption | exact (h12 (Or.inl (by assumption))).1 | exact (h12 (Or.inr (by assumption))).1 | exact (h12 (Or.inl (by assumption))).2 | exact (h12 (Or.inr (by assumption))).2)) (by decide) rfl rfl (Nat.le_of_ble_eq_true rfl) ⟨(Nat.le_of_ble_eq_true rfl), (Nat.le_of_ble_eq_true rfl)⟩ dX2_suitsOther_201 rfl ?_
                refine r_if_ne E (q := 207) 211 dX2_suitsOther_204 (by decide) rfl (fun c12 => ?_) (fun c12 => ?_)
                · refine r_iconst E (q := 212) (v := 0) dX2_suitsOther_211 (by decide) rfl ?_
                  exact hj3 _ ((if_neg c11).trans (if_neg c12)).symm
                · refine r_iconst E (q := 208) (v := 1) dX2_suitsOther_207 (by decide) rfl ?_
                  refine r_goto E 212 dX2_suitsOther_208 (by decide) ?_
                  exact hj3 _ ((if_neg c11).trans (if_pos c12)).symm
          · by_cases c13 : rule = 13
            · refine r_tabIn E 13 c13 213 dX2_suitsOther_45 (by decide) (by rfl) (by decide) ?_
              refine r_iload E (q := 215) 4 dX2_suitsOther_213 rfl rfl ?_
              refine r_iload E (q := 217) 7 dX2_suitsOther_215 rfl rfl ?_
              refine rSNi E (q := 220) cnX2_54 T.rr [.int (G 16 (ix x)), .int (G 17 (ix lower))] (c_X5_isIn (G 16 (ix x)) (G 17 (ix lower))) (by decide) rfl rfl (Nat.le_of_ble_eq_true rfl) ⟨(Nat.le_of_ble_eq_true rfl), (Nat.le_of_ble_eq_true rfl)⟩ dX2_suitsOther_217 rfl ?_
              refine r_join 238 (if fX5_isIn (G 16 (ix x)) (G 17 (ix lower)) = 0 then 0 else (if fX5_isIn (G 17 (ix x)) (G 17 (ix lower)) = 0 then 0 else 1)) (rest := []) ?_ (fun hj4 => ?_)
              · exact r_zret E T (b01 (Or.inl rfl) (b01 (Or.inl rfl) (Or.inr rfl))) dX2_suitsOther_238 (eqI.mk (by unfold fX2_suitsOther; exact ((if_neg c1).trans ((if_neg c5).trans ((if_neg c6).trans ((if_neg c9).trans ((if_neg c10).trans (if_pos c13)))))).symm) rfl)
              · refine r_if_eq E (q := 223) 237 dX2_suitsOther_220 (by decide) rfl (fun c14 => ?_) (fun c14 => ?_)
                · refine r_iconst E (q := 238) (v := 0) dX2_suitsOther_237 (by decide) rfl ?_
                  exact hj4 _ (if_pos c14).symm
                · refine r_iload E (q := 225) 5 dX2_suitsOther_223 rfl rfl ?_
                  refine r_iload E (q := 227) 7 dX2_suitsOther_225 rfl rfl ?_
                  refine rSNi E (q := 230) cnX2_54 T.rr [.int (G 17 (ix x)), .int (G 17 (ix lower))] (c_X5_isIn (G 17 (ix x)) (G 17 (ix lower))) (by decide) rfl rfl (Nat.le_of_ble_eq_true rfl) ⟨(Nat.le_of_ble_eq_true rfl), (Nat.le_of_ble_eq_true rfl)⟩ dX2_suitsOther_227 rfl ?_
                  refine r_if_eq E (q := 233) 237 dX2_suitsOther_230 (by decide) rfl (fun c15 => ?_) (fun c15 => ?_)
                  · refine r_iconst E (q := 238) (v := 0) dX2_suitsOther_237 (by decide) rfl ?_
                    exact hj4 _ ((if_neg c14).trans (if_pos c15)).symm
                  · refine r_iconst E (q := 234) (v := 1) dX2_suitsOther_233 (by decide) rfl ?_
                    refine r_goto E 238 dX2_suitsOther_234 (by decide) ?_
                    exact hj4 _ ((if_neg c14).trans (if_neg c15)).symm
            · by_cases c16 : rule = 14
              · refine r_tabIn E 14 c16 258 dX2_suitsOther_45 (by decide) (by rfl) (by decide) ?_
                refine r_iconst E (q := 259) (v := 1) dX2_suitsOther_258 (by decide) rfl ?_
                exact r_zret E T (Or.inr rfl) dX2_suitsOther_259 (eqI.mk (by unfold fX2_suitsOther; exact ((if_neg c1).trans ((if_neg c5).trans ((if_neg c6).trans ((if_neg c9).trans ((if_neg c10).trans ((if_neg c13).trans (if_pos c16))))))).symm) rfl)
              · by_cases c17 : rule = 15
                · refine r_tabIn E 15 c17 258 dX2_suitsOther_45 (by decide) (by rfl) (by decide) ?_
                  refine r_iconst E (q := 259) (v := 1) dX2_suitsOther_258 (by decide) rfl ?_
                  exact r_zret E T (Or.inr rfl) dX2_suitsOther_259 (eqI.mk (by unfold fX2_suitsOther; exact ((if_neg c1).trans ((if_neg c5).trans ((if_neg c6).trans ((if_neg c9).trans ((if_neg c10).trans ((if_neg c13).trans ((if_neg c16).trans (if_pos c17)))))))).symm) rfl)
                · by_cases c18 : rule = 16
                  · refine r_tabIn E 16 c18 173 dX2_suitsOther_45 (by decide) (by rfl) (by decide) ?_
                    refine r_aload_n E (q := 174) 0 dX2_suitsOther_173 rfl rfl rfl ?_
                    refine r_iload_n E (q := 175) 2 dX2_suitsOther_174 rfl rfl rfl ?_
                    refine r_aload_n E (q := 176) 0 dX2_suitsOther_175 rfl rfl rfl ?_
                    refine r_get E (q := 179) fX2_13 27 wc_27 rfl dX2_suitsOther_176 rfl ?_
                    refine r_get E (q := 182) fX2_26 12 wc_12 rfl dX2_suitsOther_179 rfl ?_
                    refine r_iload_n E (q := 183) 3 dX2_suitsOther_182 rfl rfl rfl ?_
                    refine r_iald E (q := 184) 14 wc_14 (by first | assumption | exact (h8 (by assumption)).1 | exact (h8 (by assumption)).2 | exact h10 (Or.inl (by assumption)) | exact h10 (Or.inr (by assumption)) | exact (h12 (Or.inl (by assumption))).1 | exact (h12 (Or.inr (by assumption))).1 | exact (h12 (Or.inl (by assumption))).2 | exact (h12 (Or.inr (by assumption))).2) dX2_suitsOther_183 rfl ?_
                    refine rVi E (q := 187) cvX2_67 T.rr 27 wc_27 rfl [.int x, .int (G 14 (ix lower))] (c_X2_isLikeJob x (G 14 (ix lower)) (by first | assumption | exact (h12 (Or.inl (by assumption))).1 | exact (h12 (Or.inr (by assumption))).1 | exact (h12 (Or.inl (by assumption))).2 | exact (h12 (Or.inr (by assumption))).2) (by first | assumption | exact (h12 (Or.inl (by assumption))).1 | exact (h12 (Or.inr (by assumption))).1 | exact (h12 (Or.inl (by assumption))).2 | exact (h12 (Or.inr (by assumption))).2)) (by decide) rfl rfl (Nat.le_of_ble_eq_true rfl) ⟨(Nat.le_of_ble_eq_true rfl), (Nat.le_of_ble_eq_true rfl)⟩ dX2_suitsOther_184 rfl ?_
                    refine r_join 212 (if fX2_isLikeJob G x (G 14 (ix lower)) = 0 then 1 else (if fX2_isLikeJob G x (G 15 (ix lower)) = 0 then 1 else 0)) (rest := []) ?_ (fun hj5 => ?_)
                    · exact r_zret E T (b01 (Or.inr rfl) (b01 (Or.inr rfl) (Or.inl rfl))) dX2_suitsOther_212 (eqI.mk (by unfold fX2_suitsOther; exact ((if_neg c1).trans ((if_neg c5).trans ((if_neg c6).trans ((if_neg c9).trans ((if_neg c10).trans ((if_neg c13).trans ((if_neg c16).trans ((if_neg c17).trans (if_pos c18))))))))).symm) rfl)
                    · refine r_if_eq E (q := 190) 207 dX2_suitsOther_187 (by decide) rfl (fun c19 => ?_) (fun c19 => ?_)
                      · refine r_iconst E (q := 208) (v := 1) dX2_suitsOther_207 (by decide) rfl ?_
                        refine r_goto E 212 dX2_suitsOther_208 (by decide) ?_
                        exact hj5 _ (if_pos c19).symm
                      · refine r_aload_n E (q := 191) 0 dX2_suitsOther_190 rfl rfl rfl ?_
                        refine r_iload_n E (q := 192) 2 dX2_suitsOther_191 rfl rfl rfl ?_
                        refine r_aload_n E (q := 193) 0 dX2_suitsOther_192 rfl rfl rfl ?_
                        refine r_get E (q := 196) fX2_13 27 wc_27 rfl dX2_suitsOther_193 rfl ?_
                        refine r_get E (q := 199) fX2_64 12 wc_12 rfl dX2_suitsOther_196 rfl ?_
                        refine r_iload_n E (q := 200) 3 dX2_suitsOther_199 rfl rfl rfl ?_
                        refine r_iald E (q := 201) 15 wc_15 (by first | assumption | exact (h8 (by assumption)).1 | exact (h8 (by assumption)).2 | exact h10 (Or.inl (by assumption)) | exact h10 (Or.inr (by assumption)) | exact (h12 (Or.inl (by assumption))).1 | exact (h12 (Or.inr (by assumption))).1 | exact (h12 (Or.inl (by assumption))).2 | exact (h12 (Or.inr (by assumption))).2) dX2_suitsOther_200 rfl ?_
                        refine rVi E (q := 204) cvX2_67 T.rr 27 wc_27 rfl [.int x, .int (G 15 (ix lower))] (c_X2_isLikeJob x (G 15 (ix lower)) (by first | assumption | exact (h12 (Or.inl (by assumption))).1 | exact (h12 (Or.inr (by assumption))).1 | exact (h12 (Or.inl (by assumption))).2 | exact (h12 (Or.inr (by assumption))).2) (by first | assumption | exact (h12 (Or.inl (by assumption))).1 | exact (h12 (Or.inr (by assumption))).1 | exact (h12 (Or.inl (by assumption))).2 | exact (h12 (Or.inr (by assumption))).2)) (by decide) rfl rfl (Nat.le_of_ble_eq_true rfl) ⟨(Nat.le_of_ble_eq_true rfl), (Nat.le_of_ble_eq_true rfl)⟩ dX2_suitsOther_201 rfl ?_
                        refine r_if_ne E (q := 207) 211 dX2_suitsOther_204 (by decide) rfl (fun c20 => ?_) (fun c20 => ?_)
                        · refine r_iconst E (q := 212) (v := 0) dX2_suitsOther_211 (by decide) rfl ?_
                          exact hj5 _ ((if_neg c19).trans (if_neg c20)).symm
                        · refine r_iconst E (q := 208) (v := 1) dX2_suitsOther_207 (by decide) rfl ?_
                          refine r_goto E 212 dX2_suitsOther_208 (by decide) ?_
                          exact hj5 _ ((if_neg c19).trans (if_pos c20)).symm
                  · by_cases c21 : rule = 17
                    · refine r_tabIn E 17 c21 239 dX2_suitsOther_45 (by decide) (by rfl) (by decide) ?_
                      refine r_aload_n E (q := 240) 0 dX2_suitsOther_239 rfl rfl rfl ?_
                      refine r_get E (q := 243) fX2_7 27 wc_27 rfl dX2_suitsOther_240 rfl ?_
                      refine r_get E (q := 246) fX2_47 5 wc_5 rfl dX2_suitsOther_243 rfl ?_
                      refine r_iload E (q := 248) 7 dX2_suitsOther_246 rfl rfl ?_
                      refine r_zald E (q := 249) 11 wc_11 (by first | assumption | exact (h8 (by assumption)).1 | exact (h8 (by assumption)).2 | exact h10 (Or.inl (by assumption)) | exact h10 (Or.inr (by assumption)) | exact (h12 (Or.inl (by assumption))).1 | exact (h12 (Or.inr (by assumption))).1 | exact (h12 (Or.inl (by assumption))).2 | exact (h12 (Or.inr (by assumption))).2) dX2_suitsOther_248 rfl ?_
                      refine r_join 257 (if G 11 (ix (G 17 (ix lower))) = 0 then 1 else 0) (rest := []) ?_ (fun hj6 => ?_)
                      · exact r_zret E T (b01 (Or.inr rfl) (Or.inl rfl)) dX2_suitsOther_257 (eqI.mk (by unfold fX2_suitsOther; exact ((if_neg c1).trans ((if_neg c5).trans ((if_neg c6).trans ((if_neg c9).trans ((if_neg c10).trans ((if_neg c13).trans ((if_neg c16).trans ((if_neg c17).trans ((if_neg c18).trans (if_pos c21)))))))))).symm) rfl)
                      · refine r_if_ne E (q := 252) 256 dX2_suitsOther_249 (by decide) rfl (fun c22 => ?_) (fun c22 => ?_)
                        · refine r_iconst E (q := 257) (v := 0) dX2_suitsOther_256 (by decide) rfl ?_
                          exact hj6 _ (if_neg c22).symm
                        · refine r_iconst E (q := 253) (v := 1) dX2_suitsOther_252 (by decide) rfl ?_
                          refine r_goto E 257 dX2_suitsOther_253 (by decide) ?_
                          exact hj6 _ (if_pos c22).symm
                    · refine r_tabOut E 258 dX2_suitsOther_45 (sw_out (fun j hj e => by match j with | 0 => exact c1 (e.trans (by decide)) | 1 => exact c5 (e.trans (by decide)) | 2 => exact c6 (e.trans (by decide)) | 3 => exact c9 (e.trans (by decide)) | 4 => exact c10 (e.trans (by decide)) | 5 => exact c13 (e.trans (by decide)) | 6 => exact c16 (e.trans (by decide)) | 7 => exact c17 (e.trans (by decide)) | 8 => exact c18 (e.trans (by decide)) | 9 => exact c21 (e.trans (by decide)) | j + 10 => omega)) (by decide) ?_
                      refine r_iconst E (q := 259) (v := 1) dX2_suitsOther_258 (by decide) rfl ?_
                      exact r_zret E T (Or.inr rfl) dX2_suitsOther_259 (eqI.mk (by unfold fX2_suitsOther; exact ((if_neg c1).trans ((if_neg c5).trans ((if_neg c6).trans ((if_neg c9).trans ((if_neg c10).trans ((if_neg c13).trans ((if_neg c16).trans ((if_neg c17).trans ((if_neg c18).trans (if_neg c21)))))))))).symm) rfl)
def fX2_suits (G : Nat → Nat → Int32) (x : Int32) (rule : Int32) : Int32 := if G 13 (ix x) = uT (ix rule) then (if G 13 (ix (G 14 (ix x))) = lT (ix rule) then (if uT (ix rule) = 1 then (fX2_suitsFilter G rule (G 17 (ix x)) (G 14 (ix x))) else (fX2_suitsOther G rule x (G 14 (ix x)))) else 0) else 0
theorem b_X2_suits (G : Nat → Nat → Int32) (x : Int32) (rule : Int32) : fX2_suits G x rule = 0 ∨ fX2_suits G x rule = 1 := (b01 (b01 (b01 (b_X2_suitsFilter _ _ _ _) (b_X2_suitsOther _ _ _ _)) (Or.inl rfl)) (Or.inl rfl))
set_option maxRecDepth 100000 in
set_option maxHeartbeats 800000 in
theorem c_X2_suits {l : Launch} {k : Kt} {ad : Nat → Nat} {G : Nat → Nat → Int32} {V : Nat → Int32} {n : Nat} (x : Int32) (rule : Int32) (hx : vp_in x 60) (hr : vp_in rule 18) (hl : G 13 (ix x) = uT (ix rule) → vp_in (G 14 (ix x)) 60) (hF : G 13 (ix x) = uT (ix rule) → G 13 (ix (G 14 (ix x))) = lT (ix rule) → uT (ix rule) = 1 → vp_in (G 17 (ix x)) 40 ∧ (rule = 0 → vp_in (G 17 (ix (G 14 (ix x)))) 40) ∧ (rule = 4 → vp_in (G 15 (ix (G 14 (ix x)))) 60) ∧ (rule = 7 → vp_in (G 17 (ix (G 14 (ix x)))) 40)) (hO : G 13 (ix x) = uT (ix rule) → G 13 (ix (G 14 (ix x))) = lT (ix rule) → ¬ uT (ix rule) = 1 → (rule = 8 → vp_in (G 17 (ix x)) 40 ∧ vp_in (G 17 (ix (G 14 (ix x)))) 40) ∧ (rule = 10 ∨ rule = 17 → vp_in (G 17 (ix (G 14 (ix x)))) 40) ∧ (rule = 12 ∨ rule = 16 → vp_in (G 14 (ix (G 14 (ix x)))) 60 ∧ vp_in (G 15 (ix (G 14 (ix x)))) 60)) : CT l k yX2_suits cX2_suits 4 (some .boolean) 2 [.ref (ad 27), .int x, .int rule] (WC k ad G V n) (eqI (fX2_suits G x rule) (WC k ad G V n)) 0 0 := by
  refine ct_of (own := RX2) (lv0 := [(0, .ref (ad 27)), (1, .int x), (2, .int rule)]) (by decide) rfl (Nat.le_of_ble_eq_true rfl) rfl ?_
  rintro z rfl rfl hz - E T
  refine r_aload_n E (q := 1) 0 dX2_suits_0 rfl rfl rfl ?_
  refine r_get E (q := 4) fX2_13 27 wc_27 rfl dX2_suits_1 rfl ?_
  refine r_get E (q := 7) fX2_17 12 wc_12 rfl dX2_suits_4 rfl ?_
  refine r_iload_n E (q := 8) 1 dX2_suits_7 rfl rfl rfl ?_
  refine r_iald E (q := 9) 13 wc_13 (by first | assumption | exact hl (by assumption)) dX2_suits_8 rfl ?_
  refine r_gets E (q := 12) E.2.2.2.2.2.2.2.1.1 sX2_23 dX2_suits_9 rfl (fun t9 ht9 => ?_)
  refine r_iload_n E (q := 13) 2 dX2_suits_12 rfl rfl rfl ?_
  refine r_ti E (q := 14) ht9 (by first | assumption | exact hl (by assumption)) dX2_suits_13 rfl ?_
  refine r_icmp_eq E (q := 17) 19 dX2_suits_14 (by decide) rfl (fun c1 => ?_) (fun c1 => ?_)
  · refine r_aload_n E (q := 20) 0 dX2_suits_19 rfl rfl rfl ?_
    refine r_get E (q := 23) fX2_13 27 wc_27 rfl dX2_suits_20 rfl ?_
    refine r_get E (q := 26) fX2_26 12 wc_12 rfl dX2_suits_23 rfl ?_
    refine r_iload_n E (q := 27) 1 dX2_suits_26 rfl rfl rfl ?_
    refine r_iald E (q := 28) 14 wc_14 (by first | assumption | exact hl (by assumption)) dX2_suits_27 rfl ?_
    refine r_istore_n E (q := 29) (lv' := [(0, .ref (ad 27)), (1, .int x), (2, .int rule), (3, .int (G 14 (ix x)))]) [1, 2, 3, 0] dX2_suits_28 rfl (by rw [hz]; decide) rfl rfl ?_
    refine r_aload_n E (q := 30) 0 dX2_suits_29 rfl rfl rfl ?_
    refine r_get E (q := 33) fX2_13 27 wc_27 rfl dX2_suits_30 rfl ?_
    refine r_get E (q := 36) fX2_17 12 wc_12 rfl dX2_suits_33 rfl ?_
    refine r_iload_n E (q := 37) 3 dX2_suits_36 rfl rfl rfl ?_
    refine r_iald E (q := 38) 13 wc_13 (by first | assumption | exact hl (by assumption)) dX2_suits_37 rfl ?_
    refine r_gets E (q := 41) E.2.2.2.2.2.2.2.1.2.1 sX2_29 dX2_suits_38 rfl (fun t38 ht38 => ?_)
    refine r_iload_n E (q := 42) 2 dX2_suits_41 rfl rfl rfl ?_
    refine r_ti E (q := 43) ht38 (by first | assumption | exact hl (by assumption)) dX2_suits_42 rfl ?_
    refine r_icmp_eq E (q := 46) 48 dX2_suits_43 (by decide) rfl (fun c2 => ?_) (fun c2 => ?_)
    · refine r_gets E (q := 51) E.2.2.2.2.2.2.2.1.1 sX2_23 dX2_suits_48 rfl (fun t48 ht48 => ?_)
      refine r_iload_n E (q := 52) 2 dX2_suits_51 rfl rfl rfl ?_
      refine r_ti E (q := 53) ht48 (by first | assumption | exact hl (by assumption)) dX2_suits_52 rfl ?_
      refine r_iconst E (q := 54) (v := 1) dX2_suits_53 (by decide) rfl ?_
      refine r_icmp_ne E (q := 57) 73 dX2_suits_54 (by decide) rfl (fun c3 => ?_) (fun c3 => ?_)
      · refine r_aload_n E (q := 74) 0 dX2_suits_73 rfl rfl rfl ?_
        refine r_iload_n E (q := 75) 2 dX2_suits_74 rfl rfl rfl ?_
        refine r_iload_n E (q := 76) 1 dX2_suits_75 rfl rfl rfl ?_
        refine r_iload_n E (q := 77) 3 dX2_suits_76 rfl rfl rfl ?_
        refine rVi E (q := 80) cvX2_39 T.rr 27 wc_27 rfl [.int rule, .int x, .int (G 14 (ix x))] (c_X2_suitsOther rule x (G 14 (ix x)) (by first | assumption | exact hl (by assumption) | exact (hF (by assumption) (by assumption) (by assumption)).1 | exact (hF (by assumption) (by assumption) (by assumption)).2.1 | exact (hF (by assumption) (by assumption) (by assumption)).2.2.1 | exact (hF (by assumption) (by assumption) (by assumption)).2.2.2 | exact (hO (by assumption) (by assumption) (by assumption)).1 | exact (hO (by assumption) (by assumption) (by assumption)).2.1 | exact (hO (by assumption) (by assumption) (by assumption)).2.2) (by first | assumption | exact hl (by assumption) | exact (hF (by assumption) (by assumption) (by assumption)).1 | exact (hF (by assumption) (by assumption) (by assumption)).2.1 | exact (hF (by assumption) (by assumption) (by assumption)).2.2.1 | exact (hF (by assumption) (by assumption) (by assumption)).2.2.2 | exact (hO (by assumption) (by assumption) (by assumption)).1 | exact (hO (by assumption) (by assumption) (by assumption)).2.1 | exact (hO (by assumption) (by assumption) (by assumption)).2.2) (by first | assumption | exact hl (by assumption) | exact (hF (by assumption) (by assumption) (by assumption)).1 | exact (hF (by assumption) (by assumption) (by assumption)).2.1 | exact (hF (by assumption) (by assumption) (by assumption)).2.2.1 | exact (hF (by assumption) (by assumption) (by assumption)).2.2.2 | exact (hO (by assumption) (by assumption) (by assumption)).1 | exact (hO (by assumption) (by assumption) (by assumption)).2.1 | exact (hO (by assumption) (by assumption) (by assumption)).2.2) (by first | assumption | exact hl (by assumption) | exact (hF (by assumption) (by assumption) (by assumption)).1 | exact (hF (by assumption) (by assumption) (by assumption)).2.1 | exact (hF (by assumption) (by assumption) (by assumption)).2.2.1 | exact (hF (by assumption) (by assumption) (by assumption)).2.2.2 | exact (hO (by assumption) (by assumption) (by assumption)).1 | exact (hO (by assumption) (by assumption) (by assumption)).2.1 | exact (hO (by assumption) (by assumption) (by assumption)).2.2) (by first | assumption | exact hl (by assumption) | exact (hF (by assumption) (by assumption) (by assumption)).1 | exact (hF (by assumption) (by assumption) (by assumption)).2.1 | exact (hF (by assumption) (by assumption) (by assumption)).2.2.1 | exact (hF (by assumption) (by assumption) (by assumption)).2.2.2 | exact (hO (by assumption) (by assumption) (by assumption)).1 | exact (hO (by assumption) (by assumption) (by assumption)).2.1 | exact (hO (by assumption) (by assumption) (by assumption)).2.2)) (by decide) rfl rfl (Nat.le_of_ble_eq_true rfl) ⟨(Nat.le_of_ble_eq_true rfl), (Nat.le_of_ble_eq_true rfl)⟩ dX2_suits_77 rfl ?_
        exact r_zret E T (b_X2_suitsOther _ _ _ _) dX2_suits_80 (eqI.mk (by unfold fX2_suits; exact ((if_pos c1).trans ((if_pos c2).trans (if_neg c3))).symm) rfl)
      · refine r_aload_n E (q := 58) 0 dX2_suits_57 rfl rfl rfl ?_
        refine r_iload_n E (q := 59) 2 dX2_suits_58 rfl rfl rfl ?_
        refine r_aload_n E (q := 60) 0 dX2_suits_59 rfl rfl rfl ?_
        refine r_get E (q := 63) fX2_13 27 wc_27 rfl dX2_suits_60 rfl ?_
        refine r_get E (q := 66) fX2_32 12 wc_12 rfl dX2_suits_63 rfl ?_
        refine r_iload_n E (q := 67) 1 dX2_suits_66 rfl rfl rfl ?_
        refine r_iald E (q := 68) 17 wc_17 (by first | assumption | exact hl (by assumption)) dX2_suits_67 rfl ?_
        refine r_iload_n E (q := 69) 3 dX2_suits_68 rfl rfl rfl ?_
        refine rVi E (q := 72) cvX2_35 T.rr 27 wc_27 rfl [.int rule, .int (G 17 (ix x)), .int (G 14 (ix x))] (c_X2_suitsFilter rule (G 17 (ix x)) (G 14 (ix x)) (by first | assumption | exact hl (by assumption) | exact (hF (by assumption) (by assumption) (by assumption)).1 | exact (hF (by assumption) (by assumption) (by assumption)).2.1 | exact (hF (by assumption) (by assumption) (by assumption)).2.2.1 | exact (hF (by assumption) (by assumption) (by assumption)).2.2.2 | exact (hO (by assumption) (by assumption) (by assumption)).1 | exact (hO (by assumption) (by assumption) (by assumption)).2.1 | exact (hO (by assumption) (by assumption) (by assumption)).2.2) (by first | assumption | exact hl (by assumption) | exact (hF (by assumption) (by assumption) (by assumption)).1 | exact (hF (by assumption) (by assumption) (by assumption)).2.1 | exact (hF (by assumption) (by assumption) (by assumption)).2.2.1 | exact (hF (by assumption) (by assumption) (by assumption)).2.2.2 | exact (hO (by assumption) (by assumption) (by assumption)).1 | exact (hO (by assumption) (by assumption) (by assumption)).2.1 | exact (hO (by assumption) (by assumption) (by assumption)).2.2) (by first | assumption | exact hl (by assumption) | exact (hF (by assumption) (by assumption) (by assumption)).1 | exact (hF (by assumption) (by assumption) (by assumption)).2.1 | exact (hF (by assumption) (by assumption) (by assumption)).2.2.1 | exact (hF (by assumption) (by assumption) (by assumption)).2.2.2 | exact (hO (by assumption) (by assumption) (by assumption)).1 | exact (hO (by assumption) (by assumption) (by assumption)).2.1 | exact (hO (by assumption) (by assumption) (by assumption)).2.2) (by first | assumption | exact hl (by assumption) | exact (hF (by assumption) (by assumption) (by assumption)).1 | exact (hF (by assumption) (by assumption) (by assumption)).2.1 | exact (hF (by assumption) (by assumption) (by assumption)).2.2.1 | exact (hF (by assumption) (by assumption) (by assumption)).2.2.2 | exact (hO (by assumption) (by assumption) (by assumption)).1 | exact (hO (by assumption) (by assumption) (by assumption)).2.1 | exact (hO (by assumption) (by assumption) (by assumption)).2.2) (by first | assumption | exact hl (by assumption) | exact (hF (by assumption) (by assumption) (by assumption)).1 | exact (hF (by assumption) (by assumption) (by assumption)).2.1 | exact (hF (by assumption) (by assumption) (by assumption)).2.2.1 | exact (hF (by assumption) (by assumption) (by assumption)).2.2.2 | exact (hO (by assumption) (by assumption) (by assumption)).1 | exact (hO (by assumption) (by assumption) (by assumption)).2.1 | exact (hO (by assumption) (by assumption) (by assumption)).2.2)) (by decide) rfl rfl (Nat.le_of_ble_eq_true rfl) ⟨(Nat.le_of_ble_eq_true rfl), (Nat.le_of_ble_eq_true rfl)⟩ dX2_suits_69 rfl ?_
        exact r_zret E T (b_X2_suitsFilter _ _ _ _) dX2_suits_72 (eqI.mk (by unfold fX2_suits; exact ((if_pos c1).trans ((if_pos c2).trans (if_pos c3))).symm) rfl)
    · refine r_iconst E (q := 47) (v := 0) dX2_suits_46 (by decide) rfl ?_
      exact r_zret E T (Or.inl rfl) dX2_suits_47 (eqI.mk (by unfold fX2_suits; exact ((if_pos c1).trans (if_neg c2)).symm) rfl)
  · refine r_iconst E (q := 18) (v := 0) dX2_suits_17 (by decide) rfl ?_
    exact r_zret E T (Or.inl rfl) dX2_suits_18 (eqI.mk (by unfold fX2_suits; exact (if_neg c1).symm) rfl)
def fX2_hasRoom (G : Nat → Nat → Int32) (V : Nat → Int32) (x : Int32) (rule : Int32) : Int32 := if rule = 7 then (fX0_hasRoom G V 9 (G 17 (ix (G 14 (ix x)))) (G 17 (ix x))) else (fX1_hasRoom V (nT (ix rule)))
theorem b_X2_hasRoom (G : Nat → Nat → Int32) (V : Nat → Int32) (x : Int32) (rule : Int32) : fX2_hasRoom G V x rule = 0 ∨ fX2_hasRoom G V x rule = 1 := (b01 (b_X0_hasRoom _ _ _ _ _) (b_X1_hasRoom _ _))
set_option maxRecDepth 100000 in
set_option maxHeartbeats 800000 in
theorem c_X2_hasRoom {l : Launch} {k : Kt} {ad : Nat → Nat} {G : Nat → Nat → Int32} {V : Nat → Int32} {n : Nat} (x : Int32) (rule : Int32) (hx : vp_in x 60) (hr : vp_in rule 18) (h7 : rule = 7 → vp_in (G 14 (ix x)) 60 ∧ vp_in (G 17 (ix (G 14 (ix x)))) 40 ∧ vp_in (G 17 (ix x)) 40) : CT l k yX2_hasRoom cX2_hasRoom 3 (some .boolean) 3 [.ref (ad 27), .int x, .int rule] (WC k ad G V n) (eqI (fX2_hasRoom G V x rule) (WC k ad G V n)) 0 0 := by
  refine ct_of (own := RX2) (lv0 := [(0, .ref (ad 27)), (1, .int x), (2, .int rule)]) (by decide) rfl (Nat.le_of_ble_eq_true rfl) rfl ?_
  rintro z rfl rfl hz - E T
  refine r_iload_n E (q := 1) 2 dX2_hasRoom_0 rfl rfl rfl ?_
  refine r_bipush E (q := 3) (v := 7) dX2_hasRoom_1 (by decide) rfl ?_
  refine r_icmp_ne E (q := 6) 42 dX2_hasRoom_3 (by decide) rfl (fun c1 => ?_) (fun c1 => ?_)
  · refine r_aload_n E (q := 43) 0 dX2_hasRoom_42 rfl rfl rfl ?_
    refine r_get E (q := 46) fX2_13 27 wc_27 rfl dX2_hasRoom_43 rfl ?_
    refine r_gets E (q := 49) E.2.2.2.2.2.2.2.1.2.2 sX2_73 dX2_hasRoom_46 rfl (fun t46 ht46 => ?_)
    refine r_iload_n E (q := 50) 2 dX2_hasRoom_49 rfl rfl rfl ?_
    refine r_ti E (q := 51) ht46 (by first | assumption | exact (h7 (by assumption)).1) dX2_hasRoom_50 rfl ?_
    refine rVi E (q := 54) cvX2_76 T.rr 12 wc_12 rfl [.int (nT (ix rule))] (c_X1_hasRoom (nT (ix rule))) (by decide) rfl rfl (Nat.le_of_ble_eq_true rfl) ⟨(Nat.le_of_ble_eq_true rfl), (Nat.le_of_ble_eq_true rfl)⟩ dX2_hasRoom_51 rfl ?_
    exact r_zret E T (b_X1_hasRoom _ _) dX2_hasRoom_54 (eqI.mk (by unfold fX2_hasRoom; exact (if_neg c1).symm) rfl)
  · refine r_aload_n E (q := 7) 0 dX2_hasRoom_6 rfl rfl rfl ?_
    refine r_get E (q := 10) fX2_7 27 wc_27 rfl dX2_hasRoom_7 rfl ?_
    refine r_bipush E (q := 12) (v := 9) dX2_hasRoom_10 (by decide) rfl ?_
    refine r_aload_n E (q := 13) 0 dX2_hasRoom_12 rfl rfl rfl ?_
    refine r_get E (q := 16) fX2_13 27 wc_27 rfl dX2_hasRoom_13 rfl ?_
    refine r_get E (q := 19) fX2_32 12 wc_12 rfl dX2_hasRoom_16 rfl ?_
    refine r_aload_n E (q := 20) 0 dX2_hasRoom_19 rfl rfl rfl ?_
    refine r_get E (q := 23) fX2_13 27 wc_27 rfl dX2_hasRoom_20 rfl ?_
    refine r_get E (q := 26) fX2_26 12 wc_12 rfl dX2_hasRoom_23 rfl ?_
    refine r_iload_n E (q := 27) 1 dX2_hasRoom_26 rfl rfl rfl ?_
    refine r_iald E (q := 28) 14 wc_14 (by first | assumption | exact (h7 (by assumption)).1) dX2_hasRoom_27 rfl ?_
    refine r_iald E (q := 29) 17 wc_17 (by first | assumption | exact (h7 (by assumption)).1) dX2_hasRoom_28 rfl ?_
    refine r_aload_n E (q := 30) 0 dX2_hasRoom_29 rfl rfl rfl ?_
    refine r_get E (q := 33) fX2_13 27 wc_27 rfl dX2_hasRoom_30 rfl ?_
    refine r_get E (q := 36) fX2_32 12 wc_12 rfl dX2_hasRoom_33 rfl ?_
    refine r_iload_n E (q := 37) 1 dX2_hasRoom_36 rfl rfl rfl ?_
    refine r_iald E (q := 38) 17 wc_17 (by first | assumption | exact (h7 (by assumption)).1) dX2_hasRoom_37 rfl ?_
    refine rVi E (q := 41) cvX2_70 T.rr 5 wc_5 rfl [.int 9, .int (G 17 (ix (G 14 (ix x)))), .int (G 17 (ix x))] (c_X0_hasRoom 9 (G 17 (ix (G 14 (ix x)))) (G 17 (ix x)) (by first | exact fun _ => (h7 (by assumption)).2.1 | exact fun _ => (h7 (by assumption)).2.2) (by first | exact fun _ => (h7 (by assumption)).2.1 | exact fun _ => (h7 (by assumption)).2.2)) (by decide) rfl rfl (Nat.le_of_ble_eq_true rfl) ⟨(Nat.le_of_ble_eq_true rfl), (Nat.le_of_ble_eq_true rfl)⟩ dX2_hasRoom_38 rfl ?_
    exact r_zret E T (b_X0_hasRoom _ _ _ _ _) dX2_hasRoom_41 (eqI.mk (by unfold fX2_hasRoom; exact (if_pos c1).symm) rfl)
theorem cls_in {v x : Int32} {m : Nat} (h0 : ∃ j : Nat, j ≤ m ∧ v = nI j) (hm : m < 2 ^ 31) (h1 : ¬ x < 0) (h2 : x < v) : vp_in x m := by
  obtain ⟨j, hj, rfl⟩ := h0
  refine vp_in_iff.mpr ?_
  rw [Int32.lt_iff_toInt_lt, Int32.toInt_zero] at h1
  rw [Int32.lt_iff_toInt_lt, nI_toInt (by omega)] at h2
  omega
theorem hasF_of {V : Nat → Int32} {f : Int32} (h0 : ∃ j : Nat, j ≤ 40 ∧ V 0 = nI j) (h : ¬ fX0_has V f = 0) : vp_in f 40 := by
  unfold fX0_has at h
  by_cases c1 : f < 0
  · rw [if_pos c1] at h; exact absurd rfl h
  · rw [if_neg c1] at h
    by_cases c2 : V 0 ≤ f
    · rw [if_pos c2] at h; exact absurd rfl h
    · exact cls_in h0 (by omega) c1 (Int32.not_le.mp c2)
theorem hasN_of {V : Nat → Int32} {f : Int32} (h0 : ∃ j : Nat, j ≤ 60 ∧ V 1 = nI j) (h : ¬ fX1_has V f = 0) : vp_in f 60 := by
  unfold fX1_has at h
  by_cases c1 : f < 0
  · rw [if_pos c1] at h; exact absurd rfl h
  · rw [if_neg c1] at h
    by_cases c2 : V 1 ≤ f
    · rw [if_pos c2] at h; exact absurd rfl h
    · exact cls_in h0 (by omega) c1 (Int32.not_le.mp c2)
theorem hasS_of {f : Int32} (h : ¬ fX4_has f = 0) : vp_in f 4 := by
  unfold fX4_has at h
  by_cases c1 : f < 0
  · rw [if_pos c1] at h; exact absurd rfl h
  · rw [if_neg c1] at h
    by_cases c2 : 4 ≤ f
    · rw [if_pos c2] at h; exact absurd rfl h
    · exact cls_in (v := 4) ⟨4, Nat.le_refl 4, rfl⟩ (by omega) c1 (Int32.not_le.mp c2)
theorem hasI_of {f : Int32} (h : ¬ fX4_hasItem f = 0) : vp_in f 8 := by
  unfold fX4_hasItem at h
  by_cases c1 : f < 0
  · rw [if_pos c1] at h; exact absurd rfl h
  · rw [if_neg c1] at h
    by_cases c2 : 8 ≤ f
    · rw [if_pos c2] at h; exact absurd rfl h
    · exact cls_in (v := 8) ⟨8, Nat.le_refl 8, rfl⟩ (by omega) c1 (Int32.not_le.mp c2)
theorem ixlt {x : Int32} {n : Nat} (h : vp_in x n) : ix x < n := Nat.not_le.mp fun q => h (Or.inr q)
def fX5_row (G : Nat → Nat → Int32) (source : Int32) (a : Int32) (b : Int32) (c : Int32) : Int32 := if fX4_has source = 0 then (-1) else (fX4_add G source a b c)
def fX5_row_G (G : Nat → Nat → Int32) (source : Int32) (a : Int32) (b : Int32) (c : Int32) : Nat → Nat → Int32 := if fX4_has source = 0 then G else (fX4_add_G G source a b c)
set_option maxRecDepth 100000 in
set_option maxHeartbeats 800000 in
theorem c_X5_row {l : Launch} {k : Kt} {ad : Nat → Nat} {G : Nat → Nat → Int32} {V : Nat → Int32} {n : Nat} (source : Int32) (a : Int32) (b : Int32) (c : Int32) (hy : ∀ i : Nat, i < 4 → ∃ j : Nat, j ≤ 6 ∧ G 3 i = nI j) : CT l k yX5_row cX5_row 5 (some .int) 2 [.ref (ad 0), .int source, .int a, .int b, .int c] (WC k ad G V n) (eqI (fX5_row G source a b c) (WC k ad (fX5_row_G G source a b c) V n)) 0 0 := by
  refine ct_of (own := RX5) (lv0 := [(0, .ref (ad 0)), (1, .int source), (2, .int a), (3, .int b), (4, .int c)]) (by decide) rfl (Nat.le_of_ble_eq_true rfl) rfl ?_
  rintro z rfl rfl hz - E T
  refine r_aload_n E (q := 1) 0 dX5_row_0 rfl rfl rfl ?_
  refine r_get E (q := 4) fX5_12 0 wc_0 rfl dX5_row_1 rfl ?_
  refine r_iload_n E (q := 5) 1 dX5_row_4 rfl rfl rfl ?_
  refine rVi E (q := 8) cvX5_50 T.rr 1 wc_1 rfl [.int source] (c_X4_has source) (by decide) rfl rfl (Nat.le_of_ble_eq_true rfl) ⟨(Nat.le_of_ble_eq_true rfl), (Nat.le_of_ble_eq_true rfl)⟩ dX5_row_5 rfl ?_
  refine r_if_ne E (q := 11) 13 dX5_row_8 (by decide) rfl (fun c1 => ?_) (fun c1 => ?_)
  · refine r_aload_n E (q := 14) 0 dX5_row_13 rfl rfl rfl ?_
    refine r_get E (q := 17) fX5_12 0 wc_0 rfl dX5_row_14 rfl ?_
    refine r_iload_n E (q := 18) 1 dX5_row_17 rfl rfl rfl ?_
    refine r_iload_n E (q := 19) 2 dX5_row_18 rfl rfl rfl ?_
    refine r_iload_n E (q := 20) 3 dX5_row_19 rfl rfl rfl ?_
    refine r_iload E (q := 22) 4 dX5_row_20 rfl rfl ?_
    refine rVi E (q := 25) cvX5_54 T.rr 1 wc_1 rfl [.int source, .int a, .int b, .int c] (c_X4_add source a b c (by first | exact hasS_of (by assumption) | exact hy _ (ixlt (hasS_of (by assumption)))) (by first | exact hasS_of (by assumption) | exact hy _ (ixlt (hasS_of (by assumption))))) (by decide) rfl rfl (Nat.le_of_ble_eq_true rfl) ⟨(Nat.le_of_ble_eq_true rfl), (Nat.le_of_ble_eq_true rfl)⟩ dX5_row_22 rfl ?_
    exact r_iret E T dX5_row_25 (eqI.mk (by unfold fX5_row; exact (if_neg c1).symm) (cgC (by unfold fX5_row_G; exact (if_neg c1).symm) rfl))
  · refine r_iconst E (q := 12) (v := (-1)) dX5_row_11 (by decide) rfl ?_
    exact r_iret E T dX5_row_12 (eqI.mk (by unfold fX5_row; exact (if_pos c1).symm) (cgC (by unfold fX5_row_G; exact (if_pos c1).symm) rfl))
def fX5_clear (G : Nat → Nat → Int32) (source : Int32) : Int32 := if fX4_has source = 0 then (-1) else (fX4_empty G source)
def fX5_clear_G (G : Nat → Nat → Int32) (source : Int32) : Nat → Nat → Int32 := if fX4_has source = 0 then G else (fX4_empty_G G source)
set_option maxRecDepth 100000 in
set_option maxHeartbeats 800000 in
theorem c_X5_clear {l : Launch} {k : Kt} {ad : Nat → Nat} {G : Nat → Nat → Int32} {V : Nat → Int32} {n : Nat} (source : Int32) : CT l k yX5_clear cX5_clear 2 (some .int) 1 [.ref (ad 0), .int source] (WC k ad G V n) (eqI (fX5_clear G source) (WC k ad (fX5_clear_G G source) V n)) 0 0 := by
  refine ct_of (own := RX5) (lv0 := [(0, .ref (ad 0)), (1, .int source)]) (by decide) rfl (Nat.le_of_ble_eq_true rfl) rfl ?_
  rintro z rfl rfl hz - E T
  refine r_aload_n E (q := 1) 0 dX5_clear_0 rfl rfl rfl ?_
  refine r_get E (q := 4) fX5_12 0 wc_0 rfl dX5_clear_1 rfl ?_
  refine r_iload_n E (q := 5) 1 dX5_clear_4 rfl rfl rfl ?_
  refine rVi E (q := 8) cvX5_50 T.rr 1 wc_1 rfl [.int source] (c_X4_has source) (by decide) rfl rfl (Nat.le_of_ble_eq_true rfl) ⟨(Nat.le_of_ble_eq_true rfl), (Nat.le_of_ble_eq_true rfl)⟩ dX5_clear_5 rfl ?_
  refine r_if_ne E (q := 11) 13 dX5_clear_8 (by decide) rfl (fun c1 => ?_) (fun c1 => ?_)
  · refine r_aload_n E (q := 14) 0 dX5_clear_13 rfl rfl rfl ?_
    refine r_get E (q := 17) fX5_12 0 wc_0 rfl dX5_clear_14 rfl ?_
    refine r_iload_n E (q := 18) 1 dX5_clear_17 rfl rfl rfl ?_
    refine rVi E (q := 21) cvX5_58 T.rr 1 wc_1 rfl [.int source] (c_X4_empty source (hasS_of (by assumption))) (by decide) rfl rfl (Nat.le_of_ble_eq_true rfl) ⟨(Nat.le_of_ble_eq_true rfl), (Nat.le_of_ble_eq_true rfl)⟩ dX5_clear_18 rfl ?_
    exact r_iret E T dX5_clear_21 (eqI.mk (by unfold fX5_clear; exact (if_neg c1).symm) (cgC (by unfold fX5_clear_G; exact (if_neg c1).symm) rfl))
  · refine r_iconst E (q := 12) (v := (-1)) dX5_clear_11 (by decide) rfl ?_
    exact r_iret E T dX5_clear_12 (eqI.mk (by unfold fX5_clear; exact (if_pos c1).symm) (cgC (by unfold fX5_clear_G; exact (if_pos c1).symm) rfl))
def fX5_table (G : Nat → Nat → Int32) (i : Int32) (v : Int32) : Int32 := if fX4_hasItem i = 0 then (-1) else 1
def fX5_table_G (G : Nat → Nat → Int32) (i : Int32) (v : Int32) : Nat → Nat → Int32 := if fX4_hasItem i = 0 then G else (ug G 4 (ix i) v)
set_option maxRecDepth 100000 in
set_option maxHeartbeats 800000 in
theorem c_X5_table {l : Launch} {k : Kt} {ad : Nat → Nat} {G : Nat → Nat → Int32} {V : Nat → Int32} {n : Nat} (i : Int32) (v : Int32) : CT l k yX5_table cX5_table 3 (some .int) 1 [.ref (ad 0), .int i, .int v] (WC k ad G V n) (eqI (fX5_table G i v) (WC k ad (fX5_table_G G i v) V n)) 0 0 := by
  refine ct_of (own := RX5) (lv0 := [(0, .ref (ad 0)), (1, .int i), (2, .int v)]) (by decide) rfl (Nat.le_of_ble_eq_true rfl) rfl ?_
  rintro z rfl rfl hz - E T
  refine r_aload_n E (q := 1) 0 dX5_table_0 rfl rfl rfl ?_
  refine r_get E (q := 4) fX5_12 0 wc_0 rfl dX5_table_1 rfl ?_
  refine r_iload_n E (q := 5) 1 dX5_table_4 rfl rfl rfl ?_
  refine rVi E (q := 8) cvX5_62 T.rr 1 wc_1 rfl [.int i] (c_X4_hasItem i) (by decide) rfl rfl (Nat.le_of_ble_eq_true rfl) ⟨(Nat.le_of_ble_eq_true rfl), (Nat.le_of_ble_eq_true rfl)⟩ dX5_table_5 rfl ?_
  refine r_if_ne E (q := 11) 13 dX5_table_8 (by decide) rfl (fun c1 => ?_) (fun c1 => ?_)
  · refine r_aload_n E (q := 14) 0 dX5_table_13 rfl rfl rfl ?_
    refine r_get E (q := 17) fX5_12 0 wc_0 rfl dX5_table_14 rfl ?_
    refine r_get E (q := 20) fX5_65 1 wc_1 rfl dX5_table_17 rfl ?_
    refine r_iload_n E (q := 21) 1 dX5_table_20 rfl rfl rfl ?_
    refine r_iload_n E (q := 22) 2 dX5_table_21 rfl rfl rfl ?_
    refine r_iast E (q := 23) 4 wc_4 (hasI_of (by assumption)) wcu_4 dX5_table_22 rfl ?_
    refine r_iconst E (q := 24) (v := 1) dX5_table_23 (by decide) rfl ?_
    exact r_iret E T dX5_table_24 (eqI.mk (by unfold fX5_table; exact (if_neg c1).symm) (cgC (by unfold fX5_table_G; exact (if_neg c1).symm) rfl))
  · refine r_iconst E (q := 12) (v := (-1)) dX5_table_11 (by decide) rfl ?_
    exact r_iret E T dX5_table_12 (eqI.mk (by unfold fX5_table; exact (if_pos c1).symm) (cgC (by unfold fX5_table_G; exact (if_pos c1).symm) rfl))
def fX5_formulaOf (G : Nat → Nat → Int32) (V : Nat → Int32) (f : Int32) (what : Int32) : Int32 := if fX0_has V f = 0 then (-1) else (if what = 0 then (G 10 (ix f)) else (if what = 1 then (fX5_asNumber (G 11 (ix f))) else (-1)))
set_option maxRecDepth 100000 in
set_option maxHeartbeats 800000 in
theorem c_X5_formulaOf {l : Launch} {k : Kt} {ad : Nat → Nat} {G : Nat → Nat → Int32} {V : Nat → Int32} {n : Nat} (f : Int32) (what : Int32) (h0 : ∃ j : Nat, j ≤ 40 ∧ V 0 = nI j) : CT l k yX5_formulaOf cX5_formulaOf 3 (some .int) 1 [.ref (ad 0), .int f, .int what] (WC k ad G V n) (eqI (fX5_formulaOf G V f what) (WC k ad G V n)) 0 0 := by
  refine ct_of (own := RX5) (lv0 := [(0, .ref (ad 0)), (1, .int f), (2, .int what)]) (by decide) rfl (Nat.le_of_ble_eq_true rfl) rfl ?_
  rintro z rfl rfl hz - E T
  refine r_aload_n E (q := 1) 0 dX5_formulaOf_0 rfl rfl rfl ?_
  refine r_get E (q := 4) fX5_19 0 wc_0 rfl dX5_formulaOf_1 rfl ?_
  refine r_iload_n E (q := 5) 1 dX5_formulaOf_4 rfl rfl rfl ?_
  refine rVi E (q := 8) cvX5_76 T.rr 5 wc_5 rfl [.int f] (c_X0_has f) (by decide) rfl rfl (Nat.le_of_ble_eq_true rfl) ⟨(Nat.le_of_ble_eq_true rfl), (Nat.le_of_ble_eq_true rfl)⟩ dX5_formulaOf_5 rfl ?_
  refine r_if_ne E (q := 11) 13 dX5_formulaOf_8 (by decide) rfl (fun c1 => ?_) (fun c1 => ?_)
  · refine r_iload_n E (q := 14) 2 dX5_formulaOf_13 rfl rfl rfl ?_
    by_cases c2 : what = 0
    · refine r_look E 40 dX5_formulaOf_14 (by decide) (by rw [c2]) (by decide) ?_
      refine r_aload_n E (q := 41) 0 dX5_formulaOf_40 rfl rfl rfl ?_
      refine r_get E (q := 44) fX5_19 0 wc_0 rfl dX5_formulaOf_41 rfl ?_
      refine r_get E (q := 47) fX5_77 5 wc_5 rfl dX5_formulaOf_44 rfl ?_
      refine r_iload_n E (q := 48) 1 dX5_formulaOf_47 rfl rfl rfl ?_
      refine r_iald E (q := 49) 10 wc_10 (hasF_of h0 (by assumption)) dX5_formulaOf_48 rfl ?_
      exact r_iret E T dX5_formulaOf_49 (eqI.mk (by unfold fX5_formulaOf; exact ((if_neg c1).trans (if_pos c2)).symm) rfl)
    · by_cases c3 : what = 1
      · refine r_look E 50 dX5_formulaOf_14 (by decide) (by rw [c3]) (by decide) ?_
        refine r_aload_n E (q := 51) 0 dX5_formulaOf_50 rfl rfl rfl ?_
        refine r_get E (q := 54) fX5_19 0 wc_0 rfl dX5_formulaOf_51 rfl ?_
        refine r_get E (q := 57) fX5_80 5 wc_5 rfl dX5_formulaOf_54 rfl ?_
        refine r_iload_n E (q := 58) 1 dX5_formulaOf_57 rfl rfl rfl ?_
        refine r_zald E (q := 59) 11 wc_11 (hasF_of h0 (by assumption)) dX5_formulaOf_58 rfl ?_
        refine rSi E (q := 62) csX5_84 T.rr [.int (G 11 (ix f))] (c_X5_asNumber (G 11 (ix f))) (by decide) rfl rfl (Nat.le_of_ble_eq_true rfl) ⟨(Nat.le_of_ble_eq_true rfl), (Nat.le_of_ble_eq_true rfl)⟩ dX5_formulaOf_59 rfl ?_
        exact r_iret E T dX5_formulaOf_62 (eqI.mk (by unfold fX5_formulaOf; exact ((if_neg c1).trans ((if_neg c2).trans (if_pos c3))).symm) rfl)
      · refine r_look E (off := 49) 63 dX5_formulaOf_14 (by decide) ((lv_osw (k := 0) c2 rfl).trans ((lv_osw (k := 1) c3 rfl).trans rfl)) (by decide) ?_
        refine r_iconst E (q := 64) (v := (-1)) dX5_formulaOf_63 (by decide) rfl ?_
        exact r_iret E T dX5_formulaOf_64 (eqI.mk (by unfold fX5_formulaOf; exact ((if_neg c1).trans ((if_neg c2).trans (if_neg c3))).symm) rfl)
  · refine r_iconst E (q := 12) (v := (-1)) dX5_formulaOf_11 (by decide) rfl ?_
    exact r_iret E T dX5_formulaOf_12 (eqI.mk (by unfold fX5_formulaOf; exact (if_pos c1).symm) rfl)
def fX5_told (G : Nat → Nat → Int32) (V : Nat → Int32) (x : Int32) (what : Int32) : Int32 := if fX1_has V x = 0 then (-1) else (if what = 0 then (G 13 (ix x)) else (if what = 1 then (G 14 (ix x)) else (if what = 2 then (G 15 (ix x)) else (if what = 3 then (G 16 (ix x)) else (if what = 4 then (G 17 (ix x)) else (if what = 5 then (G 18 (ix x)) else (if what = 6 then (fX5_asNumber (G 19 (ix x))) else (-1))))))))
set_option maxRecDepth 100000 in
set_option maxHeartbeats 800000 in
theorem c_X5_told {l : Launch} {k : Kt} {ad : Nat → Nat} {G : Nat → Nat → Int32} {V : Nat → Int32} {n : Nat} (x : Int32) (what : Int32) (h1 : ∃ j : Nat, j ≤ 60 ∧ V 1 = nI j) : CT l k yX5_told cX5_told 3 (some .int) 1 [.ref (ad 0), .int x, .int what] (WC k ad G V n) (eqI (fX5_told G V x what) (WC k ad G V n)) 0 0 := by
  refine ct_of (own := RX5) (lv0 := [(0, .ref (ad 0)), (1, .int x), (2, .int what)]) (by decide) rfl (Nat.le_of_ble_eq_true rfl) rfl ?_
  rintro z rfl rfl hz - E T
  refine r_aload_n E (q := 1) 0 dX5_told_0 rfl rfl rfl ?_
  refine r_get E (q := 4) fX5_28 0 wc_0 rfl dX5_told_1 rfl ?_
  refine r_iload_n E (q := 5) 1 dX5_told_4 rfl rfl rfl ?_
  refine rVi E (q := 8) cvX5_100 T.rr 12 wc_12 rfl [.int x] (c_X1_has x) (by decide) rfl rfl (Nat.le_of_ble_eq_true rfl) ⟨(Nat.le_of_ble_eq_true rfl), (Nat.le_of_ble_eq_true rfl)⟩ dX5_told_5 rfl ?_
  refine r_if_ne E (q := 11) 13 dX5_told_8 (by decide) rfl (fun c1 => ?_) (fun c1 => ?_)
  · refine r_iload_n E (q := 14) 2 dX5_told_13 rfl rfl rfl ?_
    by_cases c2 : what = 0
    · refine r_tabIn E 0 c2 56 dX5_told_14 (by decide) (by rfl) (by decide) ?_
      refine r_aload_n E (q := 57) 0 dX5_told_56 rfl rfl rfl ?_
      refine r_get E (q := 60) fX5_28 0 wc_0 rfl dX5_told_57 rfl ?_
      refine r_get E (q := 63) fX5_101 12 wc_12 rfl dX5_told_60 rfl ?_
      refine r_iload_n E (q := 64) 1 dX5_told_63 rfl rfl rfl ?_
      refine r_iald E (q := 65) 13 wc_13 (hasN_of h1 (by assumption)) dX5_told_64 rfl ?_
      exact r_iret E T dX5_told_65 (eqI.mk (by unfold fX5_told; exact ((if_neg c1).trans (if_pos c2)).symm) rfl)
    · by_cases c3 : what = 1
      · refine r_tabIn E 1 c3 66 dX5_told_14 (by decide) (by rfl) (by decide) ?_
        refine r_aload_n E (q := 67) 0 dX5_told_66 rfl rfl rfl ?_
        refine r_get E (q := 70) fX5_28 0 wc_0 rfl dX5_told_67 rfl ?_
        refine r_get E (q := 73) fX5_104 12 wc_12 rfl dX5_told_70 rfl ?_
        refine r_iload_n E (q := 74) 1 dX5_told_73 rfl rfl rfl ?_
        refine r_iald E (q := 75) 14 wc_14 (hasN_of h1 (by assumption)) dX5_told_74 rfl ?_
        exact r_iret E T dX5_told_75 (eqI.mk (by unfold fX5_told; exact ((if_neg c1).trans ((if_neg c2).trans (if_pos c3))).symm) rfl)
      · by_cases c4 : what = 2
        · refine r_tabIn E 2 c4 76 dX5_told_14 (by decide) (by rfl) (by decide) ?_
          refine r_aload_n E (q := 77) 0 dX5_told_76 rfl rfl rfl ?_
          refine r_get E (q := 80) fX5_28 0 wc_0 rfl dX5_told_77 rfl ?_
          refine r_get E (q := 83) fX5_107 12 wc_12 rfl dX5_told_80 rfl ?_
          refine r_iload_n E (q := 84) 1 dX5_told_83 rfl rfl rfl ?_
          refine r_iald E (q := 85) 15 wc_15 (hasN_of h1 (by assumption)) dX5_told_84 rfl ?_
          exact r_iret E T dX5_told_85 (eqI.mk (by unfold fX5_told; exact ((if_neg c1).trans ((if_neg c2).trans ((if_neg c3).trans (if_pos c4)))).symm) rfl)
        · by_cases c5 : what = 3
          · refine r_tabIn E 3 c5 86 dX5_told_14 (by decide) (by rfl) (by decide) ?_
            refine r_aload_n E (q := 87) 0 dX5_told_86 rfl rfl rfl ?_
            refine r_get E (q := 90) fX5_28 0 wc_0 rfl dX5_told_87 rfl ?_
            refine r_get E (q := 93) fX5_110 12 wc_12 rfl dX5_told_90 rfl ?_
            refine r_iload_n E (q := 94) 1 dX5_told_93 rfl rfl rfl ?_
            refine r_iald E (q := 95) 16 wc_16 (hasN_of h1 (by assumption)) dX5_told_94 rfl ?_
            exact r_iret E T dX5_told_95 (eqI.mk (by unfold fX5_told; exact ((if_neg c1).trans ((if_neg c2).trans ((if_neg c3).trans ((if_neg c4).trans (if_pos c5))))).symm) rfl)
          · by_cases c6 : what = 4
            · refine r_tabIn E 4 c6 96 dX5_told_14 (by decide) (by rfl) (by decide) ?_
              refine r_aload_n E (q := 97) 0 dX5_told_96 rfl rfl rfl ?_
              refine r_get E (q := 100) fX5_28 0 wc_0 rfl dX5_told_97 rfl ?_
              refine r_get E (q := 103) fX5_113 12 wc_12 rfl dX5_told_100 rfl ?_
              refine r_iload_n E (q := 104) 1 dX5_told_103 rfl rfl rfl ?_
              refine r_iald E (q := 105) 17 wc_17 (hasN_of h1 (by assumption)) dX5_told_104 rfl ?_
              exact r_iret E T dX5_told_105 (eqI.mk (by unfold fX5_told; exact ((if_neg c1).trans ((if_neg c2).trans ((if_neg c3).trans ((if_neg c4).trans ((if_neg c5).trans (if_pos c6)))))).symm) rfl)
            · by_cases c7 : what = 5
              · refine r_tabIn E 5 c7 106 dX5_told_14 (by decide) (by rfl) (by decide) ?_
                refine r_aload_n E (q := 107) 0 dX5_told_106 rfl rfl rfl ?_
                refine r_get E (q := 110) fX5_28 0 wc_0 rfl dX5_told_107 rfl ?_
                refine r_get E (q := 113) fX5_116 12 wc_12 rfl dX5_told_110 rfl ?_
                refine r_iload_n E (q := 114) 1 dX5_told_113 rfl rfl rfl ?_
                refine r_iald E (q := 115) 18 wc_18 (hasN_of h1 (by assumption)) dX5_told_114 rfl ?_
                exact r_iret E T dX5_told_115 (eqI.mk (by unfold fX5_told; exact ((if_neg c1).trans ((if_neg c2).trans ((if_neg c3).trans ((if_neg c4).trans ((if_neg c5).trans ((if_neg c6).trans (if_pos c7))))))).symm) rfl)
              · by_cases c8 : what = 6
                · refine r_tabIn E 6 c8 116 dX5_told_14 (by decide) (by rfl) (by decide) ?_
                  refine r_aload_n E (q := 117) 0 dX5_told_116 rfl rfl rfl ?_
                  refine r_get E (q := 120) fX5_28 0 wc_0 rfl dX5_told_117 rfl ?_
                  refine r_get E (q := 123) fX5_119 12 wc_12 rfl dX5_told_120 rfl ?_
                  refine r_iload_n E (q := 124) 1 dX5_told_123 rfl rfl rfl ?_
                  refine r_zald E (q := 125) 19 wc_19 (hasN_of h1 (by assumption)) dX5_told_124 rfl ?_
                  refine rSi E (q := 128) csX5_84 T.rr [.int (G 19 (ix x))] (c_X5_asNumber (G 19 (ix x))) (by decide) rfl rfl (Nat.le_of_ble_eq_true rfl) ⟨(Nat.le_of_ble_eq_true rfl), (Nat.le_of_ble_eq_true rfl)⟩ dX5_told_125 rfl ?_
                  exact r_iret E T dX5_told_128 (eqI.mk (by unfold fX5_told; exact ((if_neg c1).trans ((if_neg c2).trans ((if_neg c3).trans ((if_neg c4).trans ((if_neg c5).trans ((if_neg c6).trans ((if_neg c7).trans (if_pos c8)))))))).symm) rfl)
                · refine r_tabOut E 129 dX5_told_14 (sw_out (fun j hj e => by match j with | 0 => exact c2 (e.trans (by decide)) | 1 => exact c3 (e.trans (by decide)) | 2 => exact c4 (e.trans (by decide)) | 3 => exact c5 (e.trans (by decide)) | 4 => exact c6 (e.trans (by decide)) | 5 => exact c7 (e.trans (by decide)) | 6 => exact c8 (e.trans (by decide)) | j + 7 => omega)) (by decide) ?_
                  refine r_iconst E (q := 130) (v := (-1)) dX5_told_129 (by decide) rfl ?_
                  exact r_iret E T dX5_told_130 (eqI.mk (by unfold fX5_told; exact ((if_neg c1).trans ((if_neg c2).trans ((if_neg c3).trans ((if_neg c4).trans ((if_neg c5).trans ((if_neg c6).trans ((if_neg c7).trans (if_neg c8)))))))).symm) rfl)
  · refine r_iconst E (q := 12) (v := (-1)) dX5_told_11 (by decide) rfl ?_
    exact r_iret E T dX5_told_12 (eqI.mk (by unfold fX5_told; exact (if_pos c1).symm) rfl)
def fX5_worked (V : Nat → Int32) (what : Int32) : Int32 := if what = 0 then (V 5) else (if what = 1 then (V 6) else (if what = 2 then (V 7) else (if what = 3 then (V 8) else (-1))))
set_option maxRecDepth 100000 in
set_option maxHeartbeats 800000 in
theorem c_X5_worked {l : Launch} {k : Kt} {ad : Nat → Nat} {G : Nat → Nat → Int32} {V : Nat → Int32} {n : Nat} (what : Int32) : CT l k yX5_worked cX5_worked 2 (some .int) 0 [.ref (ad 0), .int what] (WC k ad G V n) (eqI (fX5_worked V what) (WC k ad G V n)) 0 0 := by
  refine ct_of (own := RX5) (lv0 := [(0, .ref (ad 0)), (1, .int what)]) (by decide) rfl (Nat.le_of_ble_eq_true rfl) rfl ?_
  rintro z rfl rfl hz - E T
  refine r_iload_n E (q := 1) 1 dX5_worked_0 rfl rfl rfl ?_
  by_cases c1 : what = 0
  · refine r_tabIn E 0 c1 32 dX5_worked_1 (by decide) (by rfl) (by decide) ?_
    refine r_aload_n E (q := 33) 0 dX5_worked_32 rfl rfl rfl ?_
    refine r_get E (q := 36) fX5_37 0 wc_0 rfl dX5_worked_33 rfl ?_
    refine r_get E (q := 39) fX5_130 23 wc_23 rfl dX5_worked_36 rfl ?_
    exact r_iret E T dX5_worked_39 (eqI.mk (by unfold fX5_worked; exact (if_pos c1).symm) rfl)
  · by_cases c2 : what = 1
    · refine r_tabIn E 1 c2 40 dX5_worked_1 (by decide) (by rfl) (by decide) ?_
      refine r_aload_n E (q := 41) 0 dX5_worked_40 rfl rfl rfl ?_
      refine r_get E (q := 44) fX5_37 0 wc_0 rfl dX5_worked_41 rfl ?_
      refine r_get E (q := 47) fX5_134 23 wc_23 rfl dX5_worked_44 rfl ?_
      exact r_iret E T dX5_worked_47 (eqI.mk (by unfold fX5_worked; exact ((if_neg c1).trans (if_pos c2)).symm) rfl)
    · by_cases c3 : what = 2
      · refine r_tabIn E 2 c3 48 dX5_worked_1 (by decide) (by rfl) (by decide) ?_
        refine r_aload_n E (q := 49) 0 dX5_worked_48 rfl rfl rfl ?_
        refine r_get E (q := 52) fX5_37 0 wc_0 rfl dX5_worked_49 rfl ?_
        refine r_get E (q := 55) fX5_137 23 wc_23 rfl dX5_worked_52 rfl ?_
        exact r_iret E T dX5_worked_55 (eqI.mk (by unfold fX5_worked; exact ((if_neg c1).trans ((if_neg c2).trans (if_pos c3))).symm) rfl)
      · by_cases c4 : what = 3
        · refine r_tabIn E 3 c4 56 dX5_worked_1 (by decide) (by rfl) (by decide) ?_
          refine r_aload_n E (q := 57) 0 dX5_worked_56 rfl rfl rfl ?_
          refine r_get E (q := 60) fX5_37 0 wc_0 rfl dX5_worked_57 rfl ?_
          refine r_get E (q := 63) fX5_140 23 wc_23 rfl dX5_worked_60 rfl ?_
          exact r_iret E T dX5_worked_63 (eqI.mk (by unfold fX5_worked; exact ((if_neg c1).trans ((if_neg c2).trans ((if_neg c3).trans (if_pos c4)))).symm) rfl)
        · refine r_tabOut E 64 dX5_worked_1 (sw_out (fun j hj e => by match j with | 0 => exact c1 (e.trans (by decide)) | 1 => exact c2 (e.trans (by decide)) | 2 => exact c3 (e.trans (by decide)) | 3 => exact c4 (e.trans (by decide)) | j + 4 => omega)) (by decide) ?_
          refine r_iconst E (q := 65) (v := (-1)) dX5_worked_64 (by decide) rfl ?_
          exact r_iret E T dX5_worked_65 (eqI.mk (by unfold fX5_worked; exact ((if_neg c1).trans ((if_neg c2).trans ((if_neg c3).trans (if_neg c4)))).symm) rfl)
