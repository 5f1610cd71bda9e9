def fX2_exchange_G (G : Nat → Nat → Int32) (x : Int32) (lower : Int32) (a : Int32) (b : Int32) : Nat → Nat → Int32 := fX1_write_G G x (G 13 (ix lower)) a b (G 16 (ix lower)) (G 17 (ix lower))
set_option maxRecDepth 100000 in
set_option maxHeartbeats 800000 in
theorem c_X2_exchange {l : Launch} {k : Kt} {ad : Nat → Nat} {G : Nat → Nat → Int32} {V : Nat → Int32} {n : Nat} (x : Int32) (lower : Int32) (a : Int32) (b : Int32) (hx : vp_in x 60) (hl : vp_in lower 60) (ha : ¬ G 13 (ix lower) = 0 → vp_in a 60) (hb : G 13 (ix lower) = 4 ∨ G 13 (ix lower) = 5 → vp_in b 60) (hv : G 13 (ix lower) = 1 ∨ G 13 (ix lower) = 2 → vp_in (G 17 (ix lower)) 40) : CT l k yX2_exchange cX2_exchange 5 none 3 [.ref (ad 27), .int x, .int lower, .int a, .int b] (WC k ad G V n) (eqV (WC k ad (fX2_exchange_G G x lower a b) V n)) 0 0 := by
  refine ct_of (own := RX2) (lv0 := [(0, .ref (ad 27)), (1, .int x), (2, .int lower), (3, .int a), (4, .int b)]) (by decide) rfl (Nat.le_of_ble_eq_true rfl) rfl ?_
  rintro z rfl rfl hz - E T
  refine r_aload_n E (q := 1) 0 dX2_exchange_0 rfl rfl rfl ?_
  refine r_get E (q := 4) fX2_13 27 wc_27 rfl dX2_exchange_1 rfl ?_
  refine r_iload_n E (q := 5) 1 dX2_exchange_4 rfl rfl rfl ?_
  refine r_aload_n E (q := 6) 0 dX2_exchange_5 rfl rfl rfl ?_
  refine r_get E (q := 9) fX2_13 27 wc_27 rfl dX2_exchange_6 rfl ?_
  refine r_get E (q := 12) fX2_17 12 wc_12 rfl dX2_exchange_9 rfl ?_
  refine r_iload_n E (q := 13) 2 dX2_exchange_12 rfl rfl rfl ?_
  refine r_iald E (q := 14) 13 wc_13 (by assumption) dX2_exchange_13 rfl ?_
  refine r_iload_n E (q := 15) 3 dX2_exchange_14 rfl rfl rfl ?_
  refine r_iload E (q := 17) 4 dX2_exchange_15 rfl rfl ?_
  refine r_aload_n E (q := 18) 0 dX2_exchange_17 rfl rfl rfl ?_
  refine r_get E (q := 21) fX2_13 27 wc_27 rfl dX2_exchange_18 rfl ?_
  refine r_get E (q := 24) fX2_51 12 wc_12 rfl dX2_exchange_21 rfl ?_
  refine r_iload_n E (q := 25) 2 dX2_exchange_24 rfl rfl rfl ?_
  refine r_iald E (q := 26) 16 wc_16 (by assumption) dX2_exchange_25 rfl ?_
  refine r_aload_n E (q := 27) 0 dX2_exchange_26 rfl rfl rfl ?_
  refine r_get E (q := 30) fX2_13 27 wc_27 rfl dX2_exchange_27 rfl ?_
  refine r_get E (q := 33) fX2_32 12 wc_12 rfl dX2_exchange_30 rfl ?_
  refine r_iload_n E (q := 34) 2 dX2_exchange_33 rfl rfl rfl ?_
  refine r_iald E (q := 35) 17 wc_17 (by assumption) dX2_exchange_34 rfl ?_
  refine rVv E (q := 38) cvX2_107 T.rr 12 wc_12 rfl [.int x, .int (G 13 (ix lower)), .int a, .int b, .int (G 16 (ix lower)), .int (G 17 (ix lower))] (c_X1_write x (G 13 (ix lower)) a b (G 16 (ix lower)) (G 17 (ix lower)) (by assumption) (by assumption) (by assumption) (by assumption)) (by decide) rfl rfl (Nat.le_of_ble_eq_true rfl) ⟨(Nat.le_of_ble_eq_true rfl), (Nat.le_of_ble_eq_true rfl)⟩ dX2_exchange_35 rfl ?_
  exact r_vret E T dX2_exchange_38 (eqV.mk (cgC (by unfold fX2_exchange_G; exact rfl) rfl))
def fX2_skip_G (G : Nat → Nat → Int32) (x : Int32) (lower : Int32) (value : Int32) : Nat → Nat → Int32 := fX1_write_G G x (G 13 (ix x)) (G 14 (ix lower)) 0 (G 16 (ix x)) value
set_option maxRecDepth 100000 in
set_option maxHeartbeats 800000 in
theorem c_X2_skip {l : Launch} {k : Kt} {ad : Nat → Nat} {G : Nat → Nat → Int32} {V : Nat → Int32} {n : Nat} (x : Int32) (lower : Int32) (value : Int32) (hx : vp_in x 60) (hl : vp_in lower 60) (ha : ¬ G 13 (ix x) = 0 → vp_in (G 14 (ix lower)) 60) (hv : G 13 (ix x) = 1 ∨ G 13 (ix x) = 2 → vp_in value 40) : CT l k yX2_skip cX2_skip 4 none 3 [.ref (ad 27), .int x, .int lower, .int value] (WC k ad G V n) (eqV (WC k ad (fX2_skip_G G x lower value) V n)) 0 0 := by
  refine ct_of (own := RX2) (lv0 := [(0, .ref (ad 27)), (1, .int x), (2, .int lower), (3, .int value)]) (by decide) rfl (Nat.le_of_ble_eq_true rfl) rfl ?_
  rintro z rfl rfl hz - E T
  refine r_aload_n E (q := 1) 0 dX2_skip_0 rfl rfl rfl ?_
  refine r_get E (q := 4) fX2_13 27 wc_27 rfl dX2_skip_1 rfl ?_
  refine r_iload_n E (q := 5) 1 dX2_skip_4 rfl rfl rfl ?_
  refine r_aload_n E (q := 6) 0 dX2_skip_5 rfl rfl rfl ?_
  refine r_get E (q := 9) fX2_13 27 wc_27 rfl dX2_skip_6 rfl ?_
  refine r_get E (q := 12) fX2_17 12 wc_12 rfl dX2_skip_9 rfl ?_
  refine r_iload_n E (q := 13) 1 dX2_skip_12 rfl rfl rfl ?_
  refine r_iald E (q := 14) 13 wc_13 (by assumption) dX2_skip_13 rfl ?_
  refine r_aload_n E (q := 15) 0 dX2_skip_14 rfl rfl rfl ?_
  refine r_get E (q := 18) fX2_13 27 wc_27 rfl dX2_skip_15 rfl ?_
  refine r_get E (q := 21) fX2_26 12 wc_12 rfl dX2_skip_18 rfl ?_
  refine r_iload_n E (q := 22) 2 dX2_skip_21 rfl rfl rfl ?_
  refine r_iald E (q := 23) 14 wc_14 (by assumption) dX2_skip_22 rfl ?_
  refine r_iconst E (q := 24) (v := 0) dX2_skip_23 (by decide) rfl ?_
  refine r_aload_n E (q := 25) 0 dX2_skip_24 rfl rfl rfl ?_
  refine r_get E (q := 28) fX2_13 27 wc_27 rfl dX2_skip_25 rfl ?_
  refine r_get E (q := 31) fX2_51 12 wc_12 rfl dX2_skip_28 rfl ?_
  refine r_iload_n E (q := 32) 1 dX2_skip_31 rfl rfl rfl ?_
  refine r_iald E (q := 33) 16 wc_16 (by assumption) dX2_skip_32 rfl ?_
  refine r_iload_n E (q := 34) 3 dX2_skip_33 rfl rfl rfl ?_
  refine rVv E (q := 37) cvX2_107 T.rr 12 wc_12 rfl [.int x, .int (G 13 (ix x)), .int (G 14 (ix lower)), .int 0, .int (G 16 (ix x)), .int value] (c_X1_write x (G 13 (ix x)) (G 14 (ix lower)) 0 (G 16 (ix x)) value hx ha (fun _ => by unfold vp_in; decide) hv) (by decide) rfl rfl (Nat.le_of_ble_eq_true rfl) ⟨(Nat.le_of_ble_eq_true rfl), (Nat.le_of_ble_eq_true rfl)⟩ dX2_skip_34 rfl ?_
  exact r_vret E T dX2_skip_37 (eqV.mk (cgC (by unfold fX2_skip_G; exact rfl) rfl))
def fX2_addLike (G : Nat → Nat → Int32) (V : Nat → Int32) (x : Int32) (o : Int32) : Int32 := fX1_add G V (G 13 (ix x)) o 0 (G 16 (ix x)) (G 17 (ix x))
def fX2_addLike_G (G : Nat → Nat → Int32) (V : Nat → Int32) (x : Int32) (o : Int32) : Nat → Nat → Int32 := fX1_add_G G V (G 13 (ix x)) o 0 (G 16 (ix x)) (G 17 (ix x))
def fX2_addLike_V (G : Nat → Nat → Int32) (V : Nat → Int32) (x : Int32) (o : Int32) : Nat → Int32 := fX1_add_V G V (G 13 (ix x)) o 0 (G 16 (ix x)) (G 17 (ix x))
set_option maxRecDepth 100000 in
set_option maxHeartbeats 800000 in
theorem c_X2_addLike {l : Launch} {k : Kt} {ad : Nat → Nat} {G : Nat → Nat → Int32} {V : Nat → Int32} {n : Nat} (x : Int32) (o : Int32) (hx : vp_in x 60) (hn : vp_in (V 1) 60) (ha : ¬ G 13 (ix x) = 0 → vp_in o 60) (hv : G 13 (ix x) = 1 ∨ G 13 (ix x) = 2 → vp_in (G 17 (ix x)) 40) : CT l k yX2_addLike cX2_addLike 3 (some .int) 4 [.ref (ad 27), .int x, .int o] (WC k ad G V n) (eqI (fX2_addLike G V x o) (WC k ad (fX2_addLike_G G V x o) (fX2_addLike_V G V x o) n)) 0 0 := by
  refine ct_of (own := RX2) (lv0 := [(0, .ref (ad 27)), (1, .int x), (2, .int o)]) (by decide) rfl (Nat.le_of_ble_eq_true rfl) rfl ?_
  rintro z rfl rfl hz - E T
  refine r_aload_n E (q := 1) 0 dX2_addLike_0 rfl rfl rfl ?_
  refine r_get E (q := 4) fX2_13 27 wc_27 rfl dX2_addLike_1 rfl ?_
  refine r_aload_n E (q := 5) 0 dX2_addLike_4 rfl rfl rfl ?_
  refine r_get E (q := 8) fX2_13 27 wc_27 rfl dX2_addLike_5 rfl ?_
  refine r_get E (q := 11) fX2_17 12 wc_12 rfl dX2_addLike_8 rfl ?_
  refine r_iload_n E (q := 12) 1 dX2_addLike_11 rfl rfl rfl ?_
  refine r_iald E (q := 13) 13 wc_13 (by assumption) dX2_addLike_12 rfl ?_
  refine r_iload_n E (q := 14) 2 dX2_addLike_13 rfl rfl rfl ?_
  refine r_iconst E (q := 15) (v := 0) dX2_addLike_14 (by decide) rfl ?_
  refine r_aload_n E (q := 16) 0 dX2_addLike_15 rfl rfl rfl ?_
  refine r_get E (q := 19) fX2_13 27 wc_27 rfl dX2_addLike_16 rfl ?_
  refine r_get E (q := 22) fX2_51 12 wc_12 rfl dX2_addLike_19 rfl ?_
  refine r_iload_n E (q := 23) 1 dX2_addLike_22 rfl rfl rfl ?_
  refine r_iald E (q := 24) 16 wc_16 (by assumption) dX2_addLike_23 rfl ?_
  refine r_aload_n E (q := 25) 0 dX2_addLike_24 rfl rfl rfl ?_
  refine r_get E (q := 28) fX2_13 27 wc_27 rfl dX2_addLike_25 rfl ?_
  refine r_get E (q := 31) fX2_32 12 wc_12 rfl dX2_addLike_28 rfl ?_
  refine r_iload_n E (q := 32) 1 dX2_addLike_31 rfl rfl rfl ?_
  refine r_iald E (q := 33) 17 wc_17 (by assumption) dX2_addLike_32 rfl ?_
  refine rVi E (q := 36) cvX2_111 T.rr 12 wc_12 rfl [.int (G 13 (ix x)), .int o, .int 0, .int (G 16 (ix x)), .int (G 17 (ix x))] (c_X1_add (G 13 (ix x)) o 0 (G 16 (ix x)) (G 17 (ix x)) hn ha (fun _ => by unfold vp_in; decide) hv) (by decide) rfl rfl (Nat.le_of_ble_eq_true rfl) ⟨(Nat.le_of_ble_eq_true rfl), (Nat.le_of_ble_eq_true rfl)⟩ dX2_addLike_33 rfl ?_
  exact r_iret E T dX2_addLike_36 (eqI.mk (by unfold fX2_addLike; exact rfl) (cgC (by unfold fX2_addLike_G; exact rfl) (by unfold fX2_addLike_V; exact rfl)))
def fX2_workAbove_G (G : Nat → Nat → Int32) (V : Nat → Int32) (x : Int32) (a : Int32) (b : Int32) : Nat → Nat → Int32 := fX1_write_G (fX1_add_G G V 5 a b 0 0) x ((fX1_add_G G V 5 a b 0 0) 13 (ix x)) (fX1_add G V 5 a b 0 0) 0 ((fX1_add_G G V 5 a b 0 0) 16 (ix x)) ((fX1_add_G G V 5 a b 0 0) 17 (ix x))
def fX2_workAbove_V (G : Nat → Nat → Int32) (V : Nat → Int32) (x : Int32) (a : Int32) (b : Int32) : Nat → Int32 := fX1_add_V G V 5 a b 0 0
set_option maxRecDepth 100000 in
set_option maxHeartbeats 800000 in
theorem c_X2_workAbove {l : Launch} {k : Kt} {ad : Nat → Nat} {G : Nat → Nat → Int32} {V : Nat → Int32} {n : Nat} (x : Int32) (a : Int32) (b : Int32) (hx : vp_in x 60) (hn : vp_in (V 1) 60) (ha : vp_in a 60) (hb : vp_in b 60) (hv : (fX1_add_G G V 5 a b 0 0) 13 (ix x) = 1 ∨ (fX1_add_G G V 5 a b 0 0) 13 (ix x) = 2 → vp_in ((fX1_add_G G V 5 a b 0 0) 17 (ix x)) 40) : CT l k yX2_workAbove cX2_workAbove 5 none 4 [.ref (ad 27), .int x, .int a, .int b] (WC k ad G V n) (eqV (WC k ad (fX2_workAbove_G G V x a b) (fX2_workAbove_V G V x a b) n)) 0 0 := by
  refine ct_of (own := RX2) (lv0 := [(0, .ref (ad 27)), (1, .int x), (2, .int a), (3, .int b)]) (by decide) rfl (Nat.le_of_ble_eq_true rfl) rfl ?_
  rintro z rfl rfl hz - E T
  refine r_aload_n E (q := 1) 0 dX2_workAbove_0 rfl rfl rfl ?_
  refine r_get E (q := 4) fX2_13 27 wc_27 rfl dX2_workAbove_1 rfl ?_
  refine r_iconst E (q := 5) (v := 5) dX2_workAbove_4 (by decide) rfl ?_
  refine r_iload_n E (q := 6) 2 dX2_workAbove_5 rfl rfl rfl ?_
  refine r_iload_n E (q := 7) 3 dX2_workAbove_6 rfl rfl rfl ?_
  refine r_iconst E (q := 8) (v := 0) dX2_workAbove_7 (by decide) rfl ?_
  refine r_iconst E (q := 9) (v := 0) dX2_workAbove_8 (by decide) rfl ?_
  refine rVi E (q := 12) cvX2_111 T.rr 12 wc_12 rfl [.int 5, .int a, .int b, .int 0, .int 0] (c_X1_add 5 a b 0 0 hn (fun _ => ha) (fun _ => hb) (fun h => absurd h (by decide))) (by decide) rfl rfl (Nat.le_of_ble_eq_true rfl) ⟨(Nat.le_of_ble_eq_true rfl), (Nat.le_of_ble_eq_true rfl)⟩ dX2_workAbove_9 rfl ?_
  refine r_istore E (q := 14) (lv' := [(0, .ref (ad 27)), (1, .int x), (2, .int a), (3, .int b), (4, .int (fX1_add G V 5 a b 0 0))]) [1, 2, 3, 4, 0] dX2_workAbove_12 (by rw [hz]; decide) rfl rfl ?_
  refine r_aload_n E (q := 15) 0 dX2_workAbove_14 rfl rfl rfl ?_
  refine r_get E (q := 18) fX2_13 27 wc_27 rfl dX2_workAbove_15 rfl ?_
  refine r_iload_n E (q := 19) 1 dX2_workAbove_18 rfl rfl rfl ?_
  refine r_aload_n E (q := 20) 0 dX2_workAbove_19 rfl rfl rfl ?_
  refine r_get E (q := 23) fX2_13 27 wc_27 rfl dX2_workAbove_20 rfl ?_
  refine r_get E (q := 26) fX2_17 12 wc_12 rfl dX2_workAbove_23 rfl ?_
  refine r_iload_n E (q := 27) 1 dX2_workAbove_26 rfl rfl rfl ?_
  refine r_iald E (q := 28) 13 wc_13 (by assumption) dX2_workAbove_27 rfl ?_
  refine r_iload E (q := 30) 4 dX2_workAbove_28 rfl rfl ?_
  refine r_iconst E (q := 31) (v := 0) dX2_workAbove_30 (by decide) rfl ?_
  refine r_aload_n E (q := 32) 0 dX2_workAbove_31 rfl rfl rfl ?_
  refine r_get E (q := 35) fX2_13 27 wc_27 rfl dX2_workAbove_32 rfl ?_
  refine r_get E (q := 38) fX2_51 12 wc_12 rfl dX2_workAbove_35 rfl ?_
  refine r_iload_n E (q := 39) 1 dX2_workAbove_38 rfl rfl rfl ?_
  refine r_iald E (q := 40) 16 wc_16 (by assumption) dX2_workAbove_39 rfl ?_
  refine r_aload_n E (q := 41) 0 dX2_workAbove_40 rfl rfl rfl ?_
  refine r_get E (q := 44) fX2_13 27 wc_27 rfl dX2_workAbove_41 rfl ?_
  refine r_get E (q := 47) fX2_32 12 wc_12 rfl dX2_workAbove_44 rfl ?_
  refine r_iload_n E (q := 48) 1 dX2_workAbove_47 rfl rfl rfl ?_
  refine r_iald E (q := 49) 17 wc_17 (by assumption) dX2_workAbove_48 rfl ?_
  refine rVv E (q := 52) cvX2_107 T.rr 12 wc_12 rfl [.int x, .int ((fX1_add_G G V 5 a b 0 0) 13 (ix x)), .int (fX1_add G V 5 a b 0 0), .int 0, .int ((fX1_add_G G V 5 a b 0 0) 16 (ix x)), .int ((fX1_add_G G V 5 a b 0 0) 17 (ix x))] (c_X1_write x ((fX1_add_G G V 5 a b 0 0) 13 (ix x)) (fX1_add G V 5 a b 0 0) 0 ((fX1_add_G G V 5 a b 0 0) 16 (ix x)) ((fX1_add_G G V 5 a b 0 0) 17 (ix x)) hx (fun _ => show vp_in (V 1) 60 from hn) (fun _ => by unfold vp_in; decide) hv) (by decide) rfl rfl (Nat.le_of_ble_eq_true rfl) ⟨(Nat.le_of_ble_eq_true rfl), (Nat.le_of_ble_eq_true rfl)⟩ dX2_workAbove_49 rfl ?_
  exact r_vret E T dX2_workAbove_52 (eqV.mk (cgC (by unfold fX2_workAbove_G; exact rfl) (by unfold fX2_workAbove_V; exact rfl)))
