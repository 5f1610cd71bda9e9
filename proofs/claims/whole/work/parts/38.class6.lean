theorem RR.le {z : Zt} {d d2 mc ms : Nat} (h : RR z d mc ms) (hd : d2 ≤ d) : RR z d2 mc ms := ⟨Nat.le_trans hd h.1, Nat.le_trans (Nat.mul_le_mul_left 40 hd) h.2.1, h.2.2⟩
set_option maxRecDepth 100000 in
set_option maxHeartbeats 800000 in
theorem ap_0 {z : Zt} (E : EN z cX2_apply RX2) {w0 : va_W} {P : Option Value → va_W → Prop} {lvl : Nat} (T : RT z none lvl w0 P 0 0) (hz : zn z = 4) {ad : Nat → Nat} {G : Nat → Nat → Int32} {V : Nat → Int32} {n : Nat} (hlv : 6 ≤ lvl) (x rule : Int32) (hr : rule = 0) 
    (o1 : vp_in x 60) 
    (o2 : vp_in (G 14 (ix x)) 60) 
    (o3 : vp_in ((upd V 9 ((V 9) + 1)) 1) 60) 
    (o4 : (¬ G 13 (ix x) = 0 → vp_in (G 14 (ix (G 14 (ix x)))) 60)) 
    (o5 : (G 13 (ix x) = 1 ∨ G 13 (ix x) = 2 → vp_in (G 17 (ix x)) 40)) 
    (o6 : ∀ (G1 : Nat → Nat → Int32), G1 = fX2_addLike_G G (upd V 9 ((V 9) + 1)) x (G 14 (ix (G 14 (ix x)))) → vp_in (G 14 (ix x)) 60) 
    (o7 : ∀ (G1 : Nat → Nat → Int32), G1 = fX2_addLike_G G (upd V 9 ((V 9) + 1)) x (G 14 (ix (G 14 (ix x)))) → vp_in x 60) 
    (o8 : ∀ (G1 : Nat → Nat → Int32), G1 = fX2_addLike_G G (upd V 9 ((V 9) + 1)) x (G 14 (ix (G 14 (ix x)))) → (¬ G1 13 (ix (G 14 (ix x))) = 0 → vp_in (fX2_addLike G (upd V 9 ((V 9) + 1)) x (G 14 (ix (G 14 (ix x))))) 60)) 
    (o9 : ∀ (G1 : Nat → Nat → Int32), G1 = fX2_addLike_G G (upd V 9 ((V 9) + 1)) x (G 14 (ix (G 14 (ix x)))) → (G1 13 (ix (G 14 (ix x))) = 4 ∨ G1 13 (ix (G 14 (ix x))) = 5 → vp_in (G1 15 (ix (G 14 (ix x)))) 60)) 
    (o10 : ∀ (G1 : Nat → Nat → Int32), G1 = fX2_addLike_G G (upd V 9 ((V 9) + 1)) x (G 14 (ix (G 14 (ix x)))) → (G1 13 (ix (G 14 (ix x))) = 1 ∨ G1 13 (ix (G 14 (ix x))) = 2 → vp_in (G1 17 (ix (G 14 (ix x)))) 40))
    (k1 : ∀ (G1 G2 : Nat → Nat → Int32), G1 = fX2_addLike_G G (upd V 9 ((V 9) + 1)) x (G 14 (ix (G 14 (ix x)))) → G2 = fX2_exchange_G G1 x (G 14 (ix x)) (fX2_addLike G (upd V 9 ((V 9) + 1)) x (G 14 (ix (G 14 (ix x))))) (G1 15 (ix (G 14 (ix x)))) → P none (WC (zk z) ad G2 (fX2_addLike_V G (upd V 9 ((V 9) + 1)) x (G 14 (ix (G 14 (ix x))))) n)) :
    WW z 0 0 (WC (zk z) ad G V n) 0 [(0, .ref (ad 27)), (1, .int x), (2, .int rule)] [] := by
  refine r_aload_n E (q := 1) 0 dX2_apply_0 rfl rfl rfl ?_
  refine r_get E (q := 4) fX2_13 27 wc_27 rfl dX2_apply_1 rfl ?_
  refine r_get E (q := 7) fX2_26 12 wc_12 rfl dX2_apply_4 rfl ?_
  refine r_iload_n E (q := 8) 1 dX2_apply_7 rfl rfl rfl ?_
  refine r_iald E (q := 9) 14 wc_14 o1 dX2_apply_8 rfl ?_
  refine r_istore_n E (q := 10) (lv' := [(0, .ref (ad 27)), (1, .int x), (2, .int rule), (3, .int (G 14 (ix x)))]) [1, 2, 3, 0] dX2_apply_9 rfl (by rw [hz]; decide) rfl rfl ?_
  refine r_aload_n E (q := 11) 0 dX2_apply_10 rfl rfl rfl ?_
  refine r_dup E (q := 12) dX2_apply_11 rfl rfl ?_
  refine r_get E (q := 15) fX2_79 27 wc_27 rfl dX2_apply_12 rfl ?_
  refine r_iconst E (q := 16) (v := 1) dX2_apply_15 (by decide) rfl ?_
  refine r_iadd E (q := 17) dX2_apply_16 rfl ?_
  refine r_put E (q := 20) pX2_79 rfl 27 wc_27 rfl rfl (Nat.le_of_ble_eq_true rfl) wcv_9 dX2_apply_17 rfl ?_
  refine r_iload_n E (q := 21) 2 dX2_apply_20 rfl rfl rfl ?_
  refine r_tabOut E 309 dX2_apply_21 (by rw [hr]; decide) (by decide) ?_
  refine r_aload_n E (q := 310) 0 dX2_apply_309 rfl rfl rfl ?_
  refine r_iload_n E (q := 311) 1 dX2_apply_310 rfl rfl rfl ?_
  refine r_iload_n E (q := 312) 3 dX2_apply_311 rfl rfl rfl ?_
  refine r_aload_n E (q := 313) 0 dX2_apply_312 rfl rfl rfl ?_
  refine r_iload_n E (q := 314) 1 dX2_apply_313 rfl rfl rfl ?_
  refine r_aload_n E (q := 315) 0 dX2_apply_314 rfl rfl rfl ?_
  refine r_get E (q := 318) fX2_13 27 wc_27 rfl dX2_apply_315 rfl ?_
  refine r_get E (q := 321) fX2_26 12 wc_12 rfl dX2_apply_318 rfl ?_
  refine r_iload_n E (q := 322) 3 dX2_apply_321 rfl rfl rfl ?_
  refine r_iald E (q := 323) 14 wc_14 o2 dX2_apply_322 rfl ?_
  refine rVi E (q := 326) cvX2_83 T.rr 27 wc_27 rfl [.int x, .int (G 14 (ix (G 14 (ix x))))] (c_X2_addLike x (G 14 (ix (G 14 (ix x)))) o1 o3 o4 o5) (by omega) rfl rfl (Nat.le_of_ble_eq_true rfl) ⟨Nat.zero_le _, Nat.zero_le _⟩ dX2_apply_323 rfl ?_
  refine r_nGC (fun G1 eG1 => ?_)
  refine r_aload_n E (q := 327) 0 dX2_apply_326 rfl rfl rfl ?_
  refine r_get E (q := 330) fX2_13 27 wc_27 rfl dX2_apply_327 rfl ?_
  refine r_get E (q := 333) fX2_64 12 wc_12 rfl dX2_apply_330 rfl ?_
  refine r_iload_n E (q := 334) 3 dX2_apply_333 rfl rfl rfl ?_
  refine r_iald E (q := 335) 15 wc_15 (o6 G1 eG1) dX2_apply_334 rfl ?_
  refine rVv E (q := 338) cvX2_87 T.rr 27 wc_27 rfl [.int x, .int (G 14 (ix x)), .int (fX2_addLike G (upd V 9 ((V 9) + 1)) x (G 14 (ix (G 14 (ix x))))), .int (G1 15 (ix (G 14 (ix x))))] (c_X2_exchange x (G 14 (ix x)) (fX2_addLike G (upd V 9 ((V 9) + 1)) x (G 14 (ix (G 14 (ix x))))) (G1 15 (ix (G 14 (ix x)))) (o7 G1 eG1) (o6 G1 eG1) (o8 G1 eG1) (o9 G1 eG1) (o10 G1 eG1)) (by omega) rfl rfl (Nat.le_of_ble_eq_true rfl) ⟨Nat.zero_le _, Nat.zero_le _⟩ dX2_apply_335 rfl ?_
  refine r_nGC (fun G2 eG2 => ?_)
  exact r_vret E T dX2_apply_338 (k1 G1 G2 eG1 eG2)
set_option maxRecDepth 100000 in
set_option maxHeartbeats 800000 in
theorem ap_1 {z : Zt} (E : EN z cX2_apply RX2) {w0 : va_W} {P : Option Value → va_W → Prop} {lvl : Nat} (T : RT z none lvl w0 P 0 0) (hz : zn z = 4) {ad : Nat → Nat} {G : Nat → Nat → Int32} {V : Nat → Int32} {n : Nat} (hlv : 6 ≤ lvl) (x rule : Int32) (hr : rule = 1) 
    (o1 : vp_in x 60) 
    (o2 : vp_in (G 14 (ix x)) 60) 
    (o3 : vp_in ((upd V 9 ((V 9) + 1)) 1) 60) 
    (o4 : (¬ G 13 (ix x) = 0 → vp_in (G 14 (ix (G 14 (ix x)))) 60)) 
    (o5 : (G 13 (ix x) = 1 ∨ G 13 (ix x) = 2 → vp_in (G 17 (ix x)) 40)) 
    (o6 : ∀ (G1 : Nat → Nat → Int32), G1 = fX2_addLike_G G (upd V 9 ((V 9) + 1)) x (G 14 (ix (G 14 (ix x)))) → vp_in (G 14 (ix x)) 60) 
    (o7 : ∀ (G1 : Nat → Nat → Int32), G1 = fX2_addLike_G G (upd V 9 ((V 9) + 1)) x (G 14 (ix (G 14 (ix x)))) → vp_in x 60) 
    (o8 : ∀ (G1 : Nat → Nat → Int32), G1 = fX2_addLike_G G (upd V 9 ((V 9) + 1)) x (G 14 (ix (G 14 (ix x)))) → (¬ G1 13 (ix (G 14 (ix x))) = 0 → vp_in (fX2_addLike G (upd V 9 ((V 9) + 1)) x (G 14 (ix (G 14 (ix x))))) 60)) 
    (o9 : ∀ (G1 : Nat → Nat → Int32), G1 = fX2_addLike_G G (upd V 9 ((V 9) + 1)) x (G 14 (ix (G 14 (ix x)))) → (G1 13 (ix (G 14 (ix x))) = 4 ∨ G1 13 (ix (G 14 (ix x))) = 5 → vp_in (G1 15 (ix (G 14 (ix x)))) 60)) 
    (o10 : ∀ (G1 : Nat → Nat → Int32), G1 = fX2_addLike_G G (upd V 9 ((V 9) + 1)) x (G 14 (ix (G 14 (ix x)))) → (G1 13 (ix (G 14 (ix x))) = 1 ∨ G1 13 (ix (G 14 (ix x))) = 2 → vp_in (G1 17 (ix (G 14 (ix x)))) 40))
    (k1 : ∀ (G1 G2 : Nat → Nat → Int32), G1 = fX2_addLike_G G (upd V 9 ((V 9) + 1)) x (G 14 (ix (G 14 (ix x)))) → G2 = fX2_exchange_G G1 x (G 14 (ix x)) (fX2_addLike G (upd V 9 ((V 9) + 1)) x (G 14 (ix (G 14 (ix x))))) (G1 15 (ix (G 14 (ix x)))) → P none (WC (zk z) ad G2 (fX2_addLike_V G (upd V 9 ((V 9) + 1)) x (G 14 (ix (G 14 (ix x))))) n)) :
    WW z 0 0 (WC (zk z) ad G V n) 0 [(0, .ref (ad 27)), (1, .int x), (2, .int rule)] [] := by
  refine r_aload_n E (q := 1) 0 dX2_apply_0 rfl rfl rfl ?_
  refine r_get E (q := 4) fX2_13 27 wc_27 rfl dX2_apply_1 rfl ?_
  refine r_get E (q := 7) fX2_26 12 wc_12 rfl dX2_apply_4 rfl ?_
  refine r_iload_n E (q := 8) 1 dX2_apply_7 rfl rfl rfl ?_
  refine r_iald E (q := 9) 14 wc_14 o1 dX2_apply_8 rfl ?_
  refine r_istore_n E (q := 10) (lv' := [(0, .ref (ad 27)), (1, .int x), (2, .int rule), (3, .int (G 14 (ix x)))]) [1, 2, 3, 0] dX2_apply_9 rfl (by rw [hz]; decide) rfl rfl ?_
  refine r_aload_n E (q := 11) 0 dX2_apply_10 rfl rfl rfl ?_
  refine r_dup E (q := 12) dX2_apply_11 rfl rfl ?_
  refine r_get E (q := 15) fX2_79 27 wc_27 rfl dX2_apply_12 rfl ?_
  refine r_iconst E (q := 16) (v := 1) dX2_apply_15 (by decide) rfl ?_
  refine r_iadd E (q := 17) dX2_apply_16 rfl ?_
  refine r_put E (q := 20) pX2_79 rfl 27 wc_27 rfl rfl (Nat.le_of_ble_eq_true rfl) wcv_9 dX2_apply_17 rfl ?_
  refine r_iload_n E (q := 21) 2 dX2_apply_20 rfl rfl rfl ?_
  refine r_tabOut E 309 dX2_apply_21 (by rw [hr]; decide) (by decide) ?_
  refine r_aload_n E (q := 310) 0 dX2_apply_309 rfl rfl rfl ?_
  refine r_iload_n E (q := 311) 1 dX2_apply_310 rfl rfl rfl ?_
  refine r_iload_n E (q := 312) 3 dX2_apply_311 rfl rfl rfl ?_
  refine r_aload_n E (q := 313) 0 dX2_apply_312 rfl rfl rfl ?_
  refine r_iload_n E (q := 314) 1 dX2_apply_313 rfl rfl rfl ?_
  refine r_aload_n E (q := 315) 0 dX2_apply_314 rfl rfl rfl ?_
  refine r_get E (q := 318) fX2_13 27 wc_27 rfl dX2_apply_315 rfl ?_
  refine r_get E (q := 321) fX2_26 12 wc_12 rfl dX2_apply_318 rfl ?_
  refine r_iload_n E (q := 322) 3 dX2_apply_321 rfl rfl rfl ?_
  refine r_iald E (q := 323) 14 wc_14 o2 dX2_apply_322 rfl ?_
  refine rVi E (q := 326) cvX2_83 T.rr 27 wc_27 rfl [.int x, .int (G 14 (ix (G 14 (ix x))))] (c_X2_addLike x (G 14 (ix (G 14 (ix x)))) o1 o3 o4 o5) (by omega) rfl rfl (Nat.le_of_ble_eq_true rfl) ⟨Nat.zero_le _, Nat.zero_le _⟩ dX2_apply_323 rfl ?_
  refine r_nGC (fun G1 eG1 => ?_)
  refine r_aload_n E (q := 327) 0 dX2_apply_326 rfl rfl rfl ?_
  refine r_get E (q := 330) fX2_13 27 wc_27 rfl dX2_apply_327 rfl ?_
  refine r_get E (q := 333) fX2_64 12 wc_12 rfl dX2_apply_330 rfl ?_
  refine r_iload_n E (q := 334) 3 dX2_apply_333 rfl rfl rfl ?_
  refine r_iald E (q := 335) 15 wc_15 (o6 G1 eG1) dX2_apply_334 rfl ?_
  refine rVv E (q := 338) cvX2_87 T.rr 27 wc_27 rfl [.int x, .int (G 14 (ix x)), .int (fX2_addLike G (upd V 9 ((V 9) + 1)) x (G 14 (ix (G 14 (ix x))))), .int (G1 15 (ix (G 14 (ix x))))] (c_X2_exchange x (G 14 (ix x)) (fX2_addLike G (upd V 9 ((V 9) + 1)) x (G 14 (ix (G 14 (ix x))))) (G1 15 (ix (G 14 (ix x)))) (o7 G1 eG1) (o6 G1 eG1) (o8 G1 eG1) (o9 G1 eG1) (o10 G1 eG1)) (by omega) rfl rfl (Nat.le_of_ble_eq_true rfl) ⟨Nat.zero_le _, Nat.zero_le _⟩ dX2_apply_335 rfl ?_
  refine r_nGC (fun G2 eG2 => ?_)
  exact r_vret E T dX2_apply_338 (k1 G1 G2 eG1 eG2)
set_option maxRecDepth 100000 in
set_option maxHeartbeats 800000 in
theorem ap_2 {z : Zt} (E : EN z cX2_apply RX2) {w0 : va_W} {P : Option Value → va_W → Prop} {lvl : Nat} (T : RT z none lvl w0 P 0 0) (hz : zn z = 4) {ad : Nat → Nat} {G : Nat → Nat → Int32} {V : Nat → Int32} {n : Nat} (hlv : 6 ≤ lvl) (x rule : Int32) (hr : rule = 2) 
    (o1 : vp_in x 60) 
    (o2 : vp_in (G 14 (ix x)) 60) 
    (o3 : vp_in ((upd V 9 ((V 9) + 1)) 1) 60) 
    (o4 : (¬ G 13 (ix x) = 0 → vp_in (G 14 (ix (G 14 (ix x)))) 60)) 
    (o5 : (G 13 (ix x) = 1 ∨ G 13 (ix x) = 2 → vp_in (G 17 (ix x)) 40)) 
    (o6 : ∀ (G1 : Nat → Nat → Int32), G1 = fX2_addLike_G G (upd V 9 ((V 9) + 1)) x (G 14 (ix (G 14 (ix x)))) → vp_in (G 14 (ix x)) 60) 
    (o7 : ∀ (G1 : Nat → Nat → Int32), G1 = fX2_addLike_G G (upd V 9 ((V 9) + 1)) x (G 14 (ix (G 14 (ix x)))) → vp_in x 60) 
    (o8 : ∀ (G1 : Nat → Nat → Int32), G1 = fX2_addLike_G G (upd V 9 ((V 9) + 1)) x (G 14 (ix (G 14 (ix x)))) → (¬ G1 13 (ix (G 14 (ix x))) = 0 → vp_in (fX2_addLike G (upd V 9 ((V 9) + 1)) x (G 14 (ix (G 14 (ix x))))) 60)) 
    (o9 : ∀ (G1 : Nat → Nat → Int32), G1 = fX2_addLike_G G (upd V 9 ((V 9) + 1)) x (G 14 (ix (G 14 (ix x)))) → (G1 13 (ix (G 14 (ix x))) = 4 ∨ G1 13 (ix (G 14 (ix x))) = 5 → vp_in (G1 15 (ix (G 14 (ix x)))) 60)) 
    (o10 : ∀ (G1 : Nat → Nat → Int32), G1 = fX2_addLike_G G (upd V 9 ((V 9) + 1)) x (G 14 (ix (G 14 (ix x)))) → (G1 13 (ix (G 14 (ix x))) = 1 ∨ G1 13 (ix (G 14 (ix x))) = 2 → vp_in (G1 17 (ix (G 14 (ix x)))) 40))
    (k1 : ∀ (G1 G2 : Nat → Nat → Int32), G1 = fX2_addLike_G G (upd V 9 ((V 9) + 1)) x (G 14 (ix (G 14 (ix x)))) → G2 = fX2_exchange_G G1 x (G 14 (ix x)) (fX2_addLike G (upd V 9 ((V 9) + 1)) x (G 14 (ix (G 14 (ix x))))) (G1 15 (ix (G 14 (ix x)))) → P none (WC (zk z) ad G2 (fX2_addLike_V G (upd V 9 ((V 9) + 1)) x (G 14 (ix (G 14 (ix x))))) n)) :
    WW z 0 0 (WC (zk z) ad G V n) 0 [(0, .ref (ad 27)), (1, .int x), (2, .int rule)] [] := by
  refine r_aload_n E (q := 1) 0 dX2_apply_0 rfl rfl rfl ?_
  refine r_get E (q := 4) fX2_13 27 wc_27 rfl dX2_apply_1 rfl ?_
  refine r_get E (q := 7) fX2_26 12 wc_12 rfl dX2_apply_4 rfl ?_
  refine r_iload_n E (q := 8) 1 dX2_apply_7 rfl rfl rfl ?_
  refine r_iald E (q := 9) 14 wc_14 o1 dX2_apply_8 rfl ?_
  refine r_istore_n E (q := 10) (lv' := [(0, .ref (ad 27)), (1, .int x), (2, .int rule), (3, .int (G 14 (ix x)))]) [1, 2, 3, 0] dX2_apply_9 rfl (by rw [hz]; decide) rfl rfl ?_
  refine r_aload_n E (q := 11) 0 dX2_apply_10 rfl rfl rfl ?_
  refine r_dup E (q := 12) dX2_apply_11 rfl rfl ?_
  refine r_get E (q := 15) fX2_79 27 wc_27 rfl dX2_apply_12 rfl ?_
  refine r_iconst E (q := 16) (v := 1) dX2_apply_15 (by decide) rfl ?_
  refine r_iadd E (q := 17) dX2_apply_16 rfl ?_
  refine r_put E (q := 20) pX2_79 rfl 27 wc_27 rfl rfl (Nat.le_of_ble_eq_true rfl) wcv_9 dX2_apply_17 rfl ?_
  refine r_iload_n E (q := 21) 2 dX2_apply_20 rfl rfl rfl ?_
  refine r_tabOut E 309 dX2_apply_21 (by rw [hr]; decide) (by decide) ?_
  refine r_aload_n E (q := 310) 0 dX2_apply_309 rfl rfl rfl ?_
  refine r_iload_n E (q := 311) 1 dX2_apply_310 rfl rfl rfl ?_
  refine r_iload_n E (q := 312) 3 dX2_apply_311 rfl rfl rfl ?_
  refine r_aload_n E (q := 313) 0 dX2_apply_312 rfl rfl rfl ?_
  refine r_iload_n E (q := 314) 1 dX2_apply_313 rfl rfl rfl ?_
  refine r_aload_n E (q := 315) 0 dX2_apply_314 rfl rfl rfl ?_
  refine r_get E (q := 318) fX2_13 27 wc_27 rfl dX2_apply_315 rfl ?_
  refine r_get E (q := 321) fX2_26 12 wc_12 rfl dX2_apply_318 rfl ?_
  refine r_iload_n E (q := 322) 3 dX2_apply_321 rfl rfl rfl ?_
  refine r_iald E (q := 323) 14 wc_14 o2 dX2_apply_322 rfl ?_
  refine rVi E (q := 326) cvX2_83 T.rr 27 wc_27 rfl [.int x, .int (G 14 (ix (G 14 (ix x))))] (c_X2_addLike x (G 14 (ix (G 14 (ix x)))) o1 o3 o4 o5) (by omega) rfl rfl (Nat.le_of_ble_eq_true rfl) ⟨Nat.zero_le _, Nat.zero_le _⟩ dX2_apply_323 rfl ?_
  refine r_nGC (fun G1 eG1 => ?_)
  refine r_aload_n E (q := 327) 0 dX2_apply_326 rfl rfl rfl ?_
  refine r_get E (q := 330) fX2_13 27 wc_27 rfl dX2_apply_327 rfl ?_
  refine r_get E (q := 333) fX2_64 12 wc_12 rfl dX2_apply_330 rfl ?_
  refine r_iload_n E (q := 334) 3 dX2_apply_333 rfl rfl rfl ?_
  refine r_iald E (q := 335) 15 wc_15 (o6 G1 eG1) dX2_apply_334 rfl ?_
  refine rVv E (q := 338) cvX2_87 T.rr 27 wc_27 rfl [.int x, .int (G 14 (ix x)), .int (fX2_addLike G (upd V 9 ((V 9) + 1)) x (G 14 (ix (G 14 (ix x))))), .int (G1 15 (ix (G 14 (ix x))))] (c_X2_exchange x (G 14 (ix x)) (fX2_addLike G (upd V 9 ((V 9) + 1)) x (G 14 (ix (G 14 (ix x))))) (G1 15 (ix (G 14 (ix x)))) (o7 G1 eG1) (o6 G1 eG1) (o8 G1 eG1) (o9 G1 eG1) (o10 G1 eG1)) (by omega) rfl rfl (Nat.le_of_ble_eq_true rfl) ⟨Nat.zero_le _, Nat.zero_le _⟩ dX2_apply_335 rfl ?_
  refine r_nGC (fun G2 eG2 => ?_)
  exact r_vret E T dX2_apply_338 (k1 G1 G2 eG1 eG2)
set_option maxRecDepth 100000 in
set_option maxHeartbeats 800000 in
theorem ap_3 {z : Zt} (E : EN z cX2_apply RX2) {w0 : va_W} {P : Option Value → va_W → Prop} {lvl : Nat} (T : RT z none lvl w0 P 0 0) (hz : zn z = 4) {ad : Nat → Nat} {G : Nat → Nat → Int32} {V : Nat → Int32} {n : Nat} (hlv : 6 ≤ lvl) (x rule : Int32) (hr : rule = 3) 
    (o1 : vp_in x 60) 
    (o2 : vp_in (G 14 (ix x)) 60) 
    (o3 : vp_in ((upd V 9 ((V 9) + 1)) 1) 60) 
    (o4 : (¬ G 13 (ix x) = 0 → vp_in (G 15 (ix (G 14 (ix x)))) 60)) 
    (o5 : (G 13 (ix x) = 1 ∨ G 13 (ix x) = 2 → vp_in (G 17 (ix x)) 40)) 
    (o6 : ∀ (G1 : Nat → Nat → Int32), G1 = fX2_addLike_G G (upd V 9 ((V 9) + 1)) x (G 15 (ix (G 14 (ix x)))) → vp_in x 60) 
    (o7 : ∀ (G1 : Nat → Nat → Int32), G1 = fX2_addLike_G G (upd V 9 ((V 9) + 1)) x (G 15 (ix (G 14 (ix x)))) → vp_in (G 14 (ix x)) 60) 
    (o8 : ∀ (G1 : Nat → Nat → Int32), G1 = fX2_addLike_G G (upd V 9 ((V 9) + 1)) x (G 15 (ix (G 14 (ix x)))) → (¬ G1 13 (ix (G 14 (ix x))) = 0 → vp_in (G 14 (ix (G 14 (ix x)))) 60)) 
    (o9 : ∀ (G1 : Nat → Nat → Int32), G1 = fX2_addLike_G G (upd V 9 ((V 9) + 1)) x (G 15 (ix (G 14 (ix x)))) → (G1 13 (ix (G 14 (ix x))) = 4 ∨ G1 13 (ix (G 14 (ix x))) = 5 → vp_in (fX2_addLike G (upd V 9 ((V 9) + 1)) x (G 15 (ix (G 14 (ix x))))) 60)) 
    (o10 : ∀ (G1 : Nat → Nat → Int32), G1 = fX2_addLike_G G (upd V 9 ((V 9) + 1)) x (G 15 (ix (G 14 (ix x)))) → (G1 13 (ix (G 14 (ix x))) = 1 ∨ G1 13 (ix (G 14 (ix x))) = 2 → vp_in (G1 17 (ix (G 14 (ix x)))) 40))
    (k1 : ∀ (G1 G2 : Nat → Nat → Int32), G1 = fX2_addLike_G G (upd V 9 ((V 9) + 1)) x (G 15 (ix (G 14 (ix x)))) → G2 = fX2_exchange_G G1 x (G 14 (ix x)) (G 14 (ix (G 14 (ix x)))) (fX2_addLike G (upd V 9 ((V 9) + 1)) x (G 15 (ix (G 14 (ix x))))) → P none (WC (zk z) ad G2 (fX2_addLike_V G (upd V 9 ((V 9) + 1)) x (G 15 (ix (G 14 (ix x))))) n)) :
    WW z 0 0 (WC (zk z) ad G V n) 0 [(0, .ref (ad 27)), (1, .int x), (2, .int rule)] [] := by
  refine r_aload_n E (q := 1) 0 dX2_apply_0 rfl rfl rfl ?_
  refine r_get E (q := 4) fX2_13 27 wc_27 rfl dX2_apply_1 rfl ?_
  refine r_get E (q := 7) fX2_26 12 wc_12 rfl dX2_apply_4 rfl ?_
  refine r_iload_n E (q := 8) 1 dX2_apply_7 rfl rfl rfl ?_
  refine r_iald E (q := 9) 14 wc_14 o1 dX2_apply_8 rfl ?_
  refine r_istore_n E (q := 10) (lv' := [(0, .ref (ad 27)), (1, .int x), (2, .int rule), (3, .int (G 14 (ix x)))]) [1, 2, 3, 0] dX2_apply_9 rfl (by rw [hz]; decide) rfl rfl ?_
  refine r_aload_n E (q := 11) 0 dX2_apply_10 rfl rfl rfl ?_
  refine r_dup E (q := 12) dX2_apply_11 rfl rfl ?_
  refine r_get E (q := 15) fX2_79 27 wc_27 rfl dX2_apply_12 rfl ?_
  refine r_iconst E (q := 16) (v := 1) dX2_apply_15 (by decide) rfl ?_
  refine r_iadd E (q := 17) dX2_apply_16 rfl ?_
  refine r_put E (q := 20) pX2_79 rfl 27 wc_27 rfl rfl (Nat.le_of_ble_eq_true rfl) wcv_9 dX2_apply_17 rfl ?_
  refine r_iload_n E (q := 21) 2 dX2_apply_20 rfl rfl rfl ?_
  refine r_tabIn E 3 hr 92 dX2_apply_21 (by decide) (by rfl) (by decide) ?_
  refine r_aload_n E (q := 93) 0 dX2_apply_92 rfl rfl rfl ?_
  refine r_iload_n E (q := 94) 1 dX2_apply_93 rfl rfl rfl ?_
  refine r_iload_n E (q := 95) 3 dX2_apply_94 rfl rfl rfl ?_
  refine r_aload_n E (q := 96) 0 dX2_apply_95 rfl rfl rfl ?_
  refine r_get E (q := 99) fX2_13 27 wc_27 rfl dX2_apply_96 rfl ?_
  refine r_get E (q := 102) fX2_26 12 wc_12 rfl dX2_apply_99 rfl ?_
  refine r_iload_n E (q := 103) 3 dX2_apply_102 rfl rfl rfl ?_
  refine r_iald E (q := 104) 14 wc_14 o2 dX2_apply_103 rfl ?_
  refine r_aload_n E (q := 105) 0 dX2_apply_104 rfl rfl rfl ?_
  refine r_iload_n E (q := 106) 1 dX2_apply_105 rfl rfl rfl ?_
  refine r_aload_n E (q := 107) 0 dX2_apply_106 rfl rfl rfl ?_
  refine r_get E (q := 110) fX2_13 27 wc_27 rfl dX2_apply_107 rfl ?_
  refine r_get E (q := 113) fX2_64 12 wc_12 rfl dX2_apply_110 rfl ?_
  refine r_iload_n E (q := 114) 3 dX2_apply_113 rfl rfl rfl ?_
  refine r_iald E (q := 115) 15 wc_15 o2 dX2_apply_114 rfl ?_
  refine rVi E (q := 118) cvX2_83 T.rr 27 wc_27 rfl [.int x, .int (G 15 (ix (G 14 (ix x))))] (c_X2_addLike x (G 15 (ix (G 14 (ix x)))) o1 o3 o4 o5) (by omega) rfl rfl (Nat.le_of_ble_eq_true rfl) ⟨Nat.zero_le _, Nat.zero_le _⟩ dX2_apply_115 rfl ?_
  refine r_nGC (fun G1 eG1 => ?_)
  refine rVv E (q := 121) cvX2_87 T.rr 27 wc_27 rfl [.int x, .int (G 14 (ix x)), .int (G 14 (ix (G 14 (ix x)))), .int (fX2_addLike G (upd V 9 ((V 9) + 1)) x (G 15 (ix (G 14 (ix x)))))] (c_X2_exchange x (G 14 (ix x)) (G 14 (ix (G 14 (ix x)))) (fX2_addLike G (upd V 9 ((V 9) + 1)) x (G 15 (ix (G 14 (ix x))))) (o6 G1 eG1) (o7 G1 eG1) (o8 G1 eG1) (o9 G1 eG1) (o10 G1 eG1)) (by omega) rfl rfl (Nat.le_of_ble_eq_true rfl) ⟨Nat.zero_le _, Nat.zero_le _⟩ dX2_apply_118 rfl ?_
  refine r_nGC (fun G2 eG2 => ?_)
  refine r_goto E 338 dX2_apply_121 (by decide) ?_
  exact r_vret E T dX2_apply_338 (k1 G1 G2 eG1 eG2)
set_option maxRecDepth 100000 in
set_option maxHeartbeats 800000 in
theorem ap_4 {z : Zt} (E : EN z cX2_apply RX2) {w0 : va_W} {P : Option Value → va_W → Prop} {lvl : Nat} (T : RT z none lvl w0 P 0 0) (hz : zn z = 4) {ad : Nat → Nat} {G : Nat → Nat → Int32} {V : Nat → Int32} {n : Nat} (hlv : 6 ≤ lvl) (x rule : Int32) (hr : rule = 4) 
    (o1 : vp_in x 60) 
    (o2 : vp_in (G 14 (ix x)) 60) 
    (o3 : vp_in ((upd V 9 ((V 9) + 1)) 1) 60) 
    (o4 : (¬ G 13 (ix x) = 0 → vp_in (G 14 (ix (G 14 (ix x)))) 60)) 
    (o5 : (G 13 (ix x) = 1 ∨ G 13 (ix x) = 2 → vp_in (G 17 (ix x)) 40)) 
    (o6 : ∀ (G1 : Nat → Nat → Int32), G1 = fX2_addLike_G G (upd V 9 ((V 9) + 1)) x (G 14 (ix (G 14 (ix x)))) → vp_in (G 14 (ix x)) 60) 
    (o7 : ∀ (G1 : Nat → Nat → Int32), G1 = fX2_addLike_G G (upd V 9 ((V 9) + 1)) x (G 14 (ix (G 14 (ix x)))) → vp_in x 60) 
    (o8 : ∀ (G1 : Nat → Nat → Int32), G1 = fX2_addLike_G G (upd V 9 ((V 9) + 1)) x (G 14 (ix (G 14 (ix x)))) → vp_in ((fX2_addLike_V G (upd V 9 ((V 9) + 1)) x (G 14 (ix (G 14 (ix x))))) 1) 60) 
    (o9 : ∀ (G1 : Nat → Nat → Int32), G1 = fX2_addLike_G G (upd V 9 ((V 9) + 1)) x (G 14 (ix (G 14 (ix x)))) → (¬ G1 13 (ix x) = 0 → vp_in (G1 15 (ix (G 14 (ix x)))) 60)) 
    (o10 : ∀ (G1 : Nat → Nat → Int32), G1 = fX2_addLike_G G (upd V 9 ((V 9) + 1)) x (G 14 (ix (G 14 (ix x)))) → (G1 13 (ix x) = 1 ∨ G1 13 (ix x) = 2 → vp_in (G1 17 (ix x)) 40)) 
    (o11 : ∀ (G1 G2 : Nat → Nat → Int32), G1 = fX2_addLike_G G (upd V 9 ((V 9) + 1)) x (G 14 (ix (G 14 (ix x)))) → G2 = fX2_addLike_G G1 (fX2_addLike_V G (upd V 9 ((V 9) + 1)) x (G 14 (ix (G 14 (ix x))))) x (G1 15 (ix (G 14 (ix x)))) → vp_in x 60) 
    (o12 : ∀ (G1 G2 : Nat → Nat → Int32), G1 = fX2_addLike_G G (upd V 9 ((V 9) + 1)) x (G 14 (ix (G 14 (ix x)))) → G2 = fX2_addLike_G G1 (fX2_addLike_V G (upd V 9 ((V 9) + 1)) x (G 14 (ix (G 14 (ix x))))) x (G1 15 (ix (G 14 (ix x)))) → vp_in (G 14 (ix x)) 60) 
    (o13 : ∀ (G1 G2 : Nat → Nat → Int32), G1 = fX2_addLike_G G (upd V 9 ((V 9) + 1)) x (G 14 (ix (G 14 (ix x)))) → G2 = fX2_addLike_G G1 (fX2_addLike_V G (upd V 9 ((V 9) + 1)) x (G 14 (ix (G 14 (ix x))))) x (G1 15 (ix (G 14 (ix x)))) → (¬ G2 13 (ix (G 14 (ix x))) = 0 → vp_in (fX2_addLike G (upd V 9 ((V 9) + 1)) x (G 14 (ix (G 14 (ix x))))) 60)) 
    (o14 : ∀ (G1 G2 : Nat → Nat → Int32), G1 = fX2_addLike_G G (upd V 9 ((V 9) + 1)) x (G 14 (ix (G 14 (ix x)))) → G2 = fX2_addLike_G G1 (fX2_addLike_V G (upd V 9 ((V 9) + 1)) x (G 14 (ix (G 14 (ix x))))) x (G1 15 (ix (G 14 (ix x)))) → (G2 13 (ix (G 14 (ix x))) = 4 ∨ G2 13 (ix (G 14 (ix x))) = 5 → vp_in (fX2_addLike G1 (fX2_addLike_V G (upd V 9 ((V 9) + 1)) x (G 14 (ix (G 14 (ix x))))) x (G1 15 (ix (G 14 (ix x))))) 60)) 
    (o15 : ∀ (G1 G2 : Nat → Nat → Int32), G1 = fX2_addLike_G G (upd V 9 ((V 9) + 1)) x (G 14 (ix (G 14 (ix x)))) → G2 = fX2_addLike_G G1 (fX2_addLike_V G (upd V 9 ((V 9) + 1)) x (G 14 (ix (G 14 (ix x))))) x (G1 15 (ix (G 14 (ix x)))) → (G2 13 (ix (G 14 (ix x))) = 1 ∨ G2 13 (ix (G 14 (ix x))) = 2 → vp_in (G2 17 (ix (G 14 (ix x)))) 40))
    (k1 : ∀ (G1 G2 G3 : Nat → Nat → Int32), G1 = fX2_addLike_G G (upd V 9 ((V 9) + 1)) x (G 14 (ix (G 14 (ix x)))) → G2 = fX2_addLike_G G1 (fX2_addLike_V G (upd V 9 ((V 9) + 1)) x (G 14 (ix (G 14 (ix x))))) x (G1 15 (ix (G 14 (ix x)))) → G3 = fX2_exchange_G G2 x (G 14 (ix x)) (fX2_addLike G (upd V 9 ((V 9) + 1)) x (G 14 (ix (G 14 (ix x))))) (fX2_addLike G1 (fX2_addLike_V G (upd V 9 ((V 9) + 1)) x (G 14 (ix (G 14 (ix x))))) x (G1 15 (ix (G 14 (ix x))))) → P none (WC (zk z) ad G3 (fX2_addLike_V G1 (fX2_addLike_V G (upd V 9 ((V 9) + 1)) x (G 14 (ix (G 14 (ix x))))) x (G1 15 (ix (G 14 (ix x))))) n)) :
    WW z 0 0 (WC (zk z) ad G V n) 0 [(0, .ref (ad 27)), (1, .int x), (2, .int rule)] [] := by
  refine r_aload_n E (q := 1) 0 dX2_apply_0 rfl rfl rfl ?_
  refine r_get E (q := 4) fX2_13 27 wc_27 rfl dX2_apply_1 rfl ?_
  refine r_get E (q := 7) fX2_26 12 wc_12 rfl dX2_apply_4 rfl ?_
  refine r_iload_n E (q := 8) 1 dX2_apply_7 rfl rfl rfl ?_
  refine r_iald E (q := 9) 14 wc_14 o1 dX2_apply_8 rfl ?_
  refine r_istore_n E (q := 10) (lv' := [(0, .ref (ad 27)), (1, .int x), (2, .int rule), (3, .int (G 14 (ix x)))]) [1, 2, 3, 0] dX2_apply_9 rfl (by rw [hz]; decide) rfl rfl ?_
  refine r_aload_n E (q := 11) 0 dX2_apply_10 rfl rfl rfl ?_
  refine r_dup E (q := 12) dX2_apply_11 rfl rfl ?_
  refine r_get E (q := 15) fX2_79 27 wc_27 rfl dX2_apply_12 rfl ?_
  refine r_iconst E (q := 16) (v := 1) dX2_apply_15 (by decide) rfl ?_
  refine r_iadd E (q := 17) dX2_apply_16 rfl ?_
  refine r_put E (q := 20) pX2_79 rfl 27 wc_27 rfl rfl (Nat.le_of_ble_eq_true rfl) wcv_9 dX2_apply_17 rfl ?_
  refine r_iload_n E (q := 21) 2 dX2_apply_20 rfl rfl rfl ?_
  refine r_tabIn E 4 hr 124 dX2_apply_21 (by decide) (by rfl) (by decide) ?_
  refine r_aload_n E (q := 125) 0 dX2_apply_124 rfl rfl rfl ?_
  refine r_iload_n E (q := 126) 1 dX2_apply_125 rfl rfl rfl ?_
  refine r_iload_n E (q := 127) 3 dX2_apply_126 rfl rfl rfl ?_
  refine r_aload_n E (q := 128) 0 dX2_apply_127 rfl rfl rfl ?_
  refine r_iload_n E (q := 129) 1 dX2_apply_128 rfl rfl rfl ?_
  refine r_aload_n E (q := 130) 0 dX2_apply_129 rfl rfl rfl ?_
  refine r_get E (q := 133) fX2_13 27 wc_27 rfl dX2_apply_130 rfl ?_
  refine r_get E (q := 136) fX2_26 12 wc_12 rfl dX2_apply_133 rfl ?_
  refine r_iload_n E (q := 137) 3 dX2_apply_136 rfl rfl rfl ?_
  refine r_iald E (q := 138) 14 wc_14 o2 dX2_apply_137 rfl ?_
  refine rVi E (q := 141) cvX2_83 T.rr 27 wc_27 rfl [.int x, .int (G 14 (ix (G 14 (ix x))))] (c_X2_addLike x (G 14 (ix (G 14 (ix x)))) o1 o3 o4 o5) (by omega) rfl rfl (Nat.le_of_ble_eq_true rfl) ⟨Nat.zero_le _, Nat.zero_le _⟩ dX2_apply_138 rfl ?_
  refine r_nGC (fun G1 eG1 => ?_)
  refine r_aload_n E (q := 142) 0 dX2_apply_141 rfl rfl rfl ?_
  refine r_iload_n E (q := 143) 1 dX2_apply_142 rfl rfl rfl ?_
  refine r_aload_n E (q := 144) 0 dX2_apply_143 rfl rfl rfl ?_
  refine r_get E (q := 147) fX2_13 27 wc_27 rfl dX2_apply_144 rfl ?_
  refine r_get E (q := 150) fX2_64 12 wc_12 rfl dX2_apply_147 rfl ?_
  refine r_iload_n E (q := 151) 3 dX2_apply_150 rfl rfl rfl ?_
  refine r_iald E (q := 152) 15 wc_15 (o6 G1 eG1) dX2_apply_151 rfl ?_
  refine rVi E (q := 155) cvX2_83 T.rr 27 wc_27 rfl [.int x, .int (G1 15 (ix (G 14 (ix x))))] (c_X2_addLike x (G1 15 (ix (G 14 (ix x)))) (o7 G1 eG1) (o8 G1 eG1) (o9 G1 eG1) (o10 G1 eG1)) (by omega) rfl rfl (Nat.le_of_ble_eq_true rfl) ⟨Nat.zero_le _, Nat.zero_le _⟩ dX2_apply_152 rfl ?_
  refine r_nGC (fun G2 eG2 => ?_)
  refine rVv E (q := 158) cvX2_87 T.rr 27 wc_27 rfl [.int x, .int (G 14 (ix x)), .int (fX2_addLike G (upd V 9 ((V 9) + 1)) x (G 14 (ix (G 14 (ix x))))), .int (fX2_addLike G1 (fX2_addLike_V G (upd V 9 ((V 9) + 1)) x (G 14 (ix (G 14 (ix x))))) x (G1 15 (ix (G 14 (ix x)))))] (c_X2_exchange x (G 14 (ix x)) (fX2_addLike G (upd V 9 ((V 9) + 1)) x (G 14 (ix (G 14 (ix x))))) (fX2_addLike G1 (fX2_addLike_V G (upd V 9 ((V 9) + 1)) x (G 14 (ix (G 14 (ix x))))) x (G1 15 (ix (G 14 (ix x))))) (o11 G1 G2 eG1 eG2) (o12 G1 G2 eG1 eG2) (o13 G1 G2 eG1 eG2) (o14 G1 G2 eG1 eG2) (o15 G1 G2 eG1 eG2)) (by omega) rfl rfl (Nat.le_of_ble_eq_true rfl) ⟨Nat.zero_le _, Nat.zero_le _⟩ dX2_apply_155 rfl ?_
  refine r_nGC (fun G3 eG3 => ?_)
  refine r_goto E 338 dX2_apply_158 (by decide) ?_
  exact r_vret E T dX2_apply_338 (k1 G1 G2 G3 eG1 eG2 eG3)
set_option maxRecDepth 100000 in
set_option maxHeartbeats 800000 in
theorem ap_5 {z : Zt} (E : EN z cX2_apply RX2) {w0 : va_W} {P : Option Value → va_W → Prop} {lvl : Nat} (T : RT z none lvl w0 P 0 0) (hz : zn z = 4) {ad : Nat → Nat} {G : Nat → Nat → Int32} {V : Nat → Int32} {n : Nat} (hlv : 6 ≤ lvl) (x rule : Int32) (hr : rule = 5) 
    (o1 : vp_in x 60) 
    (o2 : vp_in (G 14 (ix x)) 60) 
    (o3 : vp_in ((upd V 9 ((V 9) + 1)) 1) 60) 
    (o4 : (¬ G 13 (ix x) = 0 → vp_in (G 14 (ix (G 14 (ix x)))) 60)) 
    (o5 : (G 13 (ix x) = 1 ∨ G 13 (ix x) = 2 → vp_in (G 17 (ix x)) 40)) 
    (o6 : ∀ (G1 : Nat → Nat → Int32), G1 = fX2_addLike_G G (upd V 9 ((V 9) + 1)) x (G 14 (ix (G 14 (ix x)))) → vp_in (G 14 (ix x)) 60) 
    (o7 : ∀ (G1 : Nat → Nat → Int32), G1 = fX2_addLike_G G (upd V 9 ((V 9) + 1)) x (G 14 (ix (G 14 (ix x)))) → vp_in x 60) 
    (o8 : ∀ (G1 : Nat → Nat → Int32), G1 = fX2_addLike_G G (upd V 9 ((V 9) + 1)) x (G 14 (ix (G 14 (ix x)))) → (¬ G1 13 (ix (G 14 (ix x))) = 0 → vp_in (fX2_addLike G (upd V 9 ((V 9) + 1)) x (G 14 (ix (G 14 (ix x))))) 60)) 
    (o9 : ∀ (G1 : Nat → Nat → Int32), G1 = fX2_addLike_G G (upd V 9 ((V 9) + 1)) x (G 14 (ix (G 14 (ix x)))) → (G1 13 (ix (G 14 (ix x))) = 4 ∨ G1 13 (ix (G 14 (ix x))) = 5 → vp_in (G1 15 (ix (G 14 (ix x)))) 60)) 
    (o10 : ∀ (G1 : Nat → Nat → Int32), G1 = fX2_addLike_G G (upd V 9 ((V 9) + 1)) x (G 14 (ix (G 14 (ix x)))) → (G1 13 (ix (G 14 (ix x))) = 1 ∨ G1 13 (ix (G 14 (ix x))) = 2 → vp_in (G1 17 (ix (G 14 (ix x)))) 40))
    (k1 : ∀ (G1 G2 : Nat → Nat → Int32), G1 = fX2_addLike_G G (upd V 9 ((V 9) + 1)) x (G 14 (ix (G 14 (ix x)))) → G2 = fX2_exchange_G G1 x (G 14 (ix x)) (fX2_addLike G (upd V 9 ((V 9) + 1)) x (G 14 (ix (G 14 (ix x))))) (G1 15 (ix (G 14 (ix x)))) → P none (WC (zk z) ad G2 (fX2_addLike_V G (upd V 9 ((V 9) + 1)) x (G 14 (ix (G 14 (ix x))))) n)) :
    WW z 0 0 (WC (zk z) ad G V n) 0 [(0, .ref (ad 27)), (1, .int x), (2, .int rule)] [] := by
  refine r_aload_n E (q := 1) 0 dX2_apply_0 rfl rfl rfl ?_
  refine r_get E (q := 4) fX2_13 27 wc_27 rfl dX2_apply_1 rfl ?_
  refine r_get E (q := 7) fX2_26 12 wc_12 rfl dX2_apply_4 rfl ?_
  refine r_iload_n E (q := 8) 1 dX2_apply_7 rfl rfl rfl ?_
  refine r_iald E (q := 9) 14 wc_14 o1 dX2_apply_8 rfl ?_
  refine r_istore_n E (q := 10) (lv' := [(0, .ref (ad 27)), (1, .int x), (2, .int rule), (3, .int (G 14 (ix x)))]) [1, 2, 3, 0] dX2_apply_9 rfl (by rw [hz]; decide) rfl rfl ?_
  refine r_aload_n E (q := 11) 0 dX2_apply_10 rfl rfl rfl ?_
  refine r_dup E (q := 12) dX2_apply_11 rfl rfl ?_
  refine r_get E (q := 15) fX2_79 27 wc_27 rfl dX2_apply_12 rfl ?_
  refine r_iconst E (q := 16) (v := 1) dX2_apply_15 (by decide) rfl ?_
  refine r_iadd E (q := 17) dX2_apply_16 rfl ?_
  refine r_put E (q := 20) pX2_79 rfl 27 wc_27 rfl rfl (Nat.le_of_ble_eq_true rfl) wcv_9 dX2_apply_17 rfl ?_
  refine r_iload_n E (q := 21) 2 dX2_apply_20 rfl rfl rfl ?_
  refine r_tabIn E 5 hr 309 dX2_apply_21 (by decide) (by rfl) (by decide) ?_
  refine r_aload_n E (q := 310) 0 dX2_apply_309 rfl rfl rfl ?_
  refine r_iload_n E (q := 311) 1 dX2_apply_310 rfl rfl rfl ?_
  refine r_iload_n E (q := 312) 3 dX2_apply_311 rfl rfl rfl ?_
  refine r_aload_n E (q := 313) 0 dX2_apply_312 rfl rfl rfl ?_
  refine r_iload_n E (q := 314) 1 dX2_apply_313 rfl rfl rfl ?_
  refine r_aload_n E (q := 315) 0 dX2_apply_314 rfl rfl rfl ?_
  refine r_get E (q := 318) fX2_13 27 wc_27 rfl dX2_apply_315 rfl ?_
  refine r_get E (q := 321) fX2_26 12 wc_12 rfl dX2_apply_318 rfl ?_
  refine r_iload_n E (q := 322) 3 dX2_apply_321 rfl rfl rfl ?_
  refine r_iald E (q := 323) 14 wc_14 o2 dX2_apply_322 rfl ?_
  refine rVi E (q := 326) cvX2_83 T.rr 27 wc_27 rfl [.int x, .int (G 14 (ix (G 14 (ix x))))] (c_X2_addLike x (G 14 (ix (G 14 (ix x)))) o1 o3 o4 o5) (by omega) rfl rfl (Nat.le_of_ble_eq_true rfl) ⟨Nat.zero_le _, Nat.zero_le _⟩ dX2_apply_323 rfl ?_
  refine r_nGC (fun G1 eG1 => ?_)
  refine r_aload_n E (q := 327) 0 dX2_apply_326 rfl rfl rfl ?_
  refine r_get E (q := 330) fX2_13 27 wc_27 rfl dX2_apply_327 rfl ?_
  refine r_get E (q := 333) fX2_64 12 wc_12 rfl dX2_apply_330 rfl ?_
  refine r_iload_n E (q := 334) 3 dX2_apply_333 rfl rfl rfl ?_
  refine r_iald E (q := 335) 15 wc_15 (o6 G1 eG1) dX2_apply_334 rfl ?_
  refine rVv E (q := 338) cvX2_87 T.rr 27 wc_27 rfl [.int x, .int (G 14 (ix x)), .int (fX2_addLike G (upd V 9 ((V 9) + 1)) x (G 14 (ix (G 14 (ix x))))), .int (G1 15 (ix (G 14 (ix x))))] (c_X2_exchange x (G 14 (ix x)) (fX2_addLike G (upd V 9 ((V 9) + 1)) x (G 14 (ix (G 14 (ix x))))) (G1 15 (ix (G 14 (ix x)))) (o7 G1 eG1) (o6 G1 eG1) (o8 G1 eG1) (o9 G1 eG1) (o10 G1 eG1)) (by omega) rfl rfl (Nat.le_of_ble_eq_true rfl) ⟨Nat.zero_le _, Nat.zero_le _⟩ dX2_apply_335 rfl ?_
  refine r_nGC (fun G2 eG2 => ?_)
  exact r_vret E T dX2_apply_338 (k1 G1 G2 eG1 eG2)
set_option maxRecDepth 100000 in
set_option maxHeartbeats 800000 in
theorem ap_6 {z : Zt} (E : EN z cX2_apply RX2) {w0 : va_W} {P : Option Value → va_W → Prop} {lvl : Nat} (T : RT z none lvl w0 P 0 0) (hz : zn z = 4) {ad : Nat → Nat} {G : Nat → Nat → Int32} {V : Nat → Int32} {n : Nat} (hlv : 6 ≤ lvl) (x rule : Int32) (hr : rule = 6) 
    (o1 : vp_in x 60) 
    (o2 : vp_in (G 14 (ix x)) 60) 
    (o3 : vp_in ((upd V 9 ((V 9) + 1)) 1) 60) 
    (o4 : (¬ G 13 (ix x) = 0 → vp_in (G 14 (ix (G 14 (ix x)))) 60)) 
    (o5 : (G 13 (ix x) = 1 ∨ G 13 (ix x) = 2 → vp_in (G 17 (ix x)) 40)) 
    (o6 : ∀ (G1 : Nat → Nat → Int32), G1 = fX2_addLike_G G (upd V 9 ((V 9) + 1)) x (G 14 (ix (G 14 (ix x)))) → vp_in (G 14 (ix x)) 60) 
    (o7 : ∀ (G1 : Nat → Nat → Int32), G1 = fX2_addLike_G G (upd V 9 ((V 9) + 1)) x (G 14 (ix (G 14 (ix x)))) → vp_in x 60) 
    (o8 : ∀ (G1 : Nat → Nat → Int32), G1 = fX2_addLike_G G (upd V 9 ((V 9) + 1)) x (G 14 (ix (G 14 (ix x)))) → (¬ G1 13 (ix (G 14 (ix x))) = 0 → vp_in (fX2_addLike G (upd V 9 ((V 9) + 1)) x (G 14 (ix (G 14 (ix x))))) 60)) 
    (o9 : ∀ (G1 : Nat → Nat → Int32), G1 = fX2_addLike_G G (upd V 9 ((V 9) + 1)) x (G 14 (ix (G 14 (ix x)))) → (G1 13 (ix (G 14 (ix x))) = 4 ∨ G1 13 (ix (G 14 (ix x))) = 5 → vp_in (G1 15 (ix (G 14 (ix x)))) 60)) 
    (o10 : ∀ (G1 : Nat → Nat → Int32), G1 = fX2_addLike_G G (upd V 9 ((V 9) + 1)) x (G 14 (ix (G 14 (ix x)))) → (G1 13 (ix (G 14 (ix x))) = 1 ∨ G1 13 (ix (G 14 (ix x))) = 2 → vp_in (G1 17 (ix (G 14 (ix x)))) 40))
    (k1 : ∀ (G1 G2 : Nat → Nat → Int32), G1 = fX2_addLike_G G (upd V 9 ((V 9) + 1)) x (G 14 (ix (G 14 (ix x)))) → G2 = fX2_exchange_G G1 x (G 14 (ix x)) (fX2_addLike G (upd V 9 ((V 9) + 1)) x (G 14 (ix (G 14 (ix x))))) (G1 15 (ix (G 14 (ix x)))) → P none (WC (zk z) ad G2 (fX2_addLike_V G (upd V 9 ((V 9) + 1)) x (G 14 (ix (G 14 (ix x))))) n)) :
    WW z 0 0 (WC (zk z) ad G V n) 0 [(0, .ref (ad 27)), (1, .int x), (2, .int rule)] [] := by
  refine r_aload_n E (q := 1) 0 dX2_apply_0 rfl rfl rfl ?_
  refine r_get E (q := 4) fX2_13 27 wc_27 rfl dX2_apply_1 rfl ?_
  refine r_get E (q := 7) fX2_26 12 wc_12 rfl dX2_apply_4 rfl ?_
  refine r_iload_n E (q := 8) 1 dX2_apply_7 rfl rfl rfl ?_
  refine r_iald E (q := 9) 14 wc_14 o1 dX2_apply_8 rfl ?_
  refine r_istore_n E (q := 10) (lv' := [(0, .ref (ad 27)), (1, .int x), (2, .int rule), (3, .int (G 14 (ix x)))]) [1, 2, 3, 0] dX2_apply_9 rfl (by rw [hz]; decide) rfl rfl ?_
  refine r_aload_n E (q := 11) 0 dX2_apply_10 rfl rfl rfl ?_
  refine r_dup E (q := 12) dX2_apply_11 rfl rfl ?_
  refine r_get E (q := 15) fX2_79 27 wc_27 rfl dX2_apply_12 rfl ?_
  refine r_iconst E (q := 16) (v := 1) dX2_apply_15 (by decide) rfl ?_
  refine r_iadd E (q := 17) dX2_apply_16 rfl ?_
  refine r_put E (q := 20) pX2_79 rfl 27 wc_27 rfl rfl (Nat.le_of_ble_eq_true rfl) wcv_9 dX2_apply_17 rfl ?_
  refine r_iload_n E (q := 21) 2 dX2_apply_20 rfl rfl rfl ?_
  refine r_tabIn E 6 hr 309 dX2_apply_21 (by decide) (by rfl) (by decide) ?_
  refine r_aload_n E (q := 310) 0 dX2_apply_309 rfl rfl rfl ?_
  refine r_iload_n E (q := 311) 1 dX2_apply_310 rfl rfl rfl ?_
  refine r_iload_n E (q := 312) 3 dX2_apply_311 rfl rfl rfl ?_
  refine r_aload_n E (q := 313) 0 dX2_apply_312 rfl rfl rfl ?_
  refine r_iload_n E (q := 314) 1 dX2_apply_313 rfl rfl rfl ?_
  refine r_aload_n E (q := 315) 0 dX2_apply_314 rfl rfl rfl ?_
  refine r_get E (q := 318) fX2_13 27 wc_27 rfl dX2_apply_315 rfl ?_
  refine r_get E (q := 321) fX2_26 12 wc_12 rfl dX2_apply_318 rfl ?_
  refine r_iload_n E (q := 322) 3 dX2_apply_321 rfl rfl rfl ?_
  refine r_iald E (q := 323) 14 wc_14 o2 dX2_apply_322 rfl ?_
  refine rVi E (q := 326) cvX2_83 T.rr 27 wc_27 rfl [.int x, .int (G 14 (ix (G 14 (ix x))))] (c_X2_addLike x (G 14 (ix (G 14 (ix x)))) o1 o3 o4 o5) (by omega) rfl rfl (Nat.le_of_ble_eq_true rfl) ⟨Nat.zero_le _, Nat.zero_le _⟩ dX2_apply_323 rfl ?_
  refine r_nGC (fun G1 eG1 => ?_)
  refine r_aload_n E (q := 327) 0 dX2_apply_326 rfl rfl rfl ?_
  refine r_get E (q := 330) fX2_13 27 wc_27 rfl dX2_apply_327 rfl ?_
  refine r_get E (q := 333) fX2_64 12 wc_12 rfl dX2_apply_330 rfl ?_
  refine r_iload_n E (q := 334) 3 dX2_apply_333 rfl rfl rfl ?_
  refine r_iald E (q := 335) 15 wc_15 (o6 G1 eG1) dX2_apply_334 rfl ?_
  refine rVv E (q := 338) cvX2_87 T.rr 27 wc_27 rfl [.int x, .int (G 14 (ix x)), .int (fX2_addLike G (upd V 9 ((V 9) + 1)) x (G 14 (ix (G 14 (ix x))))), .int (G1 15 (ix (G 14 (ix x))))] (c_X2_exchange x (G 14 (ix x)) (fX2_addLike G (upd V 9 ((V 9) + 1)) x (G 14 (ix (G 14 (ix x))))) (G1 15 (ix (G 14 (ix x)))) (o7 G1 eG1) (o6 G1 eG1) (o8 G1 eG1) (o9 G1 eG1) (o10 G1 eG1)) (by omega) rfl rfl (Nat.le_of_ble_eq_true rfl) ⟨Nat.zero_le _, Nat.zero_le _⟩ dX2_apply_335 rfl ?_
  refine r_nGC (fun G2 eG2 => ?_)
  exact r_vret E T dX2_apply_338 (k1 G1 G2 eG1 eG2)
set_option maxRecDepth 100000 in
set_option maxHeartbeats 800000 in
theorem ap_7 {z : Zt} (E : EN z cX2_apply RX2) {w0 : va_W} {P : Option Value → va_W → Prop} {lvl : Nat} (T : RT z none lvl w0 P 0 0) (hz : zn z = 4) {ad : Nat → Nat} {G : Nat → Nat → Int32} {V : Nat → Int32} {n : Nat} (hlv : 6 ≤ lvl) (x rule : Int32) (hr : rule = 7) 
    (o1 : vp_in x 60) 
    (o2 : vp_in (G 14 (ix x)) 60) 
    (o3 : (¬ fX0_takesFirst 9 = 0 → vp_in (G 17 (ix (G 14 (ix x)))) 40)) 
    (o4 : (¬ fX0_takesSecond 9 = 0 → vp_in (G 17 (ix x)) 40)) 
    (o5 : ∃ j : Nat, j ≤ 40 ∧ (upd V 9 ((V 9) + 1)) 0 = nI j) 
    (o6 : ∀ (G1 : Nat → Nat → Int32), G1 = fX0_add_G G (upd V 9 ((V 9) + 1)) 9 (G 17 (ix (G 14 (ix x)))) (G 17 (ix x)) → vp_in x 60) 
    (o7 : ∀ (G1 : Nat → Nat → Int32), G1 = fX0_add_G G (upd V 9 ((V 9) + 1)) 9 (G 17 (ix (G 14 (ix x)))) (G 17 (ix x)) → vp_in (G 14 (ix x)) 60) 
    (o8 : ∀ (G1 : Nat → Nat → Int32), G1 = fX0_add_G G (upd V 9 ((V 9) + 1)) 9 (G 17 (ix (G 14 (ix x)))) (G 17 (ix x)) → (¬ G1 13 (ix x) = 0 → vp_in (G1 14 (ix (G 14 (ix x)))) 60)) 
    (o9 : ∀ (G1 : Nat → Nat → Int32), G1 = fX0_add_G G (upd V 9 ((V 9) + 1)) 9 (G 17 (ix (G 14 (ix x)))) (G 17 (ix x)) → (G1 13 (ix x) = 1 ∨ G1 13 (ix x) = 2 → vp_in (fX0_add G (upd V 9 ((V 9) + 1)) 9 (G 17 (ix (G 14 (ix x)))) (G 17 (ix x))) 40))
    (k1 : ∀ (G1 G2 : Nat → Nat → Int32), G1 = fX0_add_G G (upd V 9 ((V 9) + 1)) 9 (G 17 (ix (G 14 (ix x)))) (G 17 (ix x)) → G2 = fX2_skip_G G1 x (G 14 (ix x)) (fX0_add G (upd V 9 ((V 9) + 1)) 9 (G 17 (ix (G 14 (ix x)))) (G 17 (ix x))) → P none (WC (zk z) ad G2 (fX0_add_V G (upd V 9 ((V 9) + 1)) 9 (G 17 (ix (G 14 (ix x)))) (G 17 (ix x))) n)) :
    WW z 0 0 (WC (zk z) ad G V n) 0 [(0, .ref (ad 27)), (1, .int x), (2, .int rule)] [] := by
  refine r_aload_n E (q := 1) 0 dX2_apply_0 rfl rfl rfl ?_
  refine r_get E (q := 4) fX2_13 27 wc_27 rfl dX2_apply_1 rfl ?_
  refine r_get E (q := 7) fX2_26 12 wc_12 rfl dX2_apply_4 rfl ?_
  refine r_iload_n E (q := 8) 1 dX2_apply_7 rfl rfl rfl ?_
  refine r_iald E (q := 9) 14 wc_14 o1 dX2_apply_8 rfl ?_
  refine r_istore_n E (q := 10) (lv' := [(0, .ref (ad 27)), (1, .int x), (2, .int rule), (3, .int (G 14 (ix x)))]) [1, 2, 3, 0] dX2_apply_9 rfl (by rw [hz]; decide) rfl rfl ?_
  refine r_aload_n E (q := 11) 0 dX2_apply_10 rfl rfl rfl ?_
  refine r_dup E (q := 12) dX2_apply_11 rfl rfl ?_
  refine r_get E (q := 15) fX2_79 27 wc_27 rfl dX2_apply_12 rfl ?_
  refine r_iconst E (q := 16) (v := 1) dX2_apply_15 (by decide) rfl ?_
  refine r_iadd E (q := 17) dX2_apply_16 rfl ?_
  refine r_put E (q := 20) pX2_79 rfl 27 wc_27 rfl rfl (Nat.le_of_ble_eq_true rfl) wcv_9 dX2_apply_17 rfl ?_
  refine r_iload_n E (q := 21) 2 dX2_apply_20 rfl rfl rfl ?_
  refine r_tabIn E 7 hr 161 dX2_apply_21 (by decide) (by rfl) (by decide) ?_
  refine r_aload_n E (q := 162) 0 dX2_apply_161 rfl rfl rfl ?_
  refine r_iload_n E (q := 163) 1 dX2_apply_162 rfl rfl rfl ?_
  refine r_iload_n E (q := 164) 3 dX2_apply_163 rfl rfl rfl ?_
  refine r_aload_n E (q := 165) 0 dX2_apply_164 rfl rfl rfl ?_
  refine r_get E (q := 168) fX2_7 27 wc_27 rfl dX2_apply_165 rfl ?_
  refine r_bipush E (q := 170) (v := 9) dX2_apply_168 (by decide) rfl ?_
  refine r_aload_n E (q := 171) 0 dX2_apply_170 rfl rfl rfl ?_
  refine r_get E (q := 174) fX2_13 27 wc_27 rfl dX2_apply_171 rfl ?_
  refine r_get E (q := 177) fX2_32 12 wc_12 rfl dX2_apply_174 rfl ?_
  refine r_iload_n E (q := 178) 3 dX2_apply_177 rfl rfl rfl ?_
  refine r_iald E (q := 179) 17 wc_17 o2 dX2_apply_178 rfl ?_
  refine r_aload_n E (q := 180) 0 dX2_apply_179 rfl rfl rfl ?_
  refine r_get E (q := 183) fX2_13 27 wc_27 rfl dX2_apply_180 rfl ?_
  refine r_get E (q := 186) fX2_32 12 wc_12 rfl dX2_apply_183 rfl ?_
  refine r_iload_n E (q := 187) 1 dX2_apply_186 rfl rfl rfl ?_
  refine r_iald E (q := 188) 17 wc_17 o1 dX2_apply_187 rfl ?_
  refine rVi E (q := 191) cvX2_91 T.rr 5 wc_5 rfl [.int 9, .int (G 17 (ix (G 14 (ix x)))), .int (G 17 (ix x))] (c_X0_add 9 (G 17 (ix (G 14 (ix x)))) (G 17 (ix x)) o3 o4 o5) (by omega) rfl rfl (Nat.le_of_ble_eq_true rfl) ⟨Nat.zero_le _, Nat.zero_le _⟩ dX2_apply_188 rfl ?_
  refine r_nGC (fun G1 eG1 => ?_)
  refine rVv E (q := 194) cvX2_95 T.rr 27 wc_27 rfl [.int x, .int (G 14 (ix x)), .int (fX0_add G (upd V 9 ((V 9) + 1)) 9 (G 17 (ix (G 14 (ix x)))) (G 17 (ix x)))] (c_X2_skip x (G 14 (ix x)) (fX0_add G (upd V 9 ((V 9) + 1)) 9 (G 17 (ix (G 14 (ix x)))) (G 17 (ix x))) (o6 G1 eG1) (o7 G1 eG1) (o8 G1 eG1) (o9 G1 eG1)) (by omega) rfl rfl (Nat.le_of_ble_eq_true rfl) ⟨Nat.zero_le _, Nat.zero_le _⟩ dX2_apply_191 rfl ?_
  refine r_nGC (fun G2 eG2 => ?_)
  refine r_goto E 338 dX2_apply_194 (by decide) ?_
  exact r_vret E T dX2_apply_338 (k1 G1 G2 eG1 eG2)
set_option maxRecDepth 100000 in
set_option maxHeartbeats 800000 in
theorem ap_8 {z : Zt} (E : EN z cX2_apply RX2) {w0 : va_W} {P : Option Value → va_W → Prop} {lvl : Nat} (T : RT z none lvl w0 P 0 0) (hz : zn z = 4) {ad : Nat → Nat} {G : Nat → Nat → Int32} {V : Nat → Int32} {n : Nat} (hlv : 6 ≤ lvl) (x rule : Int32) (hr : rule = 8) 
    (o1 : vp_in x 60) 
    (o2 : vp_in (G 14 (ix x)) 60) 
    (o3 : (¬ G 13 (ix x) = 0 → vp_in (G 14 (ix (G 14 (ix x)))) 60)) 
    (o4 : (G 13 (ix x) = 1 ∨ G 13 (ix x) = 2 → vp_in (G 17 (ix x)) 40))
    (k1 : ∀ (G1 : Nat → Nat → Int32), G1 = fX2_skip_G G x (G 14 (ix x)) (G 17 (ix x)) → P none (WC (zk z) ad G1 (upd V 9 ((V 9) + 1)) n)) :
    WW z 0 0 (WC (zk z) ad G V n) 0 [(0, .ref (ad 27)), (1, .int x), (2, .int rule)] [] := by
  refine r_aload_n E (q := 1) 0 dX2_apply_0 rfl rfl rfl ?_
  refine r_get E (q := 4) fX2_13 27 wc_27 rfl dX2_apply_1 rfl ?_
  refine r_get E (q := 7) fX2_26 12 wc_12 rfl dX2_apply_4 rfl ?_
  refine r_iload_n E (q := 8) 1 dX2_apply_7 rfl rfl rfl ?_
  refine r_iald E (q := 9) 14 wc_14 o1 dX2_apply_8 rfl ?_
  refine r_istore_n E (q := 10) (lv' := [(0, .ref (ad 27)), (1, .int x), (2, .int rule), (3, .int (G 14 (ix x)))]) [1, 2, 3, 0] dX2_apply_9 rfl (by rw [hz]; decide) rfl rfl ?_
  refine r_aload_n E (q := 11) 0 dX2_apply_10 rfl rfl rfl ?_
  refine r_dup E (q := 12) dX2_apply_11 rfl rfl ?_
  refine r_get E (q := 15) fX2_79 27 wc_27 rfl dX2_apply_12 rfl ?_
  refine r_iconst E (q := 16) (v := 1) dX2_apply_15 (by decide) rfl ?_
  refine r_iadd E (q := 17) dX2_apply_16 rfl ?_
  refine r_put E (q := 20) pX2_79 rfl 27 wc_27 rfl rfl (Nat.le_of_ble_eq_true rfl) wcv_9 dX2_apply_17 rfl ?_
  refine r_iload_n E (q := 21) 2 dX2_apply_20 rfl rfl rfl ?_
  refine r_tabIn E 8 hr 255 dX2_apply_21 (by decide) (by rfl) (by decide) ?_
  refine r_aload_n E (q := 256) 0 dX2_apply_255 rfl rfl rfl ?_
  refine r_iload_n E (q := 257) 1 dX2_apply_256 rfl rfl rfl ?_
  refine r_iload_n E (q := 258) 3 dX2_apply_257 rfl rfl rfl ?_
  refine r_aload_n E (q := 259) 0 dX2_apply_258 rfl rfl rfl ?_
  refine r_get E (q := 262) fX2_13 27 wc_27 rfl dX2_apply_259 rfl ?_
  refine r_get E (q := 265) fX2_32 12 wc_12 rfl dX2_apply_262 rfl ?_
  refine r_iload_n E (q := 266) 1 dX2_apply_265 rfl rfl rfl ?_
  refine r_iald E (q := 267) 17 wc_17 o1 dX2_apply_266 rfl ?_
  refine rVv E (q := 270) cvX2_95 T.rr 27 wc_27 rfl [.int x, .int (G 14 (ix x)), .int (G 17 (ix x))] (c_X2_skip x (G 14 (ix x)) (G 17 (ix x)) o1 o2 o3 o4) (by omega) rfl rfl (Nat.le_of_ble_eq_true rfl) ⟨Nat.zero_le _, Nat.zero_le _⟩ dX2_apply_267 rfl ?_
  refine r_nGC (fun G1 eG1 => ?_)
  refine r_goto E 338 dX2_apply_270 (by decide) ?_
  exact r_vret E T dX2_apply_338 (k1 G1 eG1)
set_option maxRecDepth 100000 in
set_option maxHeartbeats 800000 in
theorem ap_9 {z : Zt} (E : EN z cX2_apply RX2) {w0 : va_W} {P : Option Value → va_W → Prop} {lvl : Nat} (T : RT z none lvl w0 P 0 0) (hz : zn z = 4) {ad : Nat → Nat} {G : Nat → Nat → Int32} {V : Nat → Int32} {n : Nat} (hlv : 6 ≤ lvl) (x rule : Int32) (hr : rule = 9) 
    (o1 : vp_in x 60) 
    (o2 : vp_in (G 14 (ix x)) 60) 
    (o3 : (¬ G 13 (ix x) = 0 → vp_in (G 14 (ix (G 14 (ix x)))) 60)) 
    (o4 : (G 13 (ix x) = 1 ∨ G 13 (ix x) = 2 → vp_in ((G 17 (ix (G 14 (ix x)))) &&& (G 17 (ix x))) 40))
    (k1 : ∀ (G1 : Nat → Nat → Int32), G1 = fX2_skip_G G x (G 14 (ix x)) ((G 17 (ix (G 14 (ix x)))) &&& (G 17 (ix x))) → P none (WC (zk z) ad G1 (upd V 9 ((V 9) + 1)) n)) :
    WW z 0 0 (WC (zk z) ad G V n) 0 [(0, .ref (ad 27)), (1, .int x), (2, .int rule)] [] := by
  refine r_aload_n E (q := 1) 0 dX2_apply_0 rfl rfl rfl ?_
  refine r_get E (q := 4) fX2_13 27 wc_27 rfl dX2_apply_1 rfl ?_
  refine r_get E (q := 7) fX2_26 12 wc_12 rfl dX2_apply_4 rfl ?_
  refine r_iload_n E (q := 8) 1 dX2_apply_7 rfl rfl rfl ?_
  refine r_iald E (q := 9) 14 wc_14 o1 dX2_apply_8 rfl ?_
  refine r_istore_n E (q := 10) (lv' := [(0, .ref (ad 27)), (1, .int x), (2, .int rule), (3, .int (G 14 (ix x)))]) [1, 2, 3, 0] dX2_apply_9 rfl (by rw [hz]; decide) rfl rfl ?_
  refine r_aload_n E (q := 11) 0 dX2_apply_10 rfl rfl rfl ?_
  refine r_dup E (q := 12) dX2_apply_11 rfl rfl ?_
  refine r_get E (q := 15) fX2_79 27 wc_27 rfl dX2_apply_12 rfl ?_
  refine r_iconst E (q := 16) (v := 1) dX2_apply_15 (by decide) rfl ?_
  refine r_iadd E (q := 17) dX2_apply_16 rfl ?_
  refine r_put E (q := 20) pX2_79 rfl 27 wc_27 rfl rfl (Nat.le_of_ble_eq_true rfl) wcv_9 dX2_apply_17 rfl ?_
  refine r_iload_n E (q := 21) 2 dX2_apply_20 rfl rfl rfl ?_
  refine r_tabIn E 9 hr 197 dX2_apply_21 (by decide) (by rfl) (by decide) ?_
  refine r_aload_n E (q := 198) 0 dX2_apply_197 rfl rfl rfl ?_
  refine r_iload_n E (q := 199) 1 dX2_apply_198 rfl rfl rfl ?_
  refine r_iload_n E (q := 200) 3 dX2_apply_199 rfl rfl rfl ?_
  refine r_aload_n E (q := 201) 0 dX2_apply_200 rfl rfl rfl ?_
  refine r_get E (q := 204) fX2_13 27 wc_27 rfl dX2_apply_201 rfl ?_
  refine r_get E (q := 207) fX2_32 12 wc_12 rfl dX2_apply_204 rfl ?_
  refine r_iload_n E (q := 208) 3 dX2_apply_207 rfl rfl rfl ?_
  refine r_iald E (q := 209) 17 wc_17 o2 dX2_apply_208 rfl ?_
  refine r_aload_n E (q := 210) 0 dX2_apply_209 rfl rfl rfl ?_
  refine r_get E (q := 213) fX2_13 27 wc_27 rfl dX2_apply_210 rfl ?_
  refine r_get E (q := 216) fX2_32 12 wc_12 rfl dX2_apply_213 rfl ?_
  refine r_iload_n E (q := 217) 1 dX2_apply_216 rfl rfl rfl ?_
  refine r_iald E (q := 218) 17 wc_17 o1 dX2_apply_217 rfl ?_
  refine r_iand E (q := 219) dX2_apply_218 rfl ?_
  refine rVv E (q := 222) cvX2_95 T.rr 27 wc_27 rfl [.int x, .int (G 14 (ix x)), .int ((G 17 (ix (G 14 (ix x)))) &&& (G 17 (ix x)))] (c_X2_skip x (G 14 (ix x)) ((G 17 (ix (G 14 (ix x)))) &&& (G 17 (ix x))) o1 o2 o3 o4) (by omega) rfl rfl (Nat.le_of_ble_eq_true rfl) ⟨Nat.zero_le _, Nat.zero_le _⟩ dX2_apply_219 rfl ?_
  refine r_nGC (fun G1 eG1 => ?_)
  refine r_goto E 338 dX2_apply_222 (by decide) ?_
  exact r_vret E T dX2_apply_338 (k1 G1 eG1)
set_option maxRecDepth 100000 in
set_option maxHeartbeats 800000 in
theorem ap_10 {z : Zt} (E : EN z cX2_apply RX2) {w0 : va_W} {P : Option Value → va_W → Prop} {lvl : Nat} (T : RT z none lvl w0 P 0 0) (hz : zn z = 4) {ad : Nat → Nat} {G : Nat → Nat → Int32} {V : Nat → Int32} {n : Nat} (hlv : 6 ≤ lvl) (x rule : Int32) (hr : rule = 10) 
    (o1 : vp_in x 60) 
    (o2 : vp_in (G 14 (ix x)) 60) 
    (o3 : (¬ G 13 (ix x) = 0 → vp_in (G 14 (ix (G 14 (ix x)))) 60)) 
    (o4 : (G 13 (ix x) = 1 ∨ G 13 (ix x) = 2 → vp_in (G 17 (ix x)) 40))
    (k1 : ∀ (G1 : Nat → Nat → Int32), G1 = fX2_skip_G G x (G 14 (ix x)) (G 17 (ix x)) → P none (WC (zk z) ad G1 (upd V 9 ((V 9) + 1)) n)) :
    WW z 0 0 (WC (zk z) ad G V n) 0 [(0, .ref (ad 27)), (1, .int x), (2, .int rule)] [] := by
  refine r_aload_n E (q := 1) 0 dX2_apply_0 rfl rfl rfl ?_
  refine r_get E (q := 4) fX2_13 27 wc_27 rfl dX2_apply_1 rfl ?_
  refine r_get E (q := 7) fX2_26 12 wc_12 rfl dX2_apply_4 rfl ?_
  refine r_iload_n E (q := 8) 1 dX2_apply_7 rfl rfl rfl ?_
  refine r_iald E (q := 9) 14 wc_14 o1 dX2_apply_8 rfl ?_
  refine r_istore_n E (q := 10) (lv' := [(0, .ref (ad 27)), (1, .int x), (2, .int rule), (3, .int (G 14 (ix x)))]) [1, 2, 3, 0] dX2_apply_9 rfl (by rw [hz]; decide) rfl rfl ?_
  refine r_aload_n E (q := 11) 0 dX2_apply_10 rfl rfl rfl ?_
  refine r_dup E (q := 12) dX2_apply_11 rfl rfl ?_
  refine r_get E (q := 15) fX2_79 27 wc_27 rfl dX2_apply_12 rfl ?_
  refine r_iconst E (q := 16) (v := 1) dX2_apply_15 (by decide) rfl ?_
  refine r_iadd E (q := 17) dX2_apply_16 rfl ?_
  refine r_put E (q := 20) pX2_79 rfl 27 wc_27 rfl rfl (Nat.le_of_ble_eq_true rfl) wcv_9 dX2_apply_17 rfl ?_
  refine r_iload_n E (q := 21) 2 dX2_apply_20 rfl rfl rfl ?_
  refine r_tabIn E 10 hr 255 dX2_apply_21 (by decide) (by rfl) (by decide) ?_
  refine r_aload_n E (q := 256) 0 dX2_apply_255 rfl rfl rfl ?_
  refine r_iload_n E (q := 257) 1 dX2_apply_256 rfl rfl rfl ?_
  refine r_iload_n E (q := 258) 3 dX2_apply_257 rfl rfl rfl ?_
  refine r_aload_n E (q := 259) 0 dX2_apply_258 rfl rfl rfl ?_
  refine r_get E (q := 262) fX2_13 27 wc_27 rfl dX2_apply_259 rfl ?_
  refine r_get E (q := 265) fX2_32 12 wc_12 rfl dX2_apply_262 rfl ?_
  refine r_iload_n E (q := 266) 1 dX2_apply_265 rfl rfl rfl ?_
  refine r_iald E (q := 267) 17 wc_17 o1 dX2_apply_266 rfl ?_
  refine rVv E (q := 270) cvX2_95 T.rr 27 wc_27 rfl [.int x, .int (G 14 (ix x)), .int (G 17 (ix x))] (c_X2_skip x (G 14 (ix x)) (G 17 (ix x)) o1 o2 o3 o4) (by omega) rfl rfl (Nat.le_of_ble_eq_true rfl) ⟨Nat.zero_le _, Nat.zero_le _⟩ dX2_apply_267 rfl ?_
  refine r_nGC (fun G1 eG1 => ?_)
  refine r_goto E 338 dX2_apply_270 (by decide) ?_
  exact r_vret E T dX2_apply_338 (k1 G1 eG1)
set_option maxRecDepth 100000 in
set_option maxHeartbeats 800000 in
theorem ap_11 {z : Zt} (E : EN z cX2_apply RX2) {w0 : va_W} {P : Option Value → va_W → Prop} {lvl : Nat} (T : RT z none lvl w0 P 0 0) (hz : zn z = 4) {ad : Nat → Nat} {G : Nat → Nat → Int32} {V : Nat → Int32} {n : Nat} (hlv : 6 ≤ lvl) (x rule : Int32) (hr : rule = 11) 
    (o1 : vp_in x 60) 
    (o2 : vp_in (G 14 (ix x)) 60) 
    (o3 : vp_in ((upd V 9 ((V 9) + 1)) 1) 60) 
    (o4 : (¬ G 13 (ix x) = 0 → vp_in (G 14 (ix (G 14 (ix x)))) 60)) 
    (o5 : (G 13 (ix x) = 1 ∨ G 13 (ix x) = 2 → vp_in (G 17 (ix x)) 40)) 
    (o6 : ∀ (G1 : Nat → Nat → Int32), G1 = fX2_addLike_G G (upd V 9 ((V 9) + 1)) x (G 14 (ix (G 14 (ix x)))) → vp_in (G 14 (ix x)) 60) 
    (o7 : ∀ (G1 : Nat → Nat → Int32), G1 = fX2_addLike_G G (upd V 9 ((V 9) + 1)) x (G 14 (ix (G 14 (ix x)))) → vp_in x 60) 
    (o8 : ∀ (G1 : Nat → Nat → Int32), G1 = fX2_addLike_G G (upd V 9 ((V 9) + 1)) x (G 14 (ix (G 14 (ix x)))) → vp_in ((fX2_addLike_V G (upd V 9 ((V 9) + 1)) x (G 14 (ix (G 14 (ix x))))) 1) 60) 
    (o9 : ∀ (G1 : Nat → Nat → Int32), G1 = fX2_addLike_G G (upd V 9 ((V 9) + 1)) x (G 14 (ix (G 14 (ix x)))) → (¬ G1 13 (ix x) = 0 → vp_in (G1 15 (ix (G 14 (ix x)))) 60)) 
    (o10 : ∀ (G1 : Nat → Nat → Int32), G1 = fX2_addLike_G G (upd V 9 ((V 9) + 1)) x (G 14 (ix (G 14 (ix x)))) → (G1 13 (ix x) = 1 ∨ G1 13 (ix x) = 2 → vp_in (G1 17 (ix x)) 40)) 
    (o11 : ∀ (G1 G2 : Nat → Nat → Int32), G1 = fX2_addLike_G G (upd V 9 ((V 9) + 1)) x (G 14 (ix (G 14 (ix x)))) → G2 = fX2_addLike_G G1 (fX2_addLike_V G (upd V 9 ((V 9) + 1)) x (G 14 (ix (G 14 (ix x))))) x (G1 15 (ix (G 14 (ix x)))) → vp_in x 60) 
    (o12 : ∀ (G1 G2 : Nat → Nat → Int32), G1 = fX2_addLike_G G (upd V 9 ((V 9) + 1)) x (G 14 (ix (G 14 (ix x)))) → G2 = fX2_addLike_G G1 (fX2_addLike_V G (upd V 9 ((V 9) + 1)) x (G 14 (ix (G 14 (ix x))))) x (G1 15 (ix (G 14 (ix x)))) → vp_in (G 14 (ix x)) 60) 
    (o13 : ∀ (G1 G2 : Nat → Nat → Int32), G1 = fX2_addLike_G G (upd V 9 ((V 9) + 1)) x (G 14 (ix (G 14 (ix x)))) → G2 = fX2_addLike_G G1 (fX2_addLike_V G (upd V 9 ((V 9) + 1)) x (G 14 (ix (G 14 (ix x))))) x (G1 15 (ix (G 14 (ix x)))) → (¬ G2 13 (ix (G 14 (ix x))) = 0 → vp_in (fX2_addLike G (upd V 9 ((V 9) + 1)) x (G 14 (ix (G 14 (ix x))))) 60)) 
    (o14 : ∀ (G1 G2 : Nat → Nat → Int32), G1 = fX2_addLike_G G (upd V 9 ((V 9) + 1)) x (G 14 (ix (G 14 (ix x)))) → G2 = fX2_addLike_G G1 (fX2_addLike_V G (upd V 9 ((V 9) + 1)) x (G 14 (ix (G 14 (ix x))))) x (G1 15 (ix (G 14 (ix x)))) → (G2 13 (ix (G 14 (ix x))) = 4 ∨ G2 13 (ix (G 14 (ix x))) = 5 → vp_in (fX2_addLike G1 (fX2_addLike_V G (upd V 9 ((V 9) + 1)) x (G 14 (ix (G 14 (ix x))))) x (G1 15 (ix (G 14 (ix x))))) 60)) 
    (o15 : ∀ (G1 G2 : Nat → Nat → Int32), G1 = fX2_addLike_G G (upd V 9 ((V 9) + 1)) x (G 14 (ix (G 14 (ix x)))) → G2 = fX2_addLike_G G1 (fX2_addLike_V G (upd V 9 ((V 9) + 1)) x (G 14 (ix (G 14 (ix x))))) x (G1 15 (ix (G 14 (ix x)))) → (G2 13 (ix (G 14 (ix x))) = 1 ∨ G2 13 (ix (G 14 (ix x))) = 2 → vp_in (G2 17 (ix (G 14 (ix x)))) 40))
    (k1 : ∀ (G1 G2 G3 : Nat → Nat → Int32), G1 = fX2_addLike_G G (upd V 9 ((V 9) + 1)) x (G 14 (ix (G 14 (ix x)))) → G2 = fX2_addLike_G G1 (fX2_addLike_V G (upd V 9 ((V 9) + 1)) x (G 14 (ix (G 14 (ix x))))) x (G1 15 (ix (G 14 (ix x)))) → G3 = fX2_exchange_G G2 x (G 14 (ix x)) (fX2_addLike G (upd V 9 ((V 9) + 1)) x (G 14 (ix (G 14 (ix x))))) (fX2_addLike G1 (fX2_addLike_V G (upd V 9 ((V 9) + 1)) x (G 14 (ix (G 14 (ix x))))) x (G1 15 (ix (G 14 (ix x))))) → P none (WC (zk z) ad G3 (fX2_addLike_V G1 (fX2_addLike_V G (upd V 9 ((V 9) + 1)) x (G 14 (ix (G 14 (ix x))))) x (G1 15 (ix (G 14 (ix x))))) n)) :
    WW z 0 0 (WC (zk z) ad G V n) 0 [(0, .ref (ad 27)), (1, .int x), (2, .int rule)] [] := by
  refine r_aload_n E (q := 1) 0 dX2_apply_0 rfl rfl rfl ?_
  refine r_get E (q := 4) fX2_13 27 wc_27 rfl dX2_apply_1 rfl ?_
  refine r_get E (q := 7) fX2_26 12 wc_12 rfl dX2_apply_4 rfl ?_
  refine r_iload_n E (q := 8) 1 dX2_apply_7 rfl rfl rfl ?_
  refine r_iald E (q := 9) 14 wc_14 o1 dX2_apply_8 rfl ?_
  refine r_istore_n E (q := 10) (lv' := [(0, .ref (ad 27)), (1, .int x), (2, .int rule), (3, .int (G 14 (ix x)))]) [1, 2, 3, 0] dX2_apply_9 rfl (by rw [hz]; decide) rfl rfl ?_
  refine r_aload_n E (q := 11) 0 dX2_apply_10 rfl rfl rfl ?_
  refine r_dup E (q := 12) dX2_apply_11 rfl rfl ?_
  refine r_get E (q := 15) fX2_79 27 wc_27 rfl dX2_apply_12 rfl ?_
  refine r_iconst E (q := 16) (v := 1) dX2_apply_15 (by decide) rfl ?_
  refine r_iadd E (q := 17) dX2_apply_16 rfl ?_
  refine r_put E (q := 20) pX2_79 rfl 27 wc_27 rfl rfl (Nat.le_of_ble_eq_true rfl) wcv_9 dX2_apply_17 rfl ?_
  refine r_iload_n E (q := 21) 2 dX2_apply_20 rfl rfl rfl ?_
  refine r_tabIn E 11 hr 124 dX2_apply_21 (by decide) (by rfl) (by decide) ?_
  refine r_aload_n E (q := 125) 0 dX2_apply_124 rfl rfl rfl ?_
  refine r_iload_n E (q := 126) 1 dX2_apply_125 rfl rfl rfl ?_
  refine r_iload_n E (q := 127) 3 dX2_apply_126 rfl rfl rfl ?_
  refine r_aload_n E (q := 128) 0 dX2_apply_127 rfl rfl rfl ?_
  refine r_iload_n E (q := 129) 1 dX2_apply_128 rfl rfl rfl ?_
  refine r_aload_n E (q := 130) 0 dX2_apply_129 rfl rfl rfl ?_
  refine r_get E (q := 133) fX2_13 27 wc_27 rfl dX2_apply_130 rfl ?_
  refine r_get E (q := 136) fX2_26 12 wc_12 rfl dX2_apply_133 rfl ?_
  refine r_iload_n E (q := 137) 3 dX2_apply_136 rfl rfl rfl ?_
  refine r_iald E (q := 138) 14 wc_14 o2 dX2_apply_137 rfl ?_
  refine rVi E (q := 141) cvX2_83 T.rr 27 wc_27 rfl [.int x, .int (G 14 (ix (G 14 (ix x))))] (c_X2_addLike x (G 14 (ix (G 14 (ix x)))) o1 o3 o4 o5) (by omega) rfl rfl (Nat.le_of_ble_eq_true rfl) ⟨Nat.zero_le _, Nat.zero_le _⟩ dX2_apply_138 rfl ?_
  refine r_nGC (fun G1 eG1 => ?_)
  refine r_aload_n E (q := 142) 0 dX2_apply_141 rfl rfl rfl ?_
  refine r_iload_n E (q := 143) 1 dX2_apply_142 rfl rfl rfl ?_
  refine r_aload_n E (q := 144) 0 dX2_apply_143 rfl rfl rfl ?_
  refine r_get E (q := 147) fX2_13 27 wc_27 rfl dX2_apply_144 rfl ?_
  refine r_get E (q := 150) fX2_64 12 wc_12 rfl dX2_apply_147 rfl ?_
  refine r_iload_n E (q := 151) 3 dX2_apply_150 rfl rfl rfl ?_
  refine r_iald E (q := 152) 15 wc_15 (o6 G1 eG1) dX2_apply_151 rfl ?_
  refine rVi E (q := 155) cvX2_83 T.rr 27 wc_27 rfl [.int x, .int (G1 15 (ix (G 14 (ix x))))] (c_X2_addLike x (G1 15 (ix (G 14 (ix x)))) (o7 G1 eG1) (o8 G1 eG1) (o9 G1 eG1) (o10 G1 eG1)) (by omega) rfl rfl (Nat.le_of_ble_eq_true rfl) ⟨Nat.zero_le _, Nat.zero_le _⟩ dX2_apply_152 rfl ?_
  refine r_nGC (fun G2 eG2 => ?_)
  refine rVv E (q := 158) cvX2_87 T.rr 27 wc_27 rfl [.int x, .int (G 14 (ix x)), .int (fX2_addLike G (upd V 9 ((V 9) + 1)) x (G 14 (ix (G 14 (ix x))))), .int (fX2_addLike G1 (fX2_addLike_V G (upd V 9 ((V 9) + 1)) x (G 14 (ix (G 14 (ix x))))) x (G1 15 (ix (G 14 (ix x)))))] (c_X2_exchange x (G 14 (ix x)) (fX2_addLike G (upd V 9 ((V 9) + 1)) x (G 14 (ix (G 14 (ix x))))) (fX2_addLike G1 (fX2_addLike_V G (upd V 9 ((V 9) + 1)) x (G 14 (ix (G 14 (ix x))))) x (G1 15 (ix (G 14 (ix x))))) (o11 G1 G2 eG1 eG2) (o12 G1 G2 eG1 eG2) (o13 G1 G2 eG1 eG2) (o14 G1 G2 eG1 eG2) (o15 G1 G2 eG1 eG2)) (by omega) rfl rfl (Nat.le_of_ble_eq_true rfl) ⟨Nat.zero_le _, Nat.zero_le _⟩ dX2_apply_155 rfl ?_
  refine r_nGC (fun G3 eG3 => ?_)
  refine r_goto E 338 dX2_apply_158 (by decide) ?_
  exact r_vret E T dX2_apply_338 (k1 G1 G2 G3 eG1 eG2 eG3)
set_option maxRecDepth 100000 in
set_option maxHeartbeats 800000 in
theorem ap_12 {z : Zt} (E : EN z cX2_apply RX2) {w0 : va_W} {P : Option Value → va_W → Prop} {lvl : Nat} (T : RT z none lvl w0 P 0 0) (hz : zn z = 4) {ad : Nat → Nat} {G : Nat → Nat → Int32} {V : Nat → Int32} {n : Nat} (hlv : 6 ≤ lvl) (x rule : Int32) (hr : rule = 12) 
    (o1 : vp_in x 60) 
    (o2 : vp_in (G 14 (ix x)) 60) 
    (o3 : vp_in ((upd V 9 ((V 9) + 1)) 1) 60) 
    (o4 : (¬ G 13 (ix x) = 0 → vp_in (G 14 (ix (G 14 (ix x)))) 60)) 
    (o5 : (G 13 (ix x) = 1 ∨ G 13 (ix x) = 2 → vp_in (G 17 (ix x)) 40)) 
    (o6 : ∀ (G1 : Nat → Nat → Int32), G1 = fX2_addLike_G G (upd V 9 ((V 9) + 1)) x (G 14 (ix (G 14 (ix x)))) → vp_in (G 14 (ix x)) 60) 
    (o7 : ∀ (G1 : Nat → Nat → Int32), G1 = fX2_addLike_G G (upd V 9 ((V 9) + 1)) x (G 14 (ix (G 14 (ix x)))) → vp_in x 60) 
    (o8 : ∀ (G1 : Nat → Nat → Int32), G1 = fX2_addLike_G G (upd V 9 ((V 9) + 1)) x (G 14 (ix (G 14 (ix x)))) → vp_in ((fX2_addLike_V G (upd V 9 ((V 9) + 1)) x (G 14 (ix (G 14 (ix x))))) 1) 60) 
    (o9 : ∀ (G1 : Nat → Nat → Int32), G1 = fX2_addLike_G G (upd V 9 ((V 9) + 1)) x (G 14 (ix (G 14 (ix x)))) → (¬ G1 13 (ix x) = 0 → vp_in (G1 15 (ix (G 14 (ix x)))) 60)) 
    (o10 : ∀ (G1 : Nat → Nat → Int32), G1 = fX2_addLike_G G (upd V 9 ((V 9) + 1)) x (G 14 (ix (G 14 (ix x)))) → (G1 13 (ix x) = 1 ∨ G1 13 (ix x) = 2 → vp_in (G1 17 (ix x)) 40)) 
    (o11 : ∀ (G1 G2 : Nat → Nat → Int32), G1 = fX2_addLike_G G (upd V 9 ((V 9) + 1)) x (G 14 (ix (G 14 (ix x)))) → G2 = fX2_addLike_G G1 (fX2_addLike_V G (upd V 9 ((V 9) + 1)) x (G 14 (ix (G 14 (ix x))))) x (G1 15 (ix (G 14 (ix x)))) → vp_in x 60) 
    (o12 : ∀ (G1 G2 : Nat → Nat → Int32), G1 = fX2_addLike_G G (upd V 9 ((V 9) + 1)) x (G 14 (ix (G 14 (ix x)))) → G2 = fX2_addLike_G G1 (fX2_addLike_V G (upd V 9 ((V 9) + 1)) x (G 14 (ix (G 14 (ix x))))) x (G1 15 (ix (G 14 (ix x)))) → vp_in ((fX2_addLike_V G1 (fX2_addLike_V G (upd V 9 ((V 9) + 1)) x (G 14 (ix (G 14 (ix x))))) x (G1 15 (ix (G 14 (ix x))))) 1) 60) 
    (o13 : ∀ (G1 G2 : Nat → Nat → Int32), G1 = fX2_addLike_G G (upd V 9 ((V 9) + 1)) x (G 14 (ix (G 14 (ix x)))) → G2 = fX2_addLike_G G1 (fX2_addLike_V G (upd V 9 ((V 9) + 1)) x (G 14 (ix (G 14 (ix x))))) x (G1 15 (ix (G 14 (ix x)))) → vp_in (fX2_addLike G (upd V 9 ((V 9) + 1)) x (G 14 (ix (G 14 (ix x))))) 60) 
    (o14 : ∀ (G1 G2 : Nat → Nat → Int32), G1 = fX2_addLike_G G (upd V 9 ((V 9) + 1)) x (G 14 (ix (G 14 (ix x)))) → G2 = fX2_addLike_G G1 (fX2_addLike_V G (upd V 9 ((V 9) + 1)) x (G 14 (ix (G 14 (ix x))))) x (G1 15 (ix (G 14 (ix x)))) → vp_in (fX2_addLike G1 (fX2_addLike_V G (upd V 9 ((V 9) + 1)) x (G 14 (ix (G 14 (ix x))))) x (G1 15 (ix (G 14 (ix x))))) 60) 
    (o15 : ∀ (G1 G2 : Nat → Nat → Int32), G1 = fX2_addLike_G G (upd V 9 ((V 9) + 1)) x (G 14 (ix (G 14 (ix x)))) → G2 = fX2_addLike_G G1 (fX2_addLike_V G (upd V 9 ((V 9) + 1)) x (G 14 (ix (G 14 (ix x))))) x (G1 15 (ix (G 14 (ix x)))) → ((fX1_add_G G2 (fX2_addLike_V G1 (fX2_addLike_V G (upd V 9 ((V 9) + 1)) x (G 14 (ix (G 14 (ix x))))) x (G1 15 (ix (G 14 (ix x))))) 5 (fX2_addLike G (upd V 9 ((V 9) + 1)) x (G 14 (ix (G 14 (ix x))))) (fX2_addLike G1 (fX2_addLike_V G (upd V 9 ((V 9) + 1)) x (G 14 (ix (G 14 (ix x))))) x (G1 15 (ix (G 14 (ix x))))) 0 0) 13 (ix x) = 1 ∨ (fX1_add_G G2 (fX2_addLike_V G1 (fX2_addLike_V G (upd V 9 ((V 9) + 1)) x (G 14 (ix (G 14 (ix x))))) x (G1 15 (ix (G 14 (ix x))))) 5 (fX2_addLike G (upd V 9 ((V 9) + 1)) x (G 14 (ix (G 14 (ix x))))) (fX2_addLike G1 (fX2_addLike_V G (upd V 9 ((V 9) + 1)) x (G 14 (ix (G 14 (ix x))))) x (G1 15 (ix (G 14 (ix x))))) 0 0) 13 (ix x) = 2 → vp_in ((fX1_add_G G2 (fX2_addLike_V G1 (fX2_addLike_V G (upd V 9 ((V 9) + 1)) x (G 14 (ix (G 14 (ix x))))) x (G1 15 (ix (G 14 (ix x))))) 5 (fX2_addLike G (upd V 9 ((V 9) + 1)) x (G 14 (ix (G 14 (ix x))))) (fX2_addLike G1 (fX2_addLike_V G (upd V 9 ((V 9) + 1)) x (G 14 (ix (G 14 (ix x))))) x (G1 15 (ix (G 14 (ix x))))) 0 0) 17 (ix x)) 40))
    (k1 : ∀ (G1 G2 G3 : Nat → Nat → Int32), G1 = fX2_addLike_G G (upd V 9 ((V 9) + 1)) x (G 14 (ix (G 14 (ix x)))) → G2 = fX2_addLike_G G1 (fX2_addLike_V G (upd V 9 ((V 9) + 1)) x (G 14 (ix (G 14 (ix x))))) x (G1 15 (ix (G 14 (ix x)))) → G3 = fX2_workAbove_G G2 (fX2_addLike_V G1 (fX2_addLike_V G (upd V 9 ((V 9) + 1)) x (G 14 (ix (G 14 (ix x))))) x (G1 15 (ix (G 14 (ix x))))) x (fX2_addLike G (upd V 9 ((V 9) + 1)) x (G 14 (ix (G 14 (ix x))))) (fX2_addLike G1 (fX2_addLike_V G (upd V 9 ((V 9) + 1)) x (G 14 (ix (G 14 (ix x))))) x (G1 15 (ix (G 14 (ix x))))) → P none (WC (zk z) ad G3 (fX2_workAbove_V G2 (fX2_addLike_V G1 (fX2_addLike_V G (upd V 9 ((V 9) + 1)) x (G 14 (ix (G 14 (ix x))))) x (G1 15 (ix (G 14 (ix x))))) x (fX2_addLike G (upd V 9 ((V 9) + 1)) x (G 14 (ix (G 14 (ix x))))) (fX2_addLike G1 (fX2_addLike_V G (upd V 9 ((V 9) + 1)) x (G 14 (ix (G 14 (ix x))))) x (G1 15 (ix (G 14 (ix x)))))) n)) :
    WW z 0 0 (WC (zk z) ad G V n) 0 [(0, .ref (ad 27)), (1, .int x), (2, .int rule)] [] := by
  refine r_aload_n E (q := 1) 0 dX2_apply_0 rfl rfl rfl ?_
  refine r_get E (q := 4) fX2_13 27 wc_27 rfl dX2_apply_1 rfl ?_
  refine r_get E (q := 7) fX2_26 12 wc_12 rfl dX2_apply_4 rfl ?_
  refine r_iload_n E (q := 8) 1 dX2_apply_7 rfl rfl rfl ?_
  refine r_iald E (q := 9) 14 wc_14 o1 dX2_apply_8 rfl ?_
  refine r_istore_n E (q := 10) (lv' := [(0, .ref (ad 27)), (1, .int x), (2, .int rule), (3, .int (G 14 (ix x)))]) [1, 2, 3, 0] dX2_apply_9 rfl (by rw [hz]; decide) rfl rfl ?_
  refine r_aload_n E (q := 11) 0 dX2_apply_10 rfl rfl rfl ?_
  refine r_dup E (q := 12) dX2_apply_11 rfl rfl ?_
  refine r_get E (q := 15) fX2_79 27 wc_27 rfl dX2_apply_12 rfl ?_
  refine r_iconst E (q := 16) (v := 1) dX2_apply_15 (by decide) rfl ?_
  refine r_iadd E (q := 17) dX2_apply_16 rfl ?_
  refine r_put E (q := 20) pX2_79 rfl 27 wc_27 rfl rfl (Nat.le_of_ble_eq_true rfl) wcv_9 dX2_apply_17 rfl ?_
  refine r_iload_n E (q := 21) 2 dX2_apply_20 rfl rfl rfl ?_
  refine r_tabIn E 12 hr 273 dX2_apply_21 (by decide) (by rfl) (by decide) ?_
  refine r_aload_n E (q := 274) 0 dX2_apply_273 rfl rfl rfl ?_
  refine r_iload_n E (q := 275) 1 dX2_apply_274 rfl rfl rfl ?_
  refine r_aload_n E (q := 276) 0 dX2_apply_275 rfl rfl rfl ?_
  refine r_iload_n E (q := 277) 1 dX2_apply_276 rfl rfl rfl ?_
  refine r_aload_n E (q := 278) 0 dX2_apply_277 rfl rfl rfl ?_
  refine r_get E (q := 281) fX2_13 27 wc_27 rfl dX2_apply_278 rfl ?_
  refine r_get E (q := 284) fX2_26 12 wc_12 rfl dX2_apply_281 rfl ?_
  refine r_iload_n E (q := 285) 3 dX2_apply_284 rfl rfl rfl ?_
  refine r_iald E (q := 286) 14 wc_14 o2 dX2_apply_285 rfl ?_
  refine rVi E (q := 289) cvX2_83 T.rr 27 wc_27 rfl [.int x, .int (G 14 (ix (G 14 (ix x))))] (c_X2_addLike x (G 14 (ix (G 14 (ix x)))) o1 o3 o4 o5) (by omega) rfl rfl (Nat.le_of_ble_eq_true rfl) ⟨Nat.zero_le _, Nat.zero_le _⟩ dX2_apply_286 rfl ?_
  refine r_nGC (fun G1 eG1 => ?_)
  refine r_aload_n E (q := 290) 0 dX2_apply_289 rfl rfl rfl ?_
  refine r_iload_n E (q := 291) 1 dX2_apply_290 rfl rfl rfl ?_
  refine r_aload_n E (q := 292) 0 dX2_apply_291 rfl rfl rfl ?_
  refine r_get E (q := 295) fX2_13 27 wc_27 rfl dX2_apply_292 rfl ?_
  refine r_get E (q := 298) fX2_64 12 wc_12 rfl dX2_apply_295 rfl ?_
  refine r_iload_n E (q := 299) 3 dX2_apply_298 rfl rfl rfl ?_
  refine r_iald E (q := 300) 15 wc_15 (o6 G1 eG1) dX2_apply_299 rfl ?_
  refine rVi E (q := 303) cvX2_83 T.rr 27 wc_27 rfl [.int x, .int (G1 15 (ix (G 14 (ix x))))] (c_X2_addLike x (G1 15 (ix (G 14 (ix x)))) (o7 G1 eG1) (o8 G1 eG1) (o9 G1 eG1) (o10 G1 eG1)) (by omega) rfl rfl (Nat.le_of_ble_eq_true rfl) ⟨Nat.zero_le _, Nat.zero_le _⟩ dX2_apply_300 rfl ?_
  refine r_nGC (fun G2 eG2 => ?_)
  refine rVv E (q := 306) cvX2_104 T.rr 27 wc_27 rfl [.int x, .int (fX2_addLike G (upd V 9 ((V 9) + 1)) x (G 14 (ix (G 14 (ix x))))), .int (fX2_addLike G1 (fX2_addLike_V G (upd V 9 ((V 9) + 1)) x (G 14 (ix (G 14 (ix x))))) x (G1 15 (ix (G 14 (ix x)))))] (c_X2_workAbove x (fX2_addLike G (upd V 9 ((V 9) + 1)) x (G 14 (ix (G 14 (ix x))))) (fX2_addLike G1 (fX2_addLike_V G (upd V 9 ((V 9) + 1)) x (G 14 (ix (G 14 (ix x))))) x (G1 15 (ix (G 14 (ix x))))) (o11 G1 G2 eG1 eG2) (o12 G1 G2 eG1 eG2) (o13 G1 G2 eG1 eG2) (o14 G1 G2 eG1 eG2) (o15 G1 G2 eG1 eG2)) (by omega) rfl rfl (Nat.le_of_ble_eq_true rfl) ⟨Nat.zero_le _, Nat.zero_le _⟩ dX2_apply_303 rfl ?_
  refine r_nGC (fun G3 eG3 => ?_)
  refine r_goto E 338 dX2_apply_306 (by decide) ?_
  exact r_vret E T dX2_apply_338 (k1 G1 G2 G3 eG1 eG2 eG3)
set_option maxRecDepth 100000 in
set_option maxHeartbeats 800000 in
theorem ap_13 {z : Zt} (E : EN z cX2_apply RX2) {w0 : va_W} {P : Option Value → va_W → Prop} {lvl : Nat} (T : RT z none lvl w0 P 0 0) (hz : zn z = 4) {ad : Nat → Nat} {G : Nat → Nat → Int32} {V : Nat → Int32} {n : Nat} (hlv : 6 ≤ lvl) (x rule : Int32) (hr : rule = 13) 
    (o1 : vp_in x 60) 
    (o2 : vp_in (G 14 (ix x)) 60) 
    (o3 : (¬ G 13 (ix x) = 0 → vp_in (G 14 (ix (G 14 (ix x)))) 60)) 
    (o4 : (G 13 (ix x) = 1 ∨ G 13 (ix x) = 2 → vp_in (G 17 (ix x)) 40))
    (k1 : ∀ (G1 : Nat → Nat → Int32), G1 = fX2_skip_G G x (G 14 (ix x)) (G 17 (ix x)) → P none (WC (zk z) ad G1 (upd V 9 ((V 9) + 1)) n)) :
    WW z 0 0 (WC (zk z) ad G V n) 0 [(0, .ref (ad 27)), (1, .int x), (2, .int rule)] [] := by
  refine r_aload_n E (q := 1) 0 dX2_apply_0 rfl rfl rfl ?_
  refine r_get E (q := 4) fX2_13 27 wc_27 rfl dX2_apply_1 rfl ?_
  refine r_get E (q := 7) fX2_26 12 wc_12 rfl dX2_apply_4 rfl ?_
  refine r_iload_n E (q := 8) 1 dX2_apply_7 rfl rfl rfl ?_
  refine r_iald E (q := 9) 14 wc_14 o1 dX2_apply_8 rfl ?_
  refine r_istore_n E (q := 10) (lv' := [(0, .ref (ad 27)), (1, .int x), (2, .int rule), (3, .int (G 14 (ix x)))]) [1, 2, 3, 0] dX2_apply_9 rfl (by rw [hz]; decide) rfl rfl ?_
  refine r_aload_n E (q := 11) 0 dX2_apply_10 rfl rfl rfl ?_
  refine r_dup E (q := 12) dX2_apply_11 rfl rfl ?_
  refine r_get E (q := 15) fX2_79 27 wc_27 rfl dX2_apply_12 rfl ?_
  refine r_iconst E (q := 16) (v := 1) dX2_apply_15 (by decide) rfl ?_
  refine r_iadd E (q := 17) dX2_apply_16 rfl ?_
  refine r_put E (q := 20) pX2_79 rfl 27 wc_27 rfl rfl (Nat.le_of_ble_eq_true rfl) wcv_9 dX2_apply_17 rfl ?_
  refine r_iload_n E (q := 21) 2 dX2_apply_20 rfl rfl rfl ?_
  refine r_tabIn E 13 hr 255 dX2_apply_21 (by decide) (by rfl) (by decide) ?_
  refine r_aload_n E (q := 256) 0 dX2_apply_255 rfl rfl rfl ?_
  refine r_iload_n E (q := 257) 1 dX2_apply_256 rfl rfl rfl ?_
  refine r_iload_n E (q := 258) 3 dX2_apply_257 rfl rfl rfl ?_
  refine r_aload_n E (q := 259) 0 dX2_apply_258 rfl rfl rfl ?_
  refine r_get E (q := 262) fX2_13 27 wc_27 rfl dX2_apply_259 rfl ?_
  refine r_get E (q := 265) fX2_32 12 wc_12 rfl dX2_apply_262 rfl ?_
  refine r_iload_n E (q := 266) 1 dX2_apply_265 rfl rfl rfl ?_
  refine r_iald E (q := 267) 17 wc_17 o1 dX2_apply_266 rfl ?_
  refine rVv E (q := 270) cvX2_95 T.rr 27 wc_27 rfl [.int x, .int (G 14 (ix x)), .int (G 17 (ix x))] (c_X2_skip x (G 14 (ix x)) (G 17 (ix x)) o1 o2 o3 o4) (by omega) rfl rfl (Nat.le_of_ble_eq_true rfl) ⟨Nat.zero_le _, Nat.zero_le _⟩ dX2_apply_267 rfl ?_
  refine r_nGC (fun G1 eG1 => ?_)
  refine r_goto E 338 dX2_apply_270 (by decide) ?_
  exact r_vret E T dX2_apply_338 (k1 G1 eG1)
set_option maxRecDepth 100000 in
set_option maxHeartbeats 800000 in
theorem ap_14 {z : Zt} (E : EN z cX2_apply RX2) {w0 : va_W} {P : Option Value → va_W → Prop} {lvl : Nat} (T : RT z none lvl w0 P 0 0) (hz : zn z = 4) {ad : Nat → Nat} {G : Nat → Nat → Int32} {V : Nat → Int32} {n : Nat} (hlv : 6 ≤ lvl) (x rule : Int32) (hr : rule = 14) 
    (o1 : vp_in x 60) 
    (o2 : vp_in (G 14 (ix x)) 60) 
    (o3 : (¬ G 13 (ix x) = 0 → vp_in (G 14 (ix (G 14 (ix x)))) 60)) 
    (o4 : (G 13 (ix x) = 1 ∨ G 13 (ix x) = 2 → vp_in (G 17 (ix x)) 40))
    (k1 : ∀ (G1 : Nat → Nat → Int32), G1 = fX2_skip_G G x (G 14 (ix x)) (G 17 (ix x)) → P none (WC (zk z) ad G1 (upd V 9 ((V 9) + 1)) n)) :
    WW z 0 0 (WC (zk z) ad G V n) 0 [(0, .ref (ad 27)), (1, .int x), (2, .int rule)] [] := by
  refine r_aload_n E (q := 1) 0 dX2_apply_0 rfl rfl rfl ?_
  refine r_get E (q := 4) fX2_13 27 wc_27 rfl dX2_apply_1 rfl ?_
  refine r_get E (q := 7) fX2_26 12 wc_12 rfl dX2_apply_4 rfl ?_
  refine r_iload_n E (q := 8) 1 dX2_apply_7 rfl rfl rfl ?_
  refine r_iald E (q := 9) 14 wc_14 o1 dX2_apply_8 rfl ?_
  refine r_istore_n E (q := 10) (lv' := [(0, .ref (ad 27)), (1, .int x), (2, .int rule), (3, .int (G 14 (ix x)))]) [1, 2, 3, 0] dX2_apply_9 rfl (by rw [hz]; decide) rfl rfl ?_
  refine r_aload_n E (q := 11) 0 dX2_apply_10 rfl rfl rfl ?_
  refine r_dup E (q := 12) dX2_apply_11 rfl rfl ?_
  refine r_get E (q := 15) fX2_79 27 wc_27 rfl dX2_apply_12 rfl ?_
  refine r_iconst E (q := 16) (v := 1) dX2_apply_15 (by decide) rfl ?_
  refine r_iadd E (q := 17) dX2_apply_16 rfl ?_
  refine r_put E (q := 20) pX2_79 rfl 27 wc_27 rfl rfl (Nat.le_of_ble_eq_true rfl) wcv_9 dX2_apply_17 rfl ?_
  refine r_iload_n E (q := 21) 2 dX2_apply_20 rfl rfl rfl ?_
  refine r_tabIn E 14 hr 255 dX2_apply_21 (by decide) (by rfl) (by decide) ?_
  refine r_aload_n E (q := 256) 0 dX2_apply_255 rfl rfl rfl ?_
  refine r_iload_n E (q := 257) 1 dX2_apply_256 rfl rfl rfl ?_
  refine r_iload_n E (q := 258) 3 dX2_apply_257 rfl rfl rfl ?_
  refine r_aload_n E (q := 259) 0 dX2_apply_258 rfl rfl rfl ?_
  refine r_get E (q := 262) fX2_13 27 wc_27 rfl dX2_apply_259 rfl ?_
  refine r_get E (q := 265) fX2_32 12 wc_12 rfl dX2_apply_262 rfl ?_
  refine r_iload_n E (q := 266) 1 dX2_apply_265 rfl rfl rfl ?_
  refine r_iald E (q := 267) 17 wc_17 o1 dX2_apply_266 rfl ?_
  refine rVv E (q := 270) cvX2_95 T.rr 27 wc_27 rfl [.int x, .int (G 14 (ix x)), .int (G 17 (ix x))] (c_X2_skip x (G 14 (ix x)) (G 17 (ix x)) o1 o2 o3 o4) (by omega) rfl rfl (Nat.le_of_ble_eq_true rfl) ⟨Nat.zero_le _, Nat.zero_le _⟩ dX2_apply_267 rfl ?_
  refine r_nGC (fun G1 eG1 => ?_)
  refine r_goto E 338 dX2_apply_270 (by decide) ?_
  exact r_vret E T dX2_apply_338 (k1 G1 eG1)
set_option maxRecDepth 100000 in
set_option maxHeartbeats 800000 in
theorem ap_15 {z : Zt} (E : EN z cX2_apply RX2) {w0 : va_W} {P : Option Value → va_W → Prop} {lvl : Nat} (T : RT z none lvl w0 P 0 0) (hz : zn z = 4) {ad : Nat → Nat} {G : Nat → Nat → Int32} {V : Nat → Int32} {n : Nat} (hlv : 6 ≤ lvl) (x rule : Int32) (hr : rule = 15) 
    (o1 : vp_in x 60) 
    (o2 : vp_in (G 14 (ix x)) 60) 
    (o3 : (¬ G 13 (ix x) = 0 → vp_in (G 14 (ix (G 14 (ix x)))) 60)) 
    (o4 : (G 13 (ix x) = 1 ∨ G 13 (ix x) = 2 → vp_in (if G 17 (ix x) < G 17 (ix (G 14 (ix x))) then G 17 (ix x) else G 17 (ix (G 14 (ix x)))) 40))
    (k1 : ∀ (G1 : Nat → Nat → Int32), G1 = fX2_skip_G G x (G 14 (ix x)) (if G 17 (ix x) < G 17 (ix (G 14 (ix x))) then G 17 (ix x) else G 17 (ix (G 14 (ix x)))) → P none (WC (zk z) ad G1 (upd V 9 ((V 9) + 1)) n)) :
    WW z 0 0 (WC (zk z) ad G V n) 0 [(0, .ref (ad 27)), (1, .int x), (2, .int rule)] [] := by
  refine r_aload_n E (q := 1) 0 dX2_apply_0 rfl rfl rfl ?_
  refine r_get E (q := 4) fX2_13 27 wc_27 rfl dX2_apply_1 rfl ?_
  refine r_get E (q := 7) fX2_26 12 wc_12 rfl dX2_apply_4 rfl ?_
  refine r_iload_n E (q := 8) 1 dX2_apply_7 rfl rfl rfl ?_
  refine r_iald E (q := 9) 14 wc_14 o1 dX2_apply_8 rfl ?_
  refine r_istore_n E (q := 10) (lv' := [(0, .ref (ad 27)), (1, .int x), (2, .int rule), (3, .int (G 14 (ix x)))]) [1, 2, 3, 0] dX2_apply_9 rfl (by rw [hz]; decide) rfl rfl ?_
  refine r_aload_n E (q := 11) 0 dX2_apply_10 rfl rfl rfl ?_
  refine r_dup E (q := 12) dX2_apply_11 rfl rfl ?_
  refine r_get E (q := 15) fX2_79 27 wc_27 rfl dX2_apply_12 rfl ?_
  refine r_iconst E (q := 16) (v := 1) dX2_apply_15 (by decide) rfl ?_
  refine r_iadd E (q := 17) dX2_apply_16 rfl ?_
  refine r_put E (q := 20) pX2_79 rfl 27 wc_27 rfl rfl (Nat.le_of_ble_eq_true rfl) wcv_9 dX2_apply_17 rfl ?_
  refine r_iload_n E (q := 21) 2 dX2_apply_20 rfl rfl rfl ?_
  refine r_tabIn E 15 hr 225 dX2_apply_21 (by decide) (by rfl) (by decide) ?_
  refine r_aload_n E (q := 226) 0 dX2_apply_225 rfl rfl rfl ?_
  refine r_iload_n E (q := 227) 1 dX2_apply_226 rfl rfl rfl ?_
  refine r_iload_n E (q := 228) 3 dX2_apply_227 rfl rfl rfl ?_
  refine r_aload_n E (q := 229) 0 dX2_apply_228 rfl rfl rfl ?_
  refine r_get E (q := 232) fX2_13 27 wc_27 rfl dX2_apply_229 rfl ?_
  refine r_get E (q := 235) fX2_32 12 wc_12 rfl dX2_apply_232 rfl ?_
  refine r_iload_n E (q := 236) 3 dX2_apply_235 rfl rfl rfl ?_
  refine r_iald E (q := 237) 17 wc_17 o2 dX2_apply_236 rfl ?_
  refine r_aload_n E (q := 238) 0 dX2_apply_237 rfl rfl rfl ?_
  refine r_get E (q := 241) fX2_13 27 wc_27 rfl dX2_apply_238 rfl ?_
  refine r_get E (q := 244) fX2_32 12 wc_12 rfl dX2_apply_241 rfl ?_
  refine r_iload_n E (q := 245) 1 dX2_apply_244 rfl rfl rfl ?_
  refine r_iald E (q := 246) 17 wc_17 o1 dX2_apply_245 rfl ?_
  refine r_min E (q := 249) (d := 0) (RR.le T.rr (show 0 + 1 ≤ lvl by omega)) mnX2_99 mn_s mn_i mn_c (Nat.le_of_ble_eq_true rfl) (Nat.le_refl 0) (Nat.le_refl 0) dX2_apply_246 rfl ?_
  refine rVv E (q := 252) cvX2_95 T.rr 27 wc_27 rfl [.int x, .int (G 14 (ix x)), .int (if G 17 (ix x) < G 17 (ix (G 14 (ix x))) then G 17 (ix x) else G 17 (ix (G 14 (ix x))))] (c_X2_skip x (G 14 (ix x)) (if G 17 (ix x) < G 17 (ix (G 14 (ix x))) then G 17 (ix x) else G 17 (ix (G 14 (ix x)))) o1 o2 o3 o4) (by omega) rfl rfl (Nat.le_of_ble_eq_true rfl) ⟨Nat.zero_le _, Nat.zero_le _⟩ dX2_apply_249 rfl ?_
  refine r_nGC (fun G1 eG1 => ?_)
  refine r_goto E 338 dX2_apply_252 (by decide) ?_
  exact r_vret E T dX2_apply_338 (k1 G1 eG1)
set_option maxRecDepth 100000 in
set_option maxHeartbeats 800000 in
theorem ap_16 {z : Zt} (E : EN z cX2_apply RX2) {w0 : va_W} {P : Option Value → va_W → Prop} {lvl : Nat} (T : RT z none lvl w0 P 0 0) (hz : zn z = 4) {ad : Nat → Nat} {G : Nat → Nat → Int32} {V : Nat → Int32} {n : Nat} (hlv : 6 ≤ lvl) (x rule : Int32) (hr : rule = 16) 
    (o1 : vp_in x 60) 
    (o2 : vp_in (G 14 (ix x)) 60) 
    (o3 : vp_in ((upd V 9 ((V 9) + 1)) 1) 60) 
    (o4 : (¬ G 13 (ix x) = 0 → vp_in (G 14 (ix (G 14 (ix x)))) 60)) 
    (o5 : (G 13 (ix x) = 1 ∨ G 13 (ix x) = 2 → vp_in (G 17 (ix x)) 40)) 
    (o6 : ∀ (G1 : Nat → Nat → Int32), G1 = fX2_addLike_G G (upd V 9 ((V 9) + 1)) x (G 14 (ix (G 14 (ix x)))) → vp_in (G 14 (ix x)) 60) 
    (o7 : ∀ (G1 : Nat → Nat → Int32), G1 = fX2_addLike_G G (upd V 9 ((V 9) + 1)) x (G 14 (ix (G 14 (ix x)))) → vp_in x 60) 
    (o8 : ∀ (G1 : Nat → Nat → Int32), G1 = fX2_addLike_G G (upd V 9 ((V 9) + 1)) x (G 14 (ix (G 14 (ix x)))) → vp_in ((fX2_addLike_V G (upd V 9 ((V 9) + 1)) x (G 14 (ix (G 14 (ix x))))) 1) 60) 
    (o9 : ∀ (G1 : Nat → Nat → Int32), G1 = fX2_addLike_G G (upd V 9 ((V 9) + 1)) x (G 14 (ix (G 14 (ix x)))) → (¬ G1 13 (ix x) = 0 → vp_in (G1 15 (ix (G 14 (ix x)))) 60)) 
    (o10 : ∀ (G1 : Nat → Nat → Int32), G1 = fX2_addLike_G G (upd V 9 ((V 9) + 1)) x (G 14 (ix (G 14 (ix x)))) → (G1 13 (ix x) = 1 ∨ G1 13 (ix x) = 2 → vp_in (G1 17 (ix x)) 40)) 
    (o11 : ∀ (G1 G2 : Nat → Nat → Int32), G1 = fX2_addLike_G G (upd V 9 ((V 9) + 1)) x (G 14 (ix (G 14 (ix x)))) → G2 = fX2_addLike_G G1 (fX2_addLike_V G (upd V 9 ((V 9) + 1)) x (G 14 (ix (G 14 (ix x))))) x (G1 15 (ix (G 14 (ix x)))) → vp_in x 60) 
    (o12 : ∀ (G1 G2 : Nat → Nat → Int32), G1 = fX2_addLike_G G (upd V 9 ((V 9) + 1)) x (G 14 (ix (G 14 (ix x)))) → G2 = fX2_addLike_G G1 (fX2_addLike_V G (upd V 9 ((V 9) + 1)) x (G 14 (ix (G 14 (ix x))))) x (G1 15 (ix (G 14 (ix x)))) → vp_in ((fX2_addLike_V G1 (fX2_addLike_V G (upd V 9 ((V 9) + 1)) x (G 14 (ix (G 14 (ix x))))) x (G1 15 (ix (G 14 (ix x))))) 1) 60) 
    (o13 : ∀ (G1 G2 : Nat → Nat → Int32), G1 = fX2_addLike_G G (upd V 9 ((V 9) + 1)) x (G 14 (ix (G 14 (ix x)))) → G2 = fX2_addLike_G G1 (fX2_addLike_V G (upd V 9 ((V 9) + 1)) x (G 14 (ix (G 14 (ix x))))) x (G1 15 (ix (G 14 (ix x)))) → vp_in (fX2_addLike G (upd V 9 ((V 9) + 1)) x (G 14 (ix (G 14 (ix x))))) 60) 
    (o14 : ∀ (G1 G2 : Nat → Nat → Int32), G1 = fX2_addLike_G G (upd V 9 ((V 9) + 1)) x (G 14 (ix (G 14 (ix x)))) → G2 = fX2_addLike_G G1 (fX2_addLike_V G (upd V 9 ((V 9) + 1)) x (G 14 (ix (G 14 (ix x))))) x (G1 15 (ix (G 14 (ix x)))) → vp_in (fX2_addLike G1 (fX2_addLike_V G (upd V 9 ((V 9) + 1)) x (G 14 (ix (G 14 (ix x))))) x (G1 15 (ix (G 14 (ix x))))) 60) 
    (o15 : ∀ (G1 G2 : Nat → Nat → Int32), G1 = fX2_addLike_G G (upd V 9 ((V 9) + 1)) x (G 14 (ix (G 14 (ix x)))) → G2 = fX2_addLike_G G1 (fX2_addLike_V G (upd V 9 ((V 9) + 1)) x (G 14 (ix (G 14 (ix x))))) x (G1 15 (ix (G 14 (ix x)))) → ((fX1_add_G G2 (fX2_addLike_V G1 (fX2_addLike_V G (upd V 9 ((V 9) + 1)) x (G 14 (ix (G 14 (ix x))))) x (G1 15 (ix (G 14 (ix x))))) 5 (fX2_addLike G (upd V 9 ((V 9) + 1)) x (G 14 (ix (G 14 (ix x))))) (fX2_addLike G1 (fX2_addLike_V G (upd V 9 ((V 9) + 1)) x (G 14 (ix (G 14 (ix x))))) x (G1 15 (ix (G 14 (ix x))))) 0 0) 13 (ix x) = 1 ∨ (fX1_add_G G2 (fX2_addLike_V G1 (fX2_addLike_V G (upd V 9 ((V 9) + 1)) x (G 14 (ix (G 14 (ix x))))) x (G1 15 (ix (G 14 (ix x))))) 5 (fX2_addLike G (upd V 9 ((V 9) + 1)) x (G 14 (ix (G 14 (ix x))))) (fX2_addLike G1 (fX2_addLike_V G (upd V 9 ((V 9) + 1)) x (G 14 (ix (G 14 (ix x))))) x (G1 15 (ix (G 14 (ix x))))) 0 0) 13 (ix x) = 2 → vp_in ((fX1_add_G G2 (fX2_addLike_V G1 (fX2_addLike_V G (upd V 9 ((V 9) + 1)) x (G 14 (ix (G 14 (ix x))))) x (G1 15 (ix (G 14 (ix x))))) 5 (fX2_addLike G (upd V 9 ((V 9) + 1)) x (G 14 (ix (G 14 (ix x))))) (fX2_addLike G1 (fX2_addLike_V G (upd V 9 ((V 9) + 1)) x (G 14 (ix (G 14 (ix x))))) x (G1 15 (ix (G 14 (ix x))))) 0 0) 17 (ix x)) 40))
    (k1 : ∀ (G1 G2 G3 : Nat → Nat → Int32), G1 = fX2_addLike_G G (upd V 9 ((V 9) + 1)) x (G 14 (ix (G 14 (ix x)))) → G2 = fX2_addLike_G G1 (fX2_addLike_V G (upd V 9 ((V 9) + 1)) x (G 14 (ix (G 14 (ix x))))) x (G1 15 (ix (G 14 (ix x)))) → G3 = fX2_workAbove_G G2 (fX2_addLike_V G1 (fX2_addLike_V G (upd V 9 ((V 9) + 1)) x (G 14 (ix (G 14 (ix x))))) x (G1 15 (ix (G 14 (ix x))))) x (fX2_addLike G (upd V 9 ((V 9) + 1)) x (G 14 (ix (G 14 (ix x))))) (fX2_addLike G1 (fX2_addLike_V G (upd V 9 ((V 9) + 1)) x (G 14 (ix (G 14 (ix x))))) x (G1 15 (ix (G 14 (ix x))))) → P none (WC (zk z) ad G3 (fX2_workAbove_V G2 (fX2_addLike_V G1 (fX2_addLike_V G (upd V 9 ((V 9) + 1)) x (G 14 (ix (G 14 (ix x))))) x (G1 15 (ix (G 14 (ix x))))) x (fX2_addLike G (upd V 9 ((V 9) + 1)) x (G 14 (ix (G 14 (ix x))))) (fX2_addLike G1 (fX2_addLike_V G (upd V 9 ((V 9) + 1)) x (G 14 (ix (G 14 (ix x))))) x (G1 15 (ix (G 14 (ix x)))))) n)) :
    WW z 0 0 (WC (zk z) ad G V n) 0 [(0, .ref (ad 27)), (1, .int x), (2, .int rule)] [] := by
  refine r_aload_n E (q := 1) 0 dX2_apply_0 rfl rfl rfl ?_
  refine r_get E (q := 4) fX2_13 27 wc_27 rfl dX2_apply_1 rfl ?_
  refine r_get E (q := 7) fX2_26 12 wc_12 rfl dX2_apply_4 rfl ?_
  refine r_iload_n E (q := 8) 1 dX2_apply_7 rfl rfl rfl ?_
  refine r_iald E (q := 9) 14 wc_14 o1 dX2_apply_8 rfl ?_
  refine r_istore_n E (q := 10) (lv' := [(0, .ref (ad 27)), (1, .int x), (2, .int rule), (3, .int (G 14 (ix x)))]) [1, 2, 3, 0] dX2_apply_9 rfl (by rw [hz]; decide) rfl rfl ?_
  refine r_aload_n E (q := 11) 0 dX2_apply_10 rfl rfl rfl ?_
  refine r_dup E (q := 12) dX2_apply_11 rfl rfl ?_
  refine r_get E (q := 15) fX2_79 27 wc_27 rfl dX2_apply_12 rfl ?_
  refine r_iconst E (q := 16) (v := 1) dX2_apply_15 (by decide) rfl ?_
  refine r_iadd E (q := 17) dX2_apply_16 rfl ?_
  refine r_put E (q := 20) pX2_79 rfl 27 wc_27 rfl rfl (Nat.le_of_ble_eq_true rfl) wcv_9 dX2_apply_17 rfl ?_
  refine r_iload_n E (q := 21) 2 dX2_apply_20 rfl rfl rfl ?_
  refine r_tabIn E 16 hr 273 dX2_apply_21 (by decide) (by rfl) (by decide) ?_
  refine r_aload_n E (q := 274) 0 dX2_apply_273 rfl rfl rfl ?_
  refine r_iload_n E (q := 275) 1 dX2_apply_274 rfl rfl rfl ?_
  refine r_aload_n E (q := 276) 0 dX2_apply_275 rfl rfl rfl ?_
  refine r_iload_n E (q := 277) 1 dX2_apply_276 rfl rfl rfl ?_
  refine r_aload_n E (q := 278) 0 dX2_apply_277 rfl rfl rfl ?_
  refine r_get E (q := 281) fX2_13 27 wc_27 rfl dX2_apply_278 rfl ?_
  refine r_get E (q := 284) fX2_26 12 wc_12 rfl dX2_apply_281 rfl ?_
  refine r_iload_n E (q := 285) 3 dX2_apply_284 rfl rfl rfl ?_
  refine r_iald E (q := 286) 14 wc_14 o2 dX2_apply_285 rfl ?_
  refine rVi E (q := 289) cvX2_83 T.rr 27 wc_27 rfl [.int x, .int (G 14 (ix (G 14 (ix x))))] (c_X2_addLike x (G 14 (ix (G 14 (ix x)))) o1 o3 o4 o5) (by omega) rfl rfl (Nat.le_of_ble_eq_true rfl) ⟨Nat.zero_le _, Nat.zero_le _⟩ dX2_apply_286 rfl ?_
  refine r_nGC (fun G1 eG1 => ?_)
  refine r_aload_n E (q := 290) 0 dX2_apply_289 rfl rfl rfl ?_
  refine r_iload_n E (q := 291) 1 dX2_apply_290 rfl rfl rfl ?_
  refine r_aload_n E (q := 292) 0 dX2_apply_291 rfl rfl rfl ?_
  refine r_get E (q := 295) fX2_13 27 wc_27 rfl dX2_apply_292 rfl ?_
  refine r_get E (q := 298) fX2_64 12 wc_12 rfl dX2_apply_295 rfl ?_
  refine r_iload_n E (q := 299) 3 dX2_apply_298 rfl rfl rfl ?_
  refine r_iald E (q := 300) 15 wc_15 (o6 G1 eG1) dX2_apply_299 rfl ?_
  refine rVi E (q := 303) cvX2_83 T.rr 27 wc_27 rfl [.int x, .int (G1 15 (ix (G 14 (ix x))))] (c_X2_addLike x (G1 15 (ix (G 14 (ix x)))) (o7 G1 eG1) (o8 G1 eG1) (o9 G1 eG1) (o10 G1 eG1)) (by omega) rfl rfl (Nat.le_of_ble_eq_true rfl) ⟨Nat.zero_le _, Nat.zero_le _⟩ dX2_apply_300 rfl ?_
  refine r_nGC (fun G2 eG2 => ?_)
  refine rVv E (q := 306) cvX2_104 T.rr 27 wc_27 rfl [.int x, .int (fX2_addLike G (upd V 9 ((V 9) + 1)) x (G 14 (ix (G 14 (ix x))))), .int (fX2_addLike G1 (fX2_addLike_V G (upd V 9 ((V 9) + 1)) x (G 14 (ix (G 14 (ix x))))) x (G1 15 (ix (G 14 (ix x)))))] (c_X2_workAbove x (fX2_addLike G (upd V 9 ((V 9) + 1)) x (G 14 (ix (G 14 (ix x))))) (fX2_addLike G1 (fX2_addLike_V G (upd V 9 ((V 9) + 1)) x (G 14 (ix (G 14 (ix x))))) x (G1 15 (ix (G 14 (ix x))))) (o11 G1 G2 eG1 eG2) (o12 G1 G2 eG1 eG2) (o13 G1 G2 eG1 eG2) (o14 G1 G2 eG1 eG2) (o15 G1 G2 eG1 eG2)) (by omega) rfl rfl (Nat.le_of_ble_eq_true rfl) ⟨Nat.zero_le _, Nat.zero_le _⟩ dX2_apply_303 rfl ?_
  refine r_nGC (fun G3 eG3 => ?_)
  refine r_goto E 338 dX2_apply_306 (by decide) ?_
  exact r_vret E T dX2_apply_338 (k1 G1 G2 G3 eG1 eG2 eG3)
set_option maxRecDepth 100000 in
set_option maxHeartbeats 800000 in
theorem ap_17 {z : Zt} (E : EN z cX2_apply RX2) {w0 : va_W} {P : Option Value → va_W → Prop} {lvl : Nat} (T : RT z none lvl w0 P 0 0) (hz : zn z = 4) {ad : Nat → Nat} {G : Nat → Nat → Int32} {V : Nat → Int32} {n : Nat} (hlv : 6 ≤ lvl) (x rule : Int32) (hr : rule = 17) 
    (o1 : vp_in x 60) 
    (o2 : vp_in (G 14 (ix x)) 60) 
    (o3 : vp_in ((upd V 9 ((V 9) + 1)) 1) 60) 
    (o4 : (¬ G 13 (ix x) = 0 → vp_in (G 14 (ix (G 14 (ix x)))) 60)) 
    (o5 : (G 13 (ix x) = 1 ∨ G 13 (ix x) = 2 → vp_in (G 17 (ix x)) 40)) 
    (o6 : ∀ (G1 : Nat → Nat → Int32), G1 = fX2_addLike_G G (upd V 9 ((V 9) + 1)) x (G 14 (ix (G 14 (ix x)))) → vp_in (G 14 (ix x)) 60) 
    (o7 : ∀ (G1 : Nat → Nat → Int32), G1 = fX2_addLike_G G (upd V 9 ((V 9) + 1)) x (G 14 (ix (G 14 (ix x)))) → vp_in x 60) 
    (o8 : ∀ (G1 : Nat → Nat → Int32), G1 = fX2_addLike_G G (upd V 9 ((V 9) + 1)) x (G 14 (ix (G 14 (ix x)))) → (¬ G1 13 (ix (G 14 (ix x))) = 0 → vp_in (fX2_addLike G (upd V 9 ((V 9) + 1)) x (G 14 (ix (G 14 (ix x))))) 60)) 
    (o9 : ∀ (G1 : Nat → Nat → Int32), G1 = fX2_addLike_G G (upd V 9 ((V 9) + 1)) x (G 14 (ix (G 14 (ix x)))) → (G1 13 (ix (G 14 (ix x))) = 4 ∨ G1 13 (ix (G 14 (ix x))) = 5 → vp_in (G1 15 (ix (G 14 (ix x)))) 60)) 
    (o10 : ∀ (G1 : Nat → Nat → Int32), G1 = fX2_addLike_G G (upd V 9 ((V 9) + 1)) x (G 14 (ix (G 14 (ix x)))) → (G1 13 (ix (G 14 (ix x))) = 1 ∨ G1 13 (ix (G 14 (ix x))) = 2 → vp_in (G1 17 (ix (G 14 (ix x)))) 40))
    (k1 : ∀ (G1 G2 : Nat → Nat → Int32), G1 = fX2_addLike_G G (upd V 9 ((V 9) + 1)) x (G 14 (ix (G 14 (ix x)))) → G2 = fX2_exchange_G G1 x (G 14 (ix x)) (fX2_addLike G (upd V 9 ((V 9) + 1)) x (G 14 (ix (G 14 (ix x))))) (G1 15 (ix (G 14 (ix x)))) → P none (WC (zk z) ad G2 (fX2_addLike_V G (upd V 9 ((V 9) + 1)) x (G 14 (ix (G 14 (ix x))))) n)) :
    WW z 0 0 (WC (zk z) ad G V n) 0 [(0, .ref (ad 27)), (1, .int x), (2, .int rule)] [] := by
  refine r_aload_n E (q := 1) 0 dX2_apply_0 rfl rfl rfl ?_
  refine r_get E (q := 4) fX2_13 27 wc_27 rfl dX2_apply_1 rfl ?_
  refine r_get E (q := 7) fX2_26 12 wc_12 rfl dX2_apply_4 rfl ?_
  refine r_iload_n E (q := 8) 1 dX2_apply_7 rfl rfl rfl ?_
  refine r_iald E (q := 9) 14 wc_14 o1 dX2_apply_8 rfl ?_
  refine r_istore_n E (q := 10) (lv' := [(0, .ref (ad 27)), (1, .int x), (2, .int rule), (3, .int (G 14 (ix x)))]) [1, 2, 3, 0] dX2_apply_9 rfl (by rw [hz]; decide) rfl rfl ?_
  refine r_aload_n E (q := 11) 0 dX2_apply_10 rfl rfl rfl ?_
  refine r_dup E (q := 12) dX2_apply_11 rfl rfl ?_
  refine r_get E (q := 15) fX2_79 27 wc_27 rfl dX2_apply_12 rfl ?_
  refine r_iconst E (q := 16) (v := 1) dX2_apply_15 (by decide) rfl ?_
  refine r_iadd E (q := 17) dX2_apply_16 rfl ?_
  refine r_put E (q := 20) pX2_79 rfl 27 wc_27 rfl rfl (Nat.le_of_ble_eq_true rfl) wcv_9 dX2_apply_17 rfl ?_
  refine r_iload_n E (q := 21) 2 dX2_apply_20 rfl rfl rfl ?_
  refine r_tabOut E 309 dX2_apply_21 (by rw [hr]; decide) (by decide) ?_
  refine r_aload_n E (q := 310) 0 dX2_apply_309 rfl rfl rfl ?_
  refine r_iload_n E (q := 311) 1 dX2_apply_310 rfl rfl rfl ?_
  refine r_iload_n E (q := 312) 3 dX2_apply_311 rfl rfl rfl ?_
  refine r_aload_n E (q := 313) 0 dX2_apply_312 rfl rfl rfl ?_
  refine r_iload_n E (q := 314) 1 dX2_apply_313 rfl rfl rfl ?_
  refine r_aload_n E (q := 315) 0 dX2_apply_314 rfl rfl rfl ?_
  refine r_get E (q := 318) fX2_13 27 wc_27 rfl dX2_apply_315 rfl ?_
  refine r_get E (q := 321) fX2_26 12 wc_12 rfl dX2_apply_318 rfl ?_
  refine r_iload_n E (q := 322) 3 dX2_apply_321 rfl rfl rfl ?_
  refine r_iald E (q := 323) 14 wc_14 o2 dX2_apply_322 rfl ?_
  refine rVi E (q := 326) cvX2_83 T.rr 27 wc_27 rfl [.int x, .int (G 14 (ix (G 14 (ix x))))] (c_X2_addLike x (G 14 (ix (G 14 (ix x)))) o1 o3 o4 o5) (by omega) rfl rfl (Nat.le_of_ble_eq_true rfl) ⟨Nat.zero_le _, Nat.zero_le _⟩ dX2_apply_323 rfl ?_
  refine r_nGC (fun G1 eG1 => ?_)
  refine r_aload_n E (q := 327) 0 dX2_apply_326 rfl rfl rfl ?_
  refine r_get E (q := 330) fX2_13 27 wc_27 rfl dX2_apply_327 rfl ?_
  refine r_get E (q := 333) fX2_64 12 wc_12 rfl dX2_apply_330 rfl ?_
  refine r_iload_n E (q := 334) 3 dX2_apply_333 rfl rfl rfl ?_
  refine r_iald E (q := 335) 15 wc_15 (o6 G1 eG1) dX2_apply_334 rfl ?_
  refine rVv E (q := 338) cvX2_87 T.rr 27 wc_27 rfl [.int x, .int (G 14 (ix x)), .int (fX2_addLike G (upd V 9 ((V 9) + 1)) x (G 14 (ix (G 14 (ix x))))), .int (G1 15 (ix (G 14 (ix x))))] (c_X2_exchange x (G 14 (ix x)) (fX2_addLike G (upd V 9 ((V 9) + 1)) x (G 14 (ix (G 14 (ix x))))) (G1 15 (ix (G 14 (ix x)))) (o7 G1 eG1) (o6 G1 eG1) (o8 G1 eG1) (o9 G1 eG1) (o10 G1 eG1)) (by omega) rfl rfl (Nat.le_of_ble_eq_true rfl) ⟨Nat.zero_le _, Nat.zero_le _⟩ dX2_apply_335 rfl ?_
  refine r_nGC (fun G2 eG2 => ?_)
  exact r_vret E T dX2_apply_338 (k1 G1 G2 eG1 eG2)
