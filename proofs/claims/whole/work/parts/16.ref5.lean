set_option maxRecDepth 100000 in
set_option maxHeartbeats 800000 in
theorem s_work {z : Zt} (E : EN z cX6_work RX6) {w0 : va_W} {P : Option Value → va_W → Prop} {lvl : Nat} (T : RT z none lvl w0 P 0 0) (hz : zn z = 3) {ad : Nat → Nat} {G : Nat → Nat → Int32} {V : Nat → Int32} (hlv : 3 ≤ lvl) (f at9 : Int32) (h3 : ¬ V 3 ≤ 0) (h5 : V 5 = 0) (ht : vp_in (V 3 - 1) 40) (hf : vp_in (G 17 (ix (V 3 - 1))) 40) (hc : G 4 (ix (G 17 (ix (V 3 - 1)))) = 0 → vp_in (at9 + G 5 (ix (G 17 (ix (V 3 - 1))))) 36000) (hh : ¬ G 4 (ix (G 17 (ix (V 3 - 1)))) = 0 → ¬ G 4 (ix (G 17 (ix (V 3 - 1)))) = 1 → vp_in (V 3) 40) (k_10 : WW z 0 0 (WM (zk z) ad (fX6_goesOn_G G V at9) (fX6_goesOn_V G V at9)) 10 [(0, .ref (ad 0)), (1, .int f), (2, .int at9)] []) :
    WW z 0 0 (WM (zk z) ad G V) 10 [(0, .ref (ad 0)), (1, .int f), (2, .int at9)] [] := by
  refine r_aload_n E (q := 11) 0 dX6_work_10 rfl rfl rfl ?_
  refine r_get E (q := 14) fX6_164 0 wm_0 rfl dX6_work_11 rfl ?_
  refine r_if_le E (q := 17) 32 dX6_work_14 (by decide) rfl (fun c1 => absurd c1 (h3)) (fun c1 => ?_)
  refine r_aload_n E (q := 18) 0 dX6_work_17 rfl rfl rfl ?_
  refine r_get E (q := 21) fX6_190 0 wm_0 rfl dX6_work_18 rfl ?_
  refine r_if_ne E (q := 24) 32 dX6_work_21 (by decide) rfl (fun c2 => absurd c2 (fun g => g h5)) (fun c2 => ?_)
  refine r_aload_n E (q := 25) 0 dX6_work_24 rfl rfl rfl ?_
  refine r_iload_n E (q := 26) 2 dX6_work_25 rfl rfl rfl ?_
  refine rVv E (q := 29) cvX6_193 T.rr 0 wm_0 rfl [.int at9] (c_X6_goesOn at9 (by assumption) (by assumption) (by assumption) (by assumption)) (by omega) rfl rfl (Nat.le_of_ble_eq_true rfl) ⟨Nat.zero_le _, Nat.zero_le _⟩ dX6_work_26 rfl ?_
  refine r_goto E 10 dX6_work_29 (by decide) ?_
  exact k_10
set_option maxRecDepth 100000 in
set_option maxHeartbeats 800000 in
theorem x_work {z : Zt} (E : EN z cX6_work RX6) {w0 : va_W} {P : Option Value → va_W → Prop} {lvl : Nat} (T : RT z none lvl w0 P 0 0) (hz : zn z = 3) {ad : Nat → Nat} {G : Nat → Nat → Int32} {V : Nat → Int32} (f at9 : Int32) (hx : V 3 ≤ 0 ∨ ¬ V 5 = 0) (hP : P none (WM (zk z) ad G V)) :
    WW z 0 0 (WM (zk z) ad G V) 10 [(0, .ref (ad 0)), (1, .int f), (2, .int at9)] [] := by
  refine r_aload_n E (q := 11) 0 dX6_work_10 rfl rfl rfl ?_
  refine r_get E (q := 14) fX6_164 0 wm_0 rfl dX6_work_11 rfl ?_
  refine r_if_le E (q := 17) 32 dX6_work_14 (by decide) rfl (fun c1 => ?_) (fun c1 => ?_)
  · exact r_vret E T dX6_work_32 hP
  · refine r_aload_n E (q := 18) 0 dX6_work_17 rfl rfl rfl ?_
    refine r_get E (q := 21) fX6_190 0 wm_0 rfl dX6_work_18 rfl ?_
    refine r_if_ne E (q := 24) 32 dX6_work_21 (by decide) rfl (fun c2 => ?_) (fun c2 => absurd c2 (fun g => hx.elim c1 (fun q => q g)))
    exact r_vret E T dX6_work_32 hP
