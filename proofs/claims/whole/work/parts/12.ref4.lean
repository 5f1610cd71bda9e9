theorem off_in {x : Int32} {N m : Nat} (h : ∃ a : Nat, x = nI a ∧ a + 6 ≤ N ∧ N < 2 ^ 31) (hm : m < 6) : vp_in (x + nI m) N := by
  obtain ⟨a, rfl, h1, h2⟩ := h
  rw [nI_add]; exact vp_in_nI (by omega) h2
def fX6_copy (G : Nat → Nat → Int32) (from9 : Int32) (to9 : Int32) : Int32 := to9
def fX6_copy_G (G : Nat → Nat → Int32) (from9 : Int32) (to9 : Int32) : Nat → Nat → Int32 := ug (ug (ug (ug (ug (ug G 20 (ix (to9 + 0)) (G 20 (ix (from9 + 0)))) 20 (ix (to9 + 1)) ((ug G 20 (ix (to9 + 0)) (G 20 (ix (from9 + 0)))) 20 (ix (from9 + 1)))) 20 (ix (to9 + 2)) ((ug (ug G 20 (ix (to9 + 0)) (G 20 (ix (from9 + 0)))) 20 (ix (to9 + 1)) ((ug G 20 (ix (to9 + 0)) (G 20 (ix (from9 + 0)))) 20 (ix (from9 + 1)))) 20 (ix (from9 + 2)))) 20 (ix (to9 + 3)) ((ug (ug (ug G 20 (ix (to9 + 0)) (G 20 (ix (from9 + 0)))) 20 (ix (to9 + 1)) ((ug G 20 (ix (to9 + 0)) (G 20 (ix (from9 + 0)))) 20 (ix (from9 + 1)))) 20 (ix (to9 + 2)) ((ug (ug G 20 (ix (to9 + 0)) (G 20 (ix (from9 + 0)))) 20 (ix (to9 + 1)) ((ug G 20 (ix (to9 + 0)) (G 20 (ix (from9 + 0)))) 20 (ix (from9 + 1)))) 20 (ix (from9 + 2)))) 20 (ix (from9 + 3)))) 20 (ix (to9 + 4)) ((ug (ug (ug (ug G 20 (ix (to9 + 0)) (G 20 (ix (from9 + 0)))) 20 (ix (to9 + 1)) ((ug G 20 (ix (to9 + 0)) (G 20 (ix (from9 + 0)))) 20 (ix (from9 + 1)))) 20 (ix (to9 + 2)) ((ug (ug G 20 (ix (to9 + 0)) (G 20 (ix (from9 + 0)))) 20 (ix (to9 + 1)) ((ug G 20 (ix (to9 + 0)) (G 20 (ix (from9 + 0)))) 20 (ix (from9 + 1)))) 20 (ix (from9 + 2)))) 20 (ix (to9 + 3)) ((ug (ug (ug G 20 (ix (to9 + 0)) (G 20 (ix (from9 + 0)))) 20 (ix (to9 + 1)) ((ug G 20 (ix (to9 + 0)) (G 20 (ix (from9 + 0)))) 20 (ix (from9 + 1)))) 20 (ix (to9 + 2)) ((ug (ug G 20 (ix (to9 + 0)) (G 20 (ix (from9 + 0)))) 20 (ix (to9 + 1)) ((ug G 20 (ix (to9 + 0)) (G 20 (ix (from9 + 0)))) 20 (ix (from9 + 1)))) 20 (ix (from9 + 2)))) 20 (ix (from9 + 3)))) 20 (ix (from9 + 4)))) 20 (ix (to9 + 5)) ((ug (ug (ug (ug (ug G 20 (ix (to9 + 0)) (G 20 (ix (from9 + 0)))) 20 (ix (to9 + 1)) ((ug G 20 (ix (to9 + 0)) (G 20 (ix (from9 + 0)))) 20 (ix (from9 + 1)))) 20 (ix (to9 + 2)) ((ug (ug G 20 (ix (to9 + 0)) (G 20 (ix (from9 + 0)))) 20 (ix (to9 + 1)) ((ug G 20 (ix (to9 + 0)) (G 20 (ix (from9 + 0)))) 20 (ix (from9 + 1)))) 20 (ix (from9 + 2)))) 20 (ix (to9 + 3)) ((ug (ug (ug G 20 (ix (to9 + 0)) (G 20 (ix (from9 + 0)))) 20 (ix (to9 + 1)) ((ug G 20 (ix (to9 + 0)) (G 20 (ix (from9 + 0)))) 20 (ix (from9 + 1)))) 20 (ix (to9 + 2)) ((ug (ug G 20 (ix (to9 + 0)) (G 20 (ix (from9 + 0)))) 20 (ix (to9 + 1)) ((ug G 20 (ix (to9 + 0)) (G 20 (ix (from9 + 0)))) 20 (ix (from9 + 1)))) 20 (ix (from9 + 2)))) 20 (ix (from9 + 3)))) 20 (ix (to9 + 4)) ((ug (ug (ug (ug G 20 (ix (to9 + 0)) (G 20 (ix (from9 + 0)))) 20 (ix (to9 + 1)) ((ug G 20 (ix (to9 + 0)) (G 20 (ix (from9 + 0)))) 20 (ix (from9 + 1)))) 20 (ix (to9 + 2)) ((ug (ug G 20 (ix (to9 + 0)) (G 20 (ix (from9 + 0)))) 20 (ix (to9 + 1)) ((ug G 20 (ix (to9 + 0)) (G 20 (ix (from9 + 0)))) 20 (ix (from9 + 1)))) 20 (ix (from9 + 2)))) 20 (ix (to9 + 3)) ((ug (ug (ug G 20 (ix (to9 + 0)) (G 20 (ix (from9 + 0)))) 20 (ix (to9 + 1)) ((ug G 20 (ix (to9 + 0)) (G 20 (ix (from9 + 0)))) 20 (ix (from9 + 1)))) 20 (ix (to9 + 2)) ((ug (ug G 20 (ix (to9 + 0)) (G 20 (ix (from9 + 0)))) 20 (ix (to9 + 1)) ((ug G 20 (ix (to9 + 0)) (G 20 (ix (from9 + 0)))) 20 (ix (from9 + 1)))) 20 (ix (from9 + 2)))) 20 (ix (from9 + 3)))) 20 (ix (from9 + 4)))) 20 (ix (from9 + 5)))
set_option maxRecDepth 100000 in
set_option maxHeartbeats 800000 in
theorem c_X6_copy {l : Launch} {k : Kt} {ad : Nat → Nat} {G : Nat → Nat → Int32} {V : Nat → Int32} (from9 : Int32) (to9 : Int32) (h_from9 : ∃ a : Nat, from9 = nI a ∧ a + 6 ≤ 36000 ∧ 36000 < 2 ^ 31) (h_to9 : ∃ a : Nat, to9 = nI a ∧ a + 6 ≤ 36000 ∧ 36000 < 2 ^ 31) : CT l k yX6_copy cX6_copy 4 (some .int) 0 [.ref (ad 0), .int from9, .int to9] (WM k ad G V) (eqI (fX6_copy G from9 to9) (WM k ad (fX6_copy_G G from9 to9) V)) 0 0 := by
  refine ct_of (own := RX6) (lv0 := [(0, .ref (ad 0)), (1, .int from9), (2, .int to9)]) (by decide) rfl (Nat.le_of_ble_eq_true rfl) rfl ?_
  rintro z rfl rfl hz - E T
  refine r_iconst E (q := 1) (v := 0) dX6_copy_0 (by decide) rfl ?_
  refine r_istore_n E (q := 2) (lv' := [(0, .ref (ad 0)), (1, .int from9), (2, .int to9), (3, .int 0)]) [1, 2, 3, 0] dX6_copy_1 rfl (by rw [hz]; decide) rfl rfl ?_
  refine r_iload_n E (q := 3) 3 dX6_copy_2 rfl rfl rfl ?_
  refine r_bipush E (q := 5) (v := 6) dX6_copy_3 (by decide) rfl ?_
  refine r_icmp_ge E (q := 8) 30 dX6_copy_5 (by decide) rfl (fun c1 => absurd c1 (by decide)) (fun _ => ?_)
  refine r_aload_n E (q := 9) 0 dX6_copy_8 rfl rfl rfl ?_
  refine r_get E (q := 12) fX6_69 0 wm_0 rfl dX6_copy_9 rfl ?_
  refine r_iload_n E (q := 13) 2 dX6_copy_12 rfl rfl rfl ?_
  refine r_iload_n E (q := 14) 3 dX6_copy_13 rfl rfl rfl ?_
  refine r_iadd E (q := 15) dX6_copy_14 rfl ?_
  refine r_aload_n E (q := 16) 0 dX6_copy_15 rfl rfl rfl ?_
  refine r_get E (q := 19) fX6_69 0 wm_0 rfl dX6_copy_16 rfl ?_
  refine r_iload_n E (q := 20) 1 dX6_copy_19 rfl rfl rfl ?_
  refine r_iload_n E (q := 21) 3 dX6_copy_20 rfl rfl rfl ?_
  refine r_iadd E (q := 22) dX6_copy_21 rfl ?_
  refine r_iald E (q := 23) 20 wm_20 (off_in (m := 0) h_from9 (by omega)) dX6_copy_22 rfl ?_
  refine r_iast E (q := 24) 20 wm_20 (off_in (m := 0) h_to9 (by omega)) wmu_20 dX6_copy_23 rfl ?_
  refine r_iinc E (q := 27) (v := 1) (lv' := [(0, .ref (ad 0)), (1, .int from9), (2, .int to9), (3, .int 1)]) 3 [1, 2, 3, 0] dX6_copy_24 rfl (by rfl) (by rw [hz]; decide) rfl rfl ?_
  refine r_goto E 2 dX6_copy_27 (by decide) ?_
  refine r_iload_n E (q := 3) 3 dX6_copy_2 rfl rfl rfl ?_
  refine r_bipush E (q := 5) (v := 6) dX6_copy_3 (by decide) rfl ?_
  refine r_icmp_ge E (q := 8) 30 dX6_copy_5 (by decide) rfl (fun c2 => absurd c2 (by decide)) (fun _ => ?_)
  refine r_aload_n E (q := 9) 0 dX6_copy_8 rfl rfl rfl ?_
  refine r_get E (q := 12) fX6_69 0 wm_0 rfl dX6_copy_9 rfl ?_
  refine r_iload_n E (q := 13) 2 dX6_copy_12 rfl rfl rfl ?_
  refine r_iload_n E (q := 14) 3 dX6_copy_13 rfl rfl rfl ?_
  refine r_iadd E (q := 15) dX6_copy_14 rfl ?_
  refine r_aload_n E (q := 16) 0 dX6_copy_15 rfl rfl rfl ?_
  refine r_get E (q := 19) fX6_69 0 wm_0 rfl dX6_copy_16 rfl ?_
  refine r_iload_n E (q := 20) 1 dX6_copy_19 rfl rfl rfl ?_
  refine r_iload_n E (q := 21) 3 dX6_copy_20 rfl rfl rfl ?_
  refine r_iadd E (q := 22) dX6_copy_21 rfl ?_
  refine r_iald E (q := 23) 20 wm_20 (off_in (m := 1) h_from9 (by omega)) dX6_copy_22 rfl ?_
  refine r_iast E (q := 24) 20 wm_20 (off_in (m := 1) h_to9 (by omega)) wmu_20 dX6_copy_23 rfl ?_
  refine r_iinc E (q := 27) (v := 2) (lv' := [(0, .ref (ad 0)), (1, .int from9), (2, .int to9), (3, .int 2)]) 3 [1, 2, 3, 0] dX6_copy_24 rfl (by rfl) (by rw [hz]; decide) rfl rfl ?_
  refine r_goto E 2 dX6_copy_27 (by decide) ?_
  refine r_iload_n E (q := 3) 3 dX6_copy_2 rfl rfl rfl ?_
  refine r_bipush E (q := 5) (v := 6) dX6_copy_3 (by decide) rfl ?_
  refine r_icmp_ge E (q := 8) 30 dX6_copy_5 (by decide) rfl (fun c3 => absurd c3 (by decide)) (fun _ => ?_)
  refine r_aload_n E (q := 9) 0 dX6_copy_8 rfl rfl rfl ?_
  refine r_get E (q := 12) fX6_69 0 wm_0 rfl dX6_copy_9 rfl ?_
  refine r_iload_n E (q := 13) 2 dX6_copy_12 rfl rfl rfl ?_
  refine r_iload_n E (q := 14) 3 dX6_copy_13 rfl rfl rfl ?_
  refine r_iadd E (q := 15) dX6_copy_14 rfl ?_
  refine r_aload_n E (q := 16) 0 dX6_copy_15 rfl rfl rfl ?_
  refine r_get E (q := 19) fX6_69 0 wm_0 rfl dX6_copy_16 rfl ?_
  refine r_iload_n E (q := 20) 1 dX6_copy_19 rfl rfl rfl ?_
  refine r_iload_n E (q := 21) 3 dX6_copy_20 rfl rfl rfl ?_
  refine r_iadd E (q := 22) dX6_copy_21 rfl ?_
  refine r_iald E (q := 23) 20 wm_20 (off_in (m := 2) h_from9 (by omega)) dX6_copy_22 rfl ?_
  refine r_iast E (q := 24) 20 wm_20 (off_in (m := 2) h_to9 (by omega)) wmu_20 dX6_copy_23 rfl ?_
  refine r_iinc E (q := 27) (v := 3) (lv' := [(0, .ref (ad 0)), (1, .int from9), (2, .int to9), (3, .int 3)]) 3 [1, 2, 3, 0] dX6_copy_24 rfl (by rfl) (by rw [hz]; decide) rfl rfl ?_
  refine r_goto E 2 dX6_copy_27 (by decide) ?_
  refine r_iload_n E (q := 3) 3 dX6_copy_2 rfl rfl rfl ?_
  refine r_bipush E (q := 5) (v := 6) dX6_copy_3 (by decide) rfl ?_
  refine r_icmp_ge E (q := 8) 30 dX6_copy_5 (by decide) rfl (fun c4 => absurd c4 (by decide)) (fun _ => ?_)
  refine r_aload_n E (q := 9) 0 dX6_copy_8 rfl rfl rfl ?_
  refine r_get E (q := 12) fX6_69 0 wm_0 rfl dX6_copy_9 rfl ?_
  refine r_iload_n E (q := 13) 2 dX6_copy_12 rfl rfl rfl ?_
  refine r_iload_n E (q := 14) 3 dX6_copy_13 rfl rfl rfl ?_
  refine r_iadd E (q := 15) dX6_copy_14 rfl ?_
  refine r_aload_n E (q := 16) 0 dX6_copy_15 rfl rfl rfl ?_
  refine r_get E (q := 19) fX6_69 0 wm_0 rfl dX6_copy_16 rfl ?_
  refine r_iload_n E (q := 20) 1 dX6_copy_19 rfl rfl rfl ?_
  refine r_iload_n E (q := 21) 3 dX6_copy_20 rfl rfl rfl ?_
  refine r_iadd E (q := 22) dX6_copy_21 rfl ?_
  refine r_iald E (q := 23) 20 wm_20 (off_in (m := 3) h_from9 (by omega)) dX6_copy_22 rfl ?_
  refine r_iast E (q := 24) 20 wm_20 (off_in (m := 3) h_to9 (by omega)) wmu_20 dX6_copy_23 rfl ?_
  refine r_iinc E (q := 27) (v := 4) (lv' := [(0, .ref (ad 0)), (1, .int from9), (2, .int to9), (3, .int 4)]) 3 [1, 2, 3, 0] dX6_copy_24 rfl (by rfl) (by rw [hz]; decide) rfl rfl ?_
  refine r_goto E 2 dX6_copy_27 (by decide) ?_
  refine r_iload_n E (q := 3) 3 dX6_copy_2 rfl rfl rfl ?_
  refine r_bipush E (q := 5) (v := 6) dX6_copy_3 (by decide) rfl ?_
  refine r_icmp_ge E (q := 8) 30 dX6_copy_5 (by decide) rfl (fun c5 => absurd c5 (by decide)) (fun _ => ?_)
  refine r_aload_n E (q := 9) 0 dX6_copy_8 rfl rfl rfl ?_
  refine r_get E (q := 12) fX6_69 0 wm_0 rfl dX6_copy_9 rfl ?_
  refine r_iload_n E (q := 13) 2 dX6_copy_12 rfl rfl rfl ?_
  refine r_iload_n E (q := 14) 3 dX6_copy_13 rfl rfl rfl ?_
  refine r_iadd E (q := 15) dX6_copy_14 rfl ?_
  refine r_aload_n E (q := 16) 0 dX6_copy_15 rfl rfl rfl ?_
  refine r_get E (q := 19) fX6_69 0 wm_0 rfl dX6_copy_16 rfl ?_
  refine r_iload_n E (q := 20) 1 dX6_copy_19 rfl rfl rfl ?_
  refine r_iload_n E (q := 21) 3 dX6_copy_20 rfl rfl rfl ?_
  refine r_iadd E (q := 22) dX6_copy_21 rfl ?_
  refine r_iald E (q := 23) 20 wm_20 (off_in (m := 4) h_from9 (by omega)) dX6_copy_22 rfl ?_
  refine r_iast E (q := 24) 20 wm_20 (off_in (m := 4) h_to9 (by omega)) wmu_20 dX6_copy_23 rfl ?_
  refine r_iinc E (q := 27) (v := 5) (lv' := [(0, .ref (ad 0)), (1, .int from9), (2, .int to9), (3, .int 5)]) 3 [1, 2, 3, 0] dX6_copy_24 rfl (by rfl) (by rw [hz]; decide) rfl rfl ?_
  refine r_goto E 2 dX6_copy_27 (by decide) ?_
  refine r_iload_n E (q := 3) 3 dX6_copy_2 rfl rfl rfl ?_
  refine r_bipush E (q := 5) (v := 6) dX6_copy_3 (by decide) rfl ?_
  refine r_icmp_ge E (q := 8) 30 dX6_copy_5 (by decide) rfl (fun c6 => absurd c6 (by decide)) (fun _ => ?_)
  refine r_aload_n E (q := 9) 0 dX6_copy_8 rfl rfl rfl ?_
  refine r_get E (q := 12) fX6_69 0 wm_0 rfl dX6_copy_9 rfl ?_
  refine r_iload_n E (q := 13) 2 dX6_copy_12 rfl rfl rfl ?_
  refine r_iload_n E (q := 14) 3 dX6_copy_13 rfl rfl rfl ?_
  refine r_iadd E (q := 15) dX6_copy_14 rfl ?_
  refine r_aload_n E (q := 16) 0 dX6_copy_15 rfl rfl rfl ?_
  refine r_get E (q := 19) fX6_69 0 wm_0 rfl dX6_copy_16 rfl ?_
  refine r_iload_n E (q := 20) 1 dX6_copy_19 rfl rfl rfl ?_
  refine r_iload_n E (q := 21) 3 dX6_copy_20 rfl rfl rfl ?_
  refine r_iadd E (q := 22) dX6_copy_21 rfl ?_
  refine r_iald E (q := 23) 20 wm_20 (off_in (m := 5) h_from9 (by omega)) dX6_copy_22 rfl ?_
  refine r_iast E (q := 24) 20 wm_20 (off_in (m := 5) h_to9 (by omega)) wmu_20 dX6_copy_23 rfl ?_
  refine r_iinc E (q := 27) (v := 6) (lv' := [(0, .ref (ad 0)), (1, .int from9), (2, .int to9), (3, .int 6)]) 3 [1, 2, 3, 0] dX6_copy_24 rfl (by rfl) (by rw [hz]; decide) rfl rfl ?_
  refine r_goto E 2 dX6_copy_27 (by decide) ?_
  refine r_iload_n E (q := 3) 3 dX6_copy_2 rfl rfl rfl ?_
  refine r_bipush E (q := 5) (v := 6) dX6_copy_3 (by decide) rfl ?_
  refine r_icmp_ge E (q := 8) 30 dX6_copy_5 (by decide) rfl (fun _ => ?_) (fun c7 => absurd c7 (by decide))
  refine r_iload_n E (q := 31) 2 dX6_copy_30 rfl rfl rfl ?_
  exact r_iret E T dX6_copy_31 (eqI.mk (by unfold fX6_copy; exact rfl) (cgM (by unfold fX6_copy_G; exact rfl) rfl))
def fX6_ruleFor (G : Nat → Nat → Int32) (x : Int32) : Int32 := if fX6_stands G x 0 = 0 then (if fX6_stands G x 1 = 0 then (if fX6_stands G x 2 = 0 then (if fX6_stands G x 3 = 0 then (if fX6_stands G x 4 = 0 then (if fX6_stands G x 5 = 0 then (if fX6_stands G x 6 = 0 then (if fX6_stands G x 7 = 0 then (if fX6_stands G x 8 = 0 then (if fX6_stands G x 9 = 0 then (if fX6_stands G x 10 = 0 then (if fX6_stands G x 11 = 0 then (if fX6_stands G x 12 = 0 then (if fX6_stands G x 13 = 0 then (if fX6_stands G x 14 = 0 then (if fX6_stands G x 15 = 0 then (if fX6_stands G x 16 = 0 then (if fX6_stands G x 17 = 0 then (-1) else 17) else 16) else 15) else 14) else 13) else 12) else 11) else 10) else 9) else 8) else 7) else 6) else 5) else 4) else 3) else 2) else 1) else 0
set_option maxRecDepth 100000 in
set_option maxHeartbeats 800000 in
theorem c_X6_ruleFor {l : Launch} {k : Kt} {ad : Nat → Nat} {G : Nat → Nat → Int32} {V : Nat → Int32} (x : Int32) (hx : vp_in x 60) (hc : ¬ G 10 (ix x) = 0 → vp_in (G 11 (ix x)) 60) (hg : G 10 (ix x) = 1 ∨ G 10 (ix x) = 2 → vp_in (G 14 (ix x)) 40) (hf : ¬ G 10 (ix x) = 0 → G 10 (ix (G 11 (ix x))) = 1 ∨ G 10 (ix (G 11 (ix x))) = 2 → vp_in (G 14 (ix (G 11 (ix x)))) 40) (h5 : ¬ G 10 (ix x) = 0 → G 10 (ix (G 11 (ix x))) = 5 → vp_in (G 11 (ix (G 11 (ix x)))) 60 ∧ vp_in (G 12 (ix (G 11 (ix x)))) 60) : CT l k yX6_ruleFor cX6_ruleFor 3 (some .int) 2 [.ref (ad 0), .int x] (WM k ad G V) (eqI (fX6_ruleFor G x) (WM k ad G V)) 0 0 := by
  refine ct_of (own := RX6) (lv0 := [(0, .ref (ad 0)), (1, .int x)]) (by decide) rfl (Nat.le_of_ble_eq_true rfl) rfl ?_
  rintro z rfl rfl hz - E T
  refine r_iconst E (q := 1) (v := 0) dX6_ruleFor_0 (by decide) rfl ?_
  refine r_istore_n E (q := 2) (lv' := [(0, .ref (ad 0)), (1, .int x), (2, .int 0)]) [1, 2, 0] dX6_ruleFor_1 rfl (by rw [hz]; decide) rfl rfl ?_
  refine r_iload_n E (q := 3) 2 dX6_ruleFor_2 rfl rfl rfl ?_
  refine r_bipush E (q := 5) (v := 18) dX6_ruleFor_3 (by decide) rfl ?_
  refine r_icmp_ge E (q := 8) 25 dX6_ruleFor_5 (by decide) rfl (fun c1 => absurd c1 (by decide)) (fun _ => ?_)
  refine r_aload_n E (q := 9) 0 dX6_ruleFor_8 rfl rfl rfl ?_
  refine r_iload_n E (q := 10) 1 dX6_ruleFor_9 rfl rfl rfl ?_
  refine r_iload_n E (q := 11) 2 dX6_ruleFor_10 rfl rfl rfl ?_
  refine rVi E (q := 14) cvX6_246 T.rr 0 wm_0 rfl [.int x, .int 0] (c_X6_stands x 0 (by assumption) (by assumption) (by assumption) (by assumption) (by assumption)) (by decide) rfl rfl (Nat.le_of_ble_eq_true rfl) ⟨(Nat.le_of_ble_eq_true rfl), (Nat.le_of_ble_eq_true rfl)⟩ dX6_ruleFor_11 rfl ?_
  refine r_if_eq E (q := 17) 19 dX6_ruleFor_14 (by decide) rfl (fun c2 => ?_) (fun c2 => ?_)
  · refine r_iinc E (q := 22) (v := 1) (lv' := [(0, .ref (ad 0)), (1, .int x), (2, .int 1)]) 2 [1, 2, 0] dX6_ruleFor_19 rfl (by rfl) (by rw [hz]; decide) rfl rfl ?_
    refine r_goto E 2 dX6_ruleFor_22 (by decide) ?_
    refine r_iload_n E (q := 3) 2 dX6_ruleFor_2 rfl rfl rfl ?_
    refine r_bipush E (q := 5) (v := 18) dX6_ruleFor_3 (by decide) rfl ?_
    refine r_icmp_ge E (q := 8) 25 dX6_ruleFor_5 (by decide) rfl (fun c3 => absurd c3 (by decide)) (fun _ => ?_)
    refine r_aload_n E (q := 9) 0 dX6_ruleFor_8 rfl rfl rfl ?_
    refine r_iload_n E (q := 10) 1 dX6_ruleFor_9 rfl rfl rfl ?_
    refine r_iload_n E (q := 11) 2 dX6_ruleFor_10 rfl rfl rfl ?_
    refine rVi E (q := 14) cvX6_246 T.rr 0 wm_0 rfl [.int x, .int 1] (c_X6_stands x 1 (by assumption) (by assumption) (by assumption) (by assumption) (by assumption)) (by decide) rfl rfl (Nat.le_of_ble_eq_true rfl) ⟨(Nat.le_of_ble_eq_true rfl), (Nat.le_of_ble_eq_true rfl)⟩ dX6_ruleFor_11 rfl ?_
    refine r_if_eq E (q := 17) 19 dX6_ruleFor_14 (by decide) rfl (fun c4 => ?_) (fun c4 => ?_)
    · refine r_iinc E (q := 22) (v := 2) (lv' := [(0, .ref (ad 0)), (1, .int x), (2, .int 2)]) 2 [1, 2, 0] dX6_ruleFor_19 rfl (by rfl) (by rw [hz]; decide) rfl rfl ?_
      refine r_goto E 2 dX6_ruleFor_22 (by decide) ?_
      refine r_iload_n E (q := 3) 2 dX6_ruleFor_2 rfl rfl rfl ?_
      refine r_bipush E (q := 5) (v := 18) dX6_ruleFor_3 (by decide) rfl ?_
      refine r_icmp_ge E (q := 8) 25 dX6_ruleFor_5 (by decide) rfl (fun c5 => absurd c5 (by decide)) (fun _ => ?_)
      refine r_aload_n E (q := 9) 0 dX6_ruleFor_8 rfl rfl rfl ?_
      refine r_iload_n E (q := 10) 1 dX6_ruleFor_9 rfl rfl rfl ?_
      refine r_iload_n E (q := 11) 2 dX6_ruleFor_10 rfl rfl rfl ?_
      refine rVi E (q := 14) cvX6_246 T.rr 0 wm_0 rfl [.int x, .int 2] (c_X6_stands x 2 (by assumption) (by assumption) (by assumption) (by assumption) (by assumption)) (by decide) rfl rfl (Nat.le_of_ble_eq_true rfl) ⟨(Nat.le_of_ble_eq_true rfl), (Nat.le_of_ble_eq_true rfl)⟩ dX6_ruleFor_11 rfl ?_
      refine r_if_eq E (q := 17) 19 dX6_ruleFor_14 (by decide) rfl (fun c6 => ?_) (fun c6 => ?_)
      · refine r_iinc E (q := 22) (v := 3) (lv' := [(0, .ref (ad 0)), (1, .int x), (2, .int 3)]) 2 [1, 2, 0] dX6_ruleFor_19 rfl (by rfl) (by rw [hz]; decide) rfl rfl ?_
        refine r_goto E 2 dX6_ruleFor_22 (by decide) ?_
        refine r_iload_n E (q := 3) 2 dX6_ruleFor_2 rfl rfl rfl ?_
        refine r_bipush E (q := 5) (v := 18) dX6_ruleFor_3 (by decide) rfl ?_
        refine r_icmp_ge E (q := 8) 25 dX6_ruleFor_5 (by decide) rfl (fun c7 => absurd c7 (by decide)) (fun _ => ?_)
        refine r_aload_n E (q := 9) 0 dX6_ruleFor_8 rfl rfl rfl ?_
        refine r_iload_n E (q := 10) 1 dX6_ruleFor_9 rfl rfl rfl ?_
        refine r_iload_n E (q := 11) 2 dX6_ruleFor_10 rfl rfl rfl ?_
        refine rVi E (q := 14) cvX6_246 T.rr 0 wm_0 rfl [.int x, .int 3] (c_X6_stands x 3 (by assumption) (by assumption) (by assumption) (by assumption) (by assumption)) (by decide) rfl rfl (Nat.le_of_ble_eq_true rfl) ⟨(Nat.le_of_ble_eq_true rfl), (Nat.le_of_ble_eq_true rfl)⟩ dX6_ruleFor_11 rfl ?_
        refine r_if_eq E (q := 17) 19 dX6_ruleFor_14 (by decide) rfl (fun c8 => ?_) (fun c8 => ?_)
        · refine r_iinc E (q := 22) (v := 4) (lv' := [(0, .ref (ad 0)), (1, .int x), (2, .int 4)]) 2 [1, 2, 0] dX6_ruleFor_19 rfl (by rfl) (by rw [hz]; decide) rfl rfl ?_
          refine r_goto E 2 dX6_ruleFor_22 (by decide) ?_
          refine r_iload_n E (q := 3) 2 dX6_ruleFor_2 rfl rfl rfl ?_
          refine r_bipush E (q := 5) (v := 18) dX6_ruleFor_3 (by decide) rfl ?_
          refine r_icmp_ge E (q := 8) 25 dX6_ruleFor_5 (by decide) rfl (fun c9 => absurd c9 (by decide)) (fun _ => ?_)
          refine r_aload_n E (q := 9) 0 dX6_ruleFor_8 rfl rfl rfl ?_
          refine r_iload_n E (q := 10) 1 dX6_ruleFor_9 rfl rfl rfl ?_
          refine r_iload_n E (q := 11) 2 dX6_ruleFor_10 rfl rfl rfl ?_
          refine rVi E (q := 14) cvX6_246 T.rr 0 wm_0 rfl [.int x, .int 4] (c_X6_stands x 4 (by assumption) (by assumption) (by assumption) (by assumption) (by assumption)) (by decide) rfl rfl (Nat.le_of_ble_eq_true rfl) ⟨(Nat.le_of_ble_eq_true rfl), (Nat.le_of_ble_eq_true rfl)⟩ dX6_ruleFor_11 rfl ?_
          refine r_if_eq E (q := 17) 19 dX6_ruleFor_14 (by decide) rfl (fun c10 => ?_) (fun c10 => ?_)
          · refine r_iinc E (q := 22) (v := 5) (lv' := [(0, .ref (ad 0)), (1, .int x), (2, .int 5)]) 2 [1, 2, 0] dX6_ruleFor_19 rfl (by rfl) (by rw [hz]; decide) rfl rfl ?_
            refine r_goto E 2 dX6_ruleFor_22 (by decide) ?_
            refine r_iload_n E (q := 3) 2 dX6_ruleFor_2 rfl rfl rfl ?_
            refine r_bipush E (q := 5) (v := 18) dX6_ruleFor_3 (by decide) rfl ?_
            refine r_icmp_ge E (q := 8) 25 dX6_ruleFor_5 (by decide) rfl (fun c11 => absurd c11 (by decide)) (fun _ => ?_)
            refine r_aload_n E (q := 9) 0 dX6_ruleFor_8 rfl rfl rfl ?_
            refine r_iload_n E (q := 10) 1 dX6_ruleFor_9 rfl rfl rfl ?_
            refine r_iload_n E (q := 11) 2 dX6_ruleFor_10 rfl rfl rfl ?_
            refine rVi E (q := 14) cvX6_246 T.rr 0 wm_0 rfl [.int x, .int 5] (c_X6_stands x 5 (by assumption) (by assumption) (by assumption) (by assumption) (by assumption)) (by decide) rfl rfl (Nat.le_of_ble_eq_true rfl) ⟨(Nat.le_of_ble_eq_true rfl), (Nat.le_of_ble_eq_true rfl)⟩ dX6_ruleFor_11 rfl ?_
            refine r_if_eq E (q := 17) 19 dX6_ruleFor_14 (by decide) rfl (fun c12 => ?_) (fun c12 => ?_)
            · refine r_iinc E (q := 22) (v := 6) (lv' := [(0, .ref (ad 0)), (1, .int x), (2, .int 6)]) 2 [1, 2, 0] dX6_ruleFor_19 rfl (by rfl) (by rw [hz]; decide) rfl rfl ?_
              refine r_goto E 2 dX6_ruleFor_22 (by decide) ?_
              refine r_iload_n E (q := 3) 2 dX6_ruleFor_2 rfl rfl rfl ?_
              refine r_bipush E (q := 5) (v := 18) dX6_ruleFor_3 (by decide) rfl ?_
              refine r_icmp_ge E (q := 8) 25 dX6_ruleFor_5 (by decide) rfl (fun c13 => absurd c13 (by decide)) (fun _ => ?_)
              refine r_aload_n E (q := 9) 0 dX6_ruleFor_8 rfl rfl rfl ?_
              refine r_iload_n E (q := 10) 1 dX6_ruleFor_9 rfl rfl rfl ?_
              refine r_iload_n E (q := 11) 2 dX6_ruleFor_10 rfl rfl rfl ?_
              refine rVi E (q := 14) cvX6_246 T.rr 0 wm_0 rfl [.int x, .int 6] (c_X6_stands x 6 (by assumption) (by assumption) (by assumption) (by assumption) (by assumption)) (by decide) rfl rfl (Nat.le_of_ble_eq_true rfl) ⟨(Nat.le_of_ble_eq_true rfl), (Nat.le_of_ble_eq_true rfl)⟩ dX6_ruleFor_11 rfl ?_
              refine r_if_eq E (q := 17) 19 dX6_ruleFor_14 (by decide) rfl (fun c14 => ?_) (fun c14 => ?_)
              · refine r_iinc E (q := 22) (v := 7) (lv' := [(0, .ref (ad 0)), (1, .int x), (2, .int 7)]) 2 [1, 2, 0] dX6_ruleFor_19 rfl (by rfl) (by rw [hz]; decide) rfl rfl ?_
                refine r_goto E 2 dX6_ruleFor_22 (by decide) ?_
                refine r_iload_n E (q := 3) 2 dX6_ruleFor_2 rfl rfl rfl ?_
                refine r_bipush E (q := 5) (v := 18) dX6_ruleFor_3 (by decide) rfl ?_
                refine r_icmp_ge E (q := 8) 25 dX6_ruleFor_5 (by decide) rfl (fun c15 => absurd c15 (by decide)) (fun _ => ?_)
                refine r_aload_n E (q := 9) 0 dX6_ruleFor_8 rfl rfl rfl ?_
                refine r_iload_n E (q := 10) 1 dX6_ruleFor_9 rfl rfl rfl ?_
                refine r_iload_n E (q := 11) 2 dX6_ruleFor_10 rfl rfl rfl ?_
                refine rVi E (q := 14) cvX6_246 T.rr 0 wm_0 rfl [.int x, .int 7] (c_X6_stands x 7 (by assumption) (by assumption) (by assumption) (by assumption) (by assumption)) (by decide) rfl rfl (Nat.le_of_ble_eq_true rfl) ⟨(Nat.le_of_ble_eq_true rfl), (Nat.le_of_ble_eq_true rfl)⟩ dX6_ruleFor_11 rfl ?_
                refine r_if_eq E (q := 17) 19 dX6_ruleFor_14 (by decide) rfl (fun c16 => ?_) (fun c16 => ?_)
                · refine r_iinc E (q := 22) (v := 8) (lv' := [(0, .ref (ad 0)), (1, .int x), (2, .int 8)]) 2 [1, 2, 0] dX6_ruleFor_19 rfl (by rfl) (by rw [hz]; decide) rfl rfl ?_
                  refine r_goto E 2 dX6_ruleFor_22 (by decide) ?_
                  refine r_iload_n E (q := 3) 2 dX6_ruleFor_2 rfl rfl rfl ?_
                  refine r_bipush E (q := 5) (v := 18) dX6_ruleFor_3 (by decide) rfl ?_
                  refine r_icmp_ge E (q := 8) 25 dX6_ruleFor_5 (by decide) rfl (fun c17 => absurd c17 (by decide)) (fun _ => ?_)
                  refine r_aload_n E (q := 9) 0 dX6_ruleFor_8 rfl rfl rfl ?_
                  refine r_iload_n E (q := 10) 1 dX6_ruleFor_9 rfl rfl rfl ?_
                  refine r_iload_n E (q := 11) 2 dX6_ruleFor_10 rfl rfl rfl ?_
                  refine rVi E (q := 14) cvX6_246 T.rr 0 wm_0 rfl [.int x, .int 8] (c_X6_stands x 8 (by assumption) (by assumption) (by assumption) (by assumption) (by assumption)) (by decide) rfl rfl (Nat.le_of_ble_eq_true rfl) ⟨(Nat.le_of_ble_eq_true rfl), (Nat.le_of_ble_eq_true rfl)⟩ dX6_ruleFor_11 rfl ?_
                  refine r_if_eq E (q := 17) 19 dX6_ruleFor_14 (by decide) rfl (fun c18 => ?_) (fun c18 => ?_)
                  · refine r_iinc E (q := 22) (v := 9) (lv' := [(0, .ref (ad 0)), (1, .int x), (2, .int 9)]) 2 [1, 2, 0] dX6_ruleFor_19 rfl (by rfl) (by rw [hz]; decide) rfl rfl ?_
                    refine r_goto E 2 dX6_ruleFor_22 (by decide) ?_
                    refine r_iload_n E (q := 3) 2 dX6_ruleFor_2 rfl rfl rfl ?_
                    refine r_bipush E (q := 5) (v := 18) dX6_ruleFor_3 (by decide) rfl ?_
                    refine r_icmp_ge E (q := 8) 25 dX6_ruleFor_5 (by decide) rfl (fun c19 => absurd c19 (by decide)) (fun _ => ?_)
                    refine r_aload_n E (q := 9) 0 dX6_ruleFor_8 rfl rfl rfl ?_
                    refine r_iload_n E (q := 10) 1 dX6_ruleFor_9 rfl rfl rfl ?_
                    refine r_iload_n E (q := 11) 2 dX6_ruleFor_10 rfl rfl rfl ?_
                    refine rVi E (q := 14) cvX6_246 T.rr 0 wm_0 rfl [.int x, .int 9] (c_X6_stands x 9 (by assumption) (by assumption) (by assumption) (by assumption) (by assumption)) (by decide) rfl rfl (Nat.le_of_ble_eq_true rfl) ⟨(Nat.le_of_ble_eq_true rfl), (Nat.le_of_ble_eq_true rfl)⟩ dX6_ruleFor_11 rfl ?_
                    refine r_if_eq E (q := 17) 19 dX6_ruleFor_14 (by decide) rfl (fun c20 => ?_) (fun c20 => ?_)
                    · refine r_iinc E (q := 22) (v := 10) (lv' := [(0, .ref (ad 0)), (1, .int x), (2, .int 10)]) 2 [1, 2, 0] dX6_ruleFor_19 rfl (by rfl) (by rw [hz]; decide) rfl rfl ?_
                      refine r_goto E 2 dX6_ruleFor_22 (by decide) ?_
                      refine r_iload_n E (q := 3) 2 dX6_ruleFor_2 rfl rfl rfl ?_
                      refine r_bipush E (q := 5) (v := 18) dX6_ruleFor_3 (by decide) rfl ?_
                      refine r_icmp_ge E (q := 8) 25 dX6_ruleFor_5 (by decide) rfl (fun c21 => absurd c21 (by decide)) (fun _ => ?_)
                      refine r_aload_n E (q := 9) 0 dX6_ruleFor_8 rfl rfl rfl ?_
                      refine r_iload_n E (q := 10) 1 dX6_ruleFor_9 rfl rfl rfl ?_
                      refine r_iload_n E (q := 11) 2 dX6_ruleFor_10 rfl rfl rfl ?_
                      refine rVi E (q := 14) cvX6_246 T.rr 0 wm_0 rfl [.int x, .int 10] (c_X6_stands x 10 (by assumption) (by assumption) (by assumption) (by assumption) (by assumption)) (by decide) rfl rfl (Nat.le_of_ble_eq_true rfl) ⟨(Nat.le_of_ble_eq_true rfl), (Nat.le_of_ble_eq_true rfl)⟩ dX6_ruleFor_11 rfl ?_
                      refine r_if_eq E (q := 17) 19 dX6_ruleFor_14 (by decide) rfl (fun c22 => ?_) (fun c22 => ?_)
                      · refine r_iinc E (q := 22) (v := 11) (lv' := [(0, .ref (ad 0)), (1, .int x), (2, .int 11)]) 2 [1, 2, 0] dX6_ruleFor_19 rfl (by rfl) (by rw [hz]; decide) rfl rfl ?_
                        refine r_goto E 2 dX6_ruleFor_22 (by decide) ?_
                        refine r_iload_n E (q := 3) 2 dX6_ruleFor_2 rfl rfl rfl ?_
                        refine r_bipush E (q := 5) (v := 18) dX6_ruleFor_3 (by decide) rfl ?_
                        refine r_icmp_ge E (q := 8) 25 dX6_ruleFor_5 (by decide) rfl (fun c23 => absurd c23 (by decide)) (fun _ => ?_)
                        refine r_aload_n E (q := 9) 0 dX6_ruleFor_8 rfl rfl rfl ?_
                        refine r_iload_n E (q := 10) 1 dX6_ruleFor_9 rfl rfl rfl ?_
                        refine r_iload_n E (q := 11) 2 dX6_ruleFor_10 rfl rfl rfl ?_
                        refine rVi E (q := 14) cvX6_246 T.rr 0 wm_0 rfl [.int x, .int 11] (c_X6_stands x 11 (by assumption) (by assumption) (by assumption) (by assumption) (by assumption)) (by decide) rfl rfl (Nat.le_of_ble_eq_true rfl) ⟨(Nat.le_of_ble_eq_true rfl), (Nat.le_of_ble_eq_true rfl)⟩ dX6_ruleFor_11 rfl ?_
                        refine r_if_eq E (q := 17) 19 dX6_ruleFor_14 (by decide) rfl (fun c24 => ?_) (fun c24 => ?_)
                        · refine r_iinc E (q := 22) (v := 12) (lv' := [(0, .ref (ad 0)), (1, .int x), (2, .int 12)]) 2 [1, 2, 0] dX6_ruleFor_19 rfl (by rfl) (by rw [hz]; decide) rfl rfl ?_
                          refine r_goto E 2 dX6_ruleFor_22 (by decide) ?_
                          refine r_iload_n E (q := 3) 2 dX6_ruleFor_2 rfl rfl rfl ?_
                          refine r_bipush E (q := 5) (v := 18) dX6_ruleFor_3 (by decide) rfl ?_
                          refine r_icmp_ge E (q := 8) 25 dX6_ruleFor_5 (by decide) rfl (fun c25 => absurd c25 (by decide)) (fun _ => ?_)
                          refine r_aload_n E (q := 9) 0 dX6_ruleFor_8 rfl rfl rfl ?_
                          refine r_iload_n E (q := 10) 1 dX6_ruleFor_9 rfl rfl rfl ?_
                          refine r_iload_n E (q := 11) 2 dX6_ruleFor_10 rfl rfl rfl ?_
                          refine rVi E (q := 14) cvX6_246 T.rr 0 wm_0 rfl [.int x, .int 12] (c_X6_stands x 12 (by assumption) (by assumption) (by assumption) (by assumption) (by assumption)) (by decide) rfl rfl (Nat.le_of_ble_eq_true rfl) ⟨(Nat.le_of_ble_eq_true rfl), (Nat.le_of_ble_eq_true rfl)⟩ dX6_ruleFor_11 rfl ?_
                          refine r_if_eq E (q := 17) 19 dX6_ruleFor_14 (by decide) rfl (fun c26 => ?_) (fun c26 => ?_)
                          · refine r_iinc E (q := 22) (v := 13) (lv' := [(0, .ref (ad 0)), (1, .int x), (2, .int 13)]) 2 [1, 2, 0] dX6_ruleFor_19 rfl (by rfl) (by rw [hz]; decide) rfl rfl ?_
                            refine r_goto E 2 dX6_ruleFor_22 (by decide) ?_
                            refine r_iload_n E (q := 3) 2 dX6_ruleFor_2 rfl rfl rfl ?_
                            refine r_bipush E (q := 5) (v := 18) dX6_ruleFor_3 (by decide) rfl ?_
                            refine r_icmp_ge E (q := 8) 25 dX6_ruleFor_5 (by decide) rfl (fun c27 => absurd c27 (by decide)) (fun _ => ?_)
                            refine r_aload_n E (q := 9) 0 dX6_ruleFor_8 rfl rfl rfl ?_
                            refine r_iload_n E (q := 10) 1 dX6_ruleFor_9 rfl rfl rfl ?_
                            refine r_iload_n E (q := 11) 2 dX6_ruleFor_10 rfl rfl rfl ?_
                            refine rVi E (q := 14) cvX6_246 T.rr 0 wm_0 rfl [.int x, .int 13] (c_X6_stands x 13 (by assumption) (by assumption) (by assumption) (by assumption) (by assumption)) (by decide) rfl rfl (Nat.le_of_ble_eq_true rfl) ⟨(Nat.le_of_ble_eq_true rfl), (Nat.le_of_ble_eq_true rfl)⟩ dX6_ruleFor_11 rfl ?_
                            refine r_if_eq E (q := 17) 19 dX6_ruleFor_14 (by decide) rfl (fun c28 => ?_) (fun c28 => ?_)
                            · refine r_iinc E (q := 22) (v := 14) (lv' := [(0, .ref (ad 0)), (1, .int x), (2, .int 14)]) 2 [1, 2, 0] dX6_ruleFor_19 rfl (by rfl) (by rw [hz]; decide) rfl rfl ?_
                              refine r_goto E 2 dX6_ruleFor_22 (by decide) ?_
                              refine r_iload_n E (q := 3) 2 dX6_ruleFor_2 rfl rfl rfl ?_
                              refine r_bipush E (q := 5) (v := 18) dX6_ruleFor_3 (by decide) rfl ?_
                              refine r_icmp_ge E (q := 8) 25 dX6_ruleFor_5 (by decide) rfl (fun c29 => absurd c29 (by decide)) (fun _ => ?_)
                              refine r_aload_n E (q := 9) 0 dX6_ruleFor_8 rfl rfl rfl ?_
                              refine r_iload_n E (q := 10) 1 dX6_ruleFor_9 rfl rfl rfl ?_
                              refine r_iload_n E (q := 11) 2 dX6_ruleFor_10 rfl rfl rfl ?_
                              refine rVi E (q := 14) cvX6_246 T.rr 0 wm_0 rfl [.int x, .int 14] (c_X6_stands x 14 (by assumption) (by assumption) (by assumption) (by assumption) (by assumption)) (by decide) rfl rfl (Nat.le_of_ble_eq_true rfl) ⟨(Nat.le_of_ble_eq_true rfl), (Nat.le_of_ble_eq_true rfl)⟩ dX6_ruleFor_11 rfl ?_
                              refine r_if_eq E (q := 17) 19 dX6_ruleFor_14 (by decide) rfl (fun c30 => ?_) (fun c30 => ?_)
                              · refine r_iinc E (q := 22) (v := 15) (lv' := [(0, .ref (ad 0)), (1, .int x), (2, .int 15)]) 2 [1, 2, 0] dX6_ruleFor_19 rfl (by rfl) (by rw [hz]; decide) rfl rfl ?_
                                refine r_goto E 2 dX6_ruleFor_22 (by decide) ?_
                                refine r_iload_n E (q := 3) 2 dX6_ruleFor_2 rfl rfl rfl ?_
                                refine r_bipush E (q := 5) (v := 18) dX6_ruleFor_3 (by decide) rfl ?_
                                refine r_icmp_ge E (q := 8) 25 dX6_ruleFor_5 (by decide) rfl (fun c31 => absurd c31 (by decide)) (fun _ => ?_)
                                refine r_aload_n E (q := 9) 0 dX6_ruleFor_8 rfl rfl rfl ?_
                                refine r_iload_n E (q := 10) 1 dX6_ruleFor_9 rfl rfl rfl ?_
                                refine r_iload_n E (q := 11) 2 dX6_ruleFor_10 rfl rfl rfl ?_
                                refine rVi E (q := 14) cvX6_246 T.rr 0 wm_0 rfl [.int x, .int 15] (c_X6_stands x 15 (by assumption) (by assumption) (by assumption) (by assumption) (by assumption)) (by decide) rfl rfl (Nat.le_of_ble_eq_true rfl) ⟨(Nat.le_of_ble_eq_true rfl), (Nat.le_of_ble_eq_true rfl)⟩ dX6_ruleFor_11 rfl ?_
                                refine r_if_eq E (q := 17) 19 dX6_ruleFor_14 (by decide) rfl (fun c32 => ?_) (fun c32 => ?_)
                                · refine r_iinc E (q := 22) (v := 16) (lv' := [(0, .ref (ad 0)), (1, .int x), (2, .int 16)]) 2 [1, 2, 0] dX6_ruleFor_19 rfl (by rfl) (by rw [hz]; decide) rfl rfl ?_
                                  refine r_goto E 2 dX6_ruleFor_22 (by decide) ?_
                                  refine r_iload_n E (q := 3) 2 dX6_ruleFor_2 rfl rfl rfl ?_
                                  refine r_bipush E (q := 5) (v := 18) dX6_ruleFor_3 (by decide) rfl ?_
                                  refine r_icmp_ge E (q := 8) 25 dX6_ruleFor_5 (by decide) rfl (fun c33 => absurd c33 (by decide)) (fun _ => ?_)
                                  refine r_aload_n E (q := 9) 0 dX6_ruleFor_8 rfl rfl rfl ?_
                                  refine r_iload_n E (q := 10) 1 dX6_ruleFor_9 rfl rfl rfl ?_
                                  refine r_iload_n E (q := 11) 2 dX6_ruleFor_10 rfl rfl rfl ?_
                                  refine rVi E (q := 14) cvX6_246 T.rr 0 wm_0 rfl [.int x, .int 16] (c_X6_stands x 16 (by assumption) (by assumption) (by assumption) (by assumption) (by assumption)) (by decide) rfl rfl (Nat.le_of_ble_eq_true rfl) ⟨(Nat.le_of_ble_eq_true rfl), (Nat.le_of_ble_eq_true rfl)⟩ dX6_ruleFor_11 rfl ?_
                                  refine r_if_eq E (q := 17) 19 dX6_ruleFor_14 (by decide) rfl (fun c34 => ?_) (fun c34 => ?_)
                                  · refine r_iinc E (q := 22) (v := 17) (lv' := [(0, .ref (ad 0)), (1, .int x), (2, .int 17)]) 2 [1, 2, 0] dX6_ruleFor_19 rfl (by rfl) (by rw [hz]; decide) rfl rfl ?_
                                    refine r_goto E 2 dX6_ruleFor_22 (by decide) ?_
                                    refine r_iload_n E (q := 3) 2 dX6_ruleFor_2 rfl rfl rfl ?_
                                    refine r_bipush E (q := 5) (v := 18) dX6_ruleFor_3 (by decide) rfl ?_
                                    refine r_icmp_ge E (q := 8) 25 dX6_ruleFor_5 (by decide) rfl (fun c35 => absurd c35 (by decide)) (fun _ => ?_)
                                    refine r_aload_n E (q := 9) 0 dX6_ruleFor_8 rfl rfl rfl ?_
                                    refine r_iload_n E (q := 10) 1 dX6_ruleFor_9 rfl rfl rfl ?_
                                    refine r_iload_n E (q := 11) 2 dX6_ruleFor_10 rfl rfl rfl ?_
                                    refine rVi E (q := 14) cvX6_246 T.rr 0 wm_0 rfl [.int x, .int 17] (c_X6_stands x 17 (by assumption) (by assumption) (by assumption) (by assumption) (by assumption)) (by decide) rfl rfl (Nat.le_of_ble_eq_true rfl) ⟨(Nat.le_of_ble_eq_true rfl), (Nat.le_of_ble_eq_true rfl)⟩ dX6_ruleFor_11 rfl ?_
                                    refine r_if_eq E (q := 17) 19 dX6_ruleFor_14 (by decide) rfl (fun c36 => ?_) (fun c36 => ?_)
                                    · refine r_iinc E (q := 22) (v := 18) (lv' := [(0, .ref (ad 0)), (1, .int x), (2, .int 18)]) 2 [1, 2, 0] dX6_ruleFor_19 rfl (by rfl) (by rw [hz]; decide) rfl rfl ?_
                                      refine r_goto E 2 dX6_ruleFor_22 (by decide) ?_
                                      refine r_iload_n E (q := 3) 2 dX6_ruleFor_2 rfl rfl rfl ?_
                                      refine r_bipush E (q := 5) (v := 18) dX6_ruleFor_3 (by decide) rfl ?_
                                      refine r_icmp_ge E (q := 8) 25 dX6_ruleFor_5 (by decide) rfl (fun _ => ?_) (fun c37 => absurd c37 (by decide))
                                      refine r_iconst E (q := 26) (v := (-1)) dX6_ruleFor_25 (by decide) rfl ?_
                                      exact r_iret E T dX6_ruleFor_26 (eqI.mk (by unfold fX6_ruleFor; exact ((if_pos c2).trans ((if_pos c4).trans ((if_pos c6).trans ((if_pos c8).trans ((if_pos c10).trans ((if_pos c12).trans ((if_pos c14).trans ((if_pos c16).trans ((if_pos c18).trans ((if_pos c20).trans ((if_pos c22).trans ((if_pos c24).trans ((if_pos c26).trans ((if_pos c28).trans ((if_pos c30).trans ((if_pos c32).trans ((if_pos c34).trans (if_pos c36)))))))))))))))))).symm) rfl)
                                    · refine r_iload_n E (q := 18) 2 dX6_ruleFor_17 rfl rfl rfl ?_
                                      exact r_iret E T dX6_ruleFor_18 (eqI.mk (by unfold fX6_ruleFor; exact ((if_pos c2).trans ((if_pos c4).trans ((if_pos c6).trans ((if_pos c8).trans ((if_pos c10).trans ((if_pos c12).trans ((if_pos c14).trans ((if_pos c16).trans ((if_pos c18).trans ((if_pos c20).trans ((if_pos c22).trans ((if_pos c24).trans ((if_pos c26).trans ((if_pos c28).trans ((if_pos c30).trans ((if_pos c32).trans ((if_pos c34).trans (if_neg c36)))))))))))))))))).symm) rfl)
                                  · refine r_iload_n E (q := 18) 2 dX6_ruleFor_17 rfl rfl rfl ?_
                                    exact r_iret E T dX6_ruleFor_18 (eqI.mk (by unfold fX6_ruleFor; exact ((if_pos c2).trans ((if_pos c4).trans ((if_pos c6).trans ((if_pos c8).trans ((if_pos c10).trans ((if_pos c12).trans ((if_pos c14).trans ((if_pos c16).trans ((if_pos c18).trans ((if_pos c20).trans ((if_pos c22).trans ((if_pos c24).trans ((if_pos c26).trans ((if_pos c28).trans ((if_pos c30).trans ((if_pos c32).trans (if_neg c34))))))))))))))))).symm) rfl)
                                · refine r_iload_n E (q := 18) 2 dX6_ruleFor_17 rfl rfl rfl ?_
                                  exact r_iret E T dX6_ruleFor_18 (eqI.mk (by unfold fX6_ruleFor; exact ((if_pos c2).trans ((if_pos c4).trans ((if_pos c6).trans ((if_pos c8).trans ((if_pos c10).trans ((if_pos c12).trans ((if_pos c14).trans ((if_pos c16).trans ((if_pos c18).trans ((if_pos c20).trans ((if_pos c22).trans ((if_pos c24).trans ((if_pos c26).trans ((if_pos c28).trans ((if_pos c30).trans (if_neg c32)))))))))))))))).symm) rfl)
                              · refine r_iload_n E (q := 18) 2 dX6_ruleFor_17 rfl rfl rfl ?_
                                exact r_iret E T dX6_ruleFor_18 (eqI.mk (by unfold fX6_ruleFor; exact ((if_pos c2).trans ((if_pos c4).trans ((if_pos c6).trans ((if_pos c8).trans ((if_pos c10).trans ((if_pos c12).trans ((if_pos c14).trans ((if_pos c16).trans ((if_pos c18).trans ((if_pos c20).trans ((if_pos c22).trans ((if_pos c24).trans ((if_pos c26).trans ((if_pos c28).trans (if_neg c30))))))))))))))).symm) rfl)
                            · refine r_iload_n E (q := 18) 2 dX6_ruleFor_17 rfl rfl rfl ?_
                              exact r_iret E T dX6_ruleFor_18 (eqI.mk (by unfold fX6_ruleFor; exact ((if_pos c2).trans ((if_pos c4).trans ((if_pos c6).trans ((if_pos c8).trans ((if_pos c10).trans ((if_pos c12).trans ((if_pos c14).trans ((if_pos c16).trans ((if_pos c18).trans ((if_pos c20).trans ((if_pos c22).trans ((if_pos c24).trans ((if_pos c26).trans (if_neg c28)))))))))))))).symm) rfl)
                          · refine r_iload_n E (q := 18) 2 dX6_ruleFor_17 rfl rfl rfl ?_
                            exact r_iret E T dX6_ruleFor_18 (eqI.mk (by unfold fX6_ruleFor; exact ((if_pos c2).trans ((if_pos c4).trans ((if_pos c6).trans ((if_pos c8).trans ((if_pos c10).trans ((if_pos c12).trans ((if_pos c14).trans ((if_pos c16).trans ((if_pos c18).trans ((if_pos c20).trans ((if_pos c22).trans ((if_pos c24).trans (if_neg c26))))))))))))).symm) rfl)
                        · refine r_iload_n E (q := 18) 2 dX6_ruleFor_17 rfl rfl rfl ?_
                          exact r_iret E T dX6_ruleFor_18 (eqI.mk (by unfold fX6_ruleFor; exact ((if_pos c2).trans ((if_pos c4).trans ((if_pos c6).trans ((if_pos c8).trans ((if_pos c10).trans ((if_pos c12).trans ((if_pos c14).trans ((if_pos c16).trans ((if_pos c18).trans ((if_pos c20).trans ((if_pos c22).trans (if_neg c24)))))))))))).symm) rfl)
                      · refine r_iload_n E (q := 18) 2 dX6_ruleFor_17 rfl rfl rfl ?_
                        exact r_iret E T dX6_ruleFor_18 (eqI.mk (by unfold fX6_ruleFor; exact ((if_pos c2).trans ((if_pos c4).trans ((if_pos c6).trans ((if_pos c8).trans ((if_pos c10).trans ((if_pos c12).trans ((if_pos c14).trans ((if_pos c16).trans ((if_pos c18).trans ((if_pos c20).trans (if_neg c22))))))))))).symm) rfl)
                    · refine r_iload_n E (q := 18) 2 dX6_ruleFor_17 rfl rfl rfl ?_
                      exact r_iret E T dX6_ruleFor_18 (eqI.mk (by unfold fX6_ruleFor; exact ((if_pos c2).trans ((if_pos c4).trans ((if_pos c6).trans ((if_pos c8).trans ((if_pos c10).trans ((if_pos c12).trans ((if_pos c14).trans ((if_pos c16).trans ((if_pos c18).trans (if_neg c20)))))))))).symm) rfl)
                  · refine r_iload_n E (q := 18) 2 dX6_ruleFor_17 rfl rfl rfl ?_
                    exact r_iret E T dX6_ruleFor_18 (eqI.mk (by unfold fX6_ruleFor; exact ((if_pos c2).trans ((if_pos c4).trans ((if_pos c6).trans ((if_pos c8).trans ((if_pos c10).trans ((if_pos c12).trans ((if_pos c14).trans ((if_pos c16).trans (if_neg c18))))))))).symm) rfl)
                · refine r_iload_n E (q := 18) 2 dX6_ruleFor_17 rfl rfl rfl ?_
                  exact r_iret E T dX6_ruleFor_18 (eqI.mk (by unfold fX6_ruleFor; exact ((if_pos c2).trans ((if_pos c4).trans ((if_pos c6).trans ((if_pos c8).trans ((if_pos c10).trans ((if_pos c12).trans ((if_pos c14).trans (if_neg c16)))))))).symm) rfl)
              · refine r_iload_n E (q := 18) 2 dX6_ruleFor_17 rfl rfl rfl ?_
                exact r_iret E T dX6_ruleFor_18 (eqI.mk (by unfold fX6_ruleFor; exact ((if_pos c2).trans ((if_pos c4).trans ((if_pos c6).trans ((if_pos c8).trans ((if_pos c10).trans ((if_pos c12).trans (if_neg c14))))))).symm) rfl)
            · refine r_iload_n E (q := 18) 2 dX6_ruleFor_17 rfl rfl rfl ?_
              exact r_iret E T dX6_ruleFor_18 (eqI.mk (by unfold fX6_ruleFor; exact ((if_pos c2).trans ((if_pos c4).trans ((if_pos c6).trans ((if_pos c8).trans ((if_pos c10).trans (if_neg c12)))))).symm) rfl)
          · refine r_iload_n E (q := 18) 2 dX6_ruleFor_17 rfl rfl rfl ?_
            exact r_iret E T dX6_ruleFor_18 (eqI.mk (by unfold fX6_ruleFor; exact ((if_pos c2).trans ((if_pos c4).trans ((if_pos c6).trans ((if_pos c8).trans (if_neg c10))))).symm) rfl)
        · refine r_iload_n E (q := 18) 2 dX6_ruleFor_17 rfl rfl rfl ?_
          exact r_iret E T dX6_ruleFor_18 (eqI.mk (by unfold fX6_ruleFor; exact ((if_pos c2).trans ((if_pos c4).trans ((if_pos c6).trans (if_neg c8)))).symm) rfl)
      · refine r_iload_n E (q := 18) 2 dX6_ruleFor_17 rfl rfl rfl ?_
        exact r_iret E T dX6_ruleFor_18 (eqI.mk (by unfold fX6_ruleFor; exact ((if_pos c2).trans ((if_pos c4).trans (if_neg c6))).symm) rfl)
    · refine r_iload_n E (q := 18) 2 dX6_ruleFor_17 rfl rfl rfl ?_
      exact r_iret E T dX6_ruleFor_18 (eqI.mk (by unfold fX6_ruleFor; exact ((if_pos c2).trans (if_neg c4)).symm) rfl)
  · refine r_iload_n E (q := 18) 2 dX6_ruleFor_17 rfl rfl rfl ?_
    exact r_iret E T dX6_ruleFor_18 (eqI.mk (by unfold fX6_ruleFor; exact (if_neg c2).symm) rfl)
