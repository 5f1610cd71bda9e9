theorem g_in1 {kn v : Int32} (h : ¬ (if kn = 1 then (1 : Int32) else 0) = 0) (hg : kn = 1 ∨ kn = 2 → vp_in v 40) : vp_in (if kn = 1 then v else (if kn = 2 then v else (-1))) 40 := by
  by_cases c : kn = 1
  · rw [if_pos c]; exact hg (Or.inl c)
  · rw [if_neg c] at h; exact absurd rfl h
theorem g_in2 {kn v : Int32} (h : kn = 2) (hg : kn = 1 ∨ kn = 2 → vp_in v 40) : vp_in (if kn = 1 then v else (if kn = 2 then v else (-1))) 40 := by
  by_cases c : kn = 1
  · rw [if_pos c]; exact hg (Or.inl c)
  · rw [if_neg c, if_pos h]; exact hg (Or.inr h)
theorem g_inF {kn v : Int32} (h : kn = 1) (hg : kn = 1 ∨ kn = 2 → vp_in v 40) : vp_in (if kn = 1 then v else (if kn = 2 then v else (-1))) 40 := by
  rw [if_pos h]; exact hg (Or.inl h)
def fX6_stands (G : Nat → Nat → Int32) (x : Int32) (rule : Int32) : Int32 := if G 10 (ix x) = 0 then 0 else (if rule = 0 then (if (if G 10 (ix x) = 1 then 1 else 0 : Int32) = 0 then 0 else (if G 10 (ix (G 11 (ix x))) = 2 then (if ((G 7 (ix (if G 10 (ix x) = 1 then (G 14 (ix x)) else (if G 10 (ix x) = 2 then (G 14 (ix x)) else (-1))))) >>> ((G 13 (ix (G 11 (ix x)))) &&& 31)) &&& 1 = 0 then (if G 8 (ix (if G 10 (ix (G 11 (ix x))) = 1 then (G 14 (ix (G 11 (ix x)))) else (if G 10 (ix (G 11 (ix x))) = 2 then (G 14 (ix (G 11 (ix x)))) else (-1)))) = 0 then 1 else 0) else 0) else 0)) else (if rule = 1 then (if (if G 10 (ix x) = 1 then 1 else 0 : Int32) = 0 then 0 else (if G 10 (ix (G 11 (ix x))) = 3 then (if fX6_isOf (G 7 (ix (if G 10 (ix x) = 1 then (G 14 (ix x)) else (if G 10 (ix x) = 2 then (G 14 (ix x)) else (-1))))) (G 14 (ix (G 11 (ix x)))) = 0 then 0 else 1) else 0)) else (if rule = 2 then (if (if G 10 (ix x) = 1 then 1 else 0 : Int32) = 0 then 0 else (if G 10 (ix (G 11 (ix x))) = 4 then (if (G 7 (ix (if G 10 (ix x) = 1 then (G 14 (ix x)) else (if G 10 (ix x) = 2 then (G 14 (ix x)) else (-1))))) &&& (G 14 (ix (G 11 (ix x)))) = 0 then (if G 8 (ix (if G 10 (ix x) = 1 then (G 14 (ix x)) else (if G 10 (ix x) = 2 then (G 14 (ix x)) else (-1)))) = 0 then 1 else 0) else 0) else 0)) else (if rule = 3 then (if (if G 10 (ix x) = 1 then 1 else 0 : Int32) = 0 then 0 else (if G 10 (ix (G 11 (ix x))) = 4 then (if fX6_isOf (G 7 (ix (if G 10 (ix x) = 1 then (G 14 (ix x)) else (if G 10 (ix x) = 2 then (G 14 (ix x)) else (-1))))) (G 14 (ix (G 11 (ix x)))) = 0 then 0 else (if G 8 (ix (if G 10 (ix x) = 1 then (G 14 (ix x)) else (if G 10 (ix x) = 2 then (G 14 (ix x)) else (-1)))) = 0 then 1 else 0)) else 0)) else (if rule = 4 then (if (if G 10 (ix x) = 1 then 1 else 0 : Int32) = 0 then 0 else (if G 10 (ix (G 11 (ix x))) = 5 then (if G 8 (ix (if G 10 (ix x) = 1 then (G 14 (ix x)) else (if G 10 (ix x) = 2 then (G 14 (ix x)) else (-1)))) = 0 then 1 else (if G 16 (ix (G 12 (ix (G 11 (ix x))))) = 0 then 1 else 0)) else 0)) else (if rule = 5 then (if (if G 10 (ix x) = 1 then 1 else 0 : Int32) = 0 then 0 else (if G 10 (ix (G 11 (ix x))) = 6 then (if fX6_isOf (G 7 (ix (if G 10 (ix x) = 1 then (G 14 (ix x)) else (if G 10 (ix x) = 2 then (G 14 (ix x)) else (-1))))) (1 <<< ((G 13 (ix (G 11 (ix x)))) &&& 31)) = 0 then 0 else (if G 8 (ix (if G 10 (ix x) = 1 then (G 14 (ix x)) else (if G 10 (ix x) = 2 then (G 14 (ix x)) else (-1)))) = 0 then 1 else 0)) else 0)) else (if rule = 6 then (if (if G 10 (ix x) = 1 then 1 else 0 : Int32) = 0 then 0 else (if G 10 (ix (G 11 (ix x))) = 7 then 1 else 0)) else (if rule = 7 then (if (if G 10 (ix x) = 1 then 1 else 0 : Int32) = 0 then 0 else (if G 10 (ix (G 11 (ix x))) = 1 then (if G 8 (ix (if G 10 (ix (G 11 (ix x))) = 1 then (G 14 (ix (G 11 (ix x)))) else (if G 10 (ix (G 11 (ix x))) = 2 then (G 14 (ix (G 11 (ix x)))) else (-1)))) = 0 then 1 else (if G 8 (ix (if G 10 (ix x) = 1 then (G 14 (ix x)) else (if G 10 (ix x) = 2 then (G 14 (ix x)) else (-1)))) = 0 then 1 else 0)) else 0)) else (if rule = 8 then (if G 10 (ix x) = 2 then (if G 10 (ix (G 11 (ix x))) = 2 then (if G 13 (ix x) = G 13 (ix (G 11 (ix x))) then (if ((G 7 (ix (if G 10 (ix x) = 1 then (G 14 (ix x)) else (if G 10 (ix x) = 2 then (G 14 (ix x)) else (-1))))) >>> ((G 13 (ix x)) &&& 31)) &&& 1 = 0 then (if G 8 (ix (if G 10 (ix (G 11 (ix x))) = 1 then (G 14 (ix (G 11 (ix x)))) else (if G 10 (ix (G 11 (ix x))) = 2 then (G 14 (ix (G 11 (ix x)))) else (-1)))) = 0 then 1 else 0) else 0) else 0) else 0) else 0) else (if rule = 9 then (if G 10 (ix x) = 3 then (if G 10 (ix (G 11 (ix x))) = 3 then 1 else 0) else 0) else (if rule = 10 then (if G 10 (ix x) = 3 then (if G 10 (ix (G 11 (ix x))) = 2 then (if ((G 14 (ix x)) >>> ((G 13 (ix (G 11 (ix x)))) &&& 31)) &&& 1 = 0 then (if G 8 (ix (if G 10 (ix (G 11 (ix x))) = 1 then (G 14 (ix (G 11 (ix x)))) else (if G 10 (ix (G 11 (ix x))) = 2 then (G 14 (ix (G 11 (ix x)))) else (-1)))) = 0 then 1 else 0) else 0) else 0) else 0) else (if rule = 11 then (if G 10 (ix x) = 3 then (if G 10 (ix (G 11 (ix x))) = 5 then 1 else 0) else 0) else (if rule = 12 then (if G 10 (ix x) = 6 then (if G 10 (ix (G 11 (ix x))) = 5 then (if fX6_isFold G (G 11 (ix (G 11 (ix x)))) (G 13 (ix x)) (G 14 (ix x)) = 0 then 1 else (if fX6_isFold G (G 12 (ix (G 11 (ix x)))) (G 13 (ix x)) (G 14 (ix x)) = 0 then 1 else 0)) else 0) else 0) else (if rule = 13 then (if G 10 (ix x) = 6 then (if G 10 (ix (G 11 (ix x))) = 3 then (if fX6_isOf ((1 <<< ((G 13 (ix x)) &&& 31)) ||| (1 <<< ((G 14 (ix x)) &&& 31))) (G 14 (ix (G 11 (ix x)))) = 0 then 0 else 1) else 0) else 0) else (if rule = 14 then (if G 10 (ix x) = 7 then (if G 10 (ix (G 11 (ix x))) = 7 then 1 else 0) else 0) else (if rule = 15 then (if G 10 (ix x) = 8 then (if G 10 (ix (G 11 (ix x))) = 8 then 1 else 0) else 0) else (if rule = 16 then (if G 10 (ix x) = 7 then (if G 10 (ix (G 11 (ix x))) = 5 then (if G 10 (ix (G 11 (ix (G 11 (ix x))))) = 7 then (if G 10 (ix (G 12 (ix (G 11 (ix x))))) = 7 then 0 else 1) else 1) else 0) else 0) else (if G 10 (ix x) = 8 then (if G 10 (ix (G 11 (ix x))) = 2 then (if G 8 (ix (if G 10 (ix (G 11 (ix x))) = 1 then (G 14 (ix (G 11 (ix x)))) else (if G 10 (ix (G 11 (ix x))) = 2 then (G 14 (ix (G 11 (ix x)))) else (-1)))) = 0 then 1 else 0) else 0) else 0))))))))))))))))))
theorem b_X6_stands (G : Nat → Nat → Int32) (x : Int32) (rule : Int32) : fX6_stands G x rule = 0 ∨ fX6_stands G x rule = 1 := (b01 (Or.inl rfl) (b01 (b01 (Or.inl rfl) (b01 (b01 (b01 (Or.inr rfl) (Or.inl rfl)) (Or.inl rfl)) (Or.inl rfl))) (b01 (b01 (Or.inl rfl) (b01 (b01 (Or.inl rfl) (Or.inr rfl)) (Or.inl rfl))) (b01 (b01 (Or.inl rfl) (b01 (b01 (b01 (Or.inr rfl) (Or.inl rfl)) (Or.inl rfl)) (Or.inl rfl))) (b01 (b01 (Or.inl rfl) (b01 (b01 (Or.inl rfl) (b01 (Or.inr rfl) (Or.inl rfl))) (Or.inl rfl))) (b01 (b01 (Or.inl rfl) (b01 (b01 (Or.inr rfl) (b01 (Or.inr rfl) (Or.inl rfl))) (Or.inl rfl))) (b01 (b01 (Or.inl rfl) (b01 (b01 (Or.inl rfl) (b01 (Or.inr rfl) (Or.inl rfl))) (Or.inl rfl))) (b01 (b01 (Or.inl rfl) (b01 (Or.inr rfl) (Or.inl rfl))) (b01 (b01 (Or.inl rfl) (b01 (b01 (Or.inr rfl) (b01 (Or.inr rfl) (Or.inl rfl))) (Or.inl rfl))) (b01 (b01 (b01 (b01 (b01 (b01 (Or.inr rfl) (Or.inl rfl)) (Or.inl rfl)) (Or.inl rfl)) (Or.inl rfl)) (Or.inl rfl)) (b01 (b01 (b01 (Or.inr rfl) (Or.inl rfl)) (Or.inl rfl)) (b01 (b01 (b01 (b01 (b01 (Or.inr rfl) (Or.inl rfl)) (Or.inl rfl)) (Or.inl rfl)) (Or.inl rfl)) (b01 (b01 (b01 (Or.inr rfl) (Or.inl rfl)) (Or.inl rfl)) (b01 (b01 (b01 (b01 (Or.inr rfl) (b01 (Or.inr rfl) (Or.inl rfl))) (Or.inl rfl)) (Or.inl rfl)) (b01 (b01 (b01 (b01 (Or.inl rfl) (Or.inr rfl)) (Or.inl rfl)) (Or.inl rfl)) (b01 (b01 (b01 (Or.inr rfl) (Or.inl rfl)) (Or.inl rfl)) (b01 (b01 (b01 (Or.inr rfl) (Or.inl rfl)) (Or.inl rfl)) (b01 (b01 (b01 (b01 (b01 (Or.inl rfl) (Or.inr rfl)) (Or.inr rfl)) (Or.inl rfl)) (Or.inl rfl)) (b01 (b01 (b01 (Or.inr rfl) (Or.inl rfl)) (Or.inl rfl)) (Or.inl rfl))))))))))))))))))))
set_option maxRecDepth 100000 in
set_option maxHeartbeats 800000 in
theorem c_X6_stands {l : Launch} {k : Kt} {ad : Nat → Nat} {G : Nat → Nat → Int32} {V : Nat → Int32} (x : Int32) (rule : Int32) (hx : vp_in x 60) (hc : ¬ G 10 (ix x) = 0 → vp_in (G 11 (ix x)) 60) (hg : G 10 (ix x) = 1 ∨ G 10 (ix x) = 2 → vp_in (G 14 (ix x)) 40) (hf : ¬ G 10 (ix x) = 0 → G 10 (ix (G 11 (ix x))) = 1 ∨ G 10 (ix (G 11 (ix x))) = 2 → vp_in (G 14 (ix (G 11 (ix x)))) 40) (h5 : ¬ G 10 (ix x) = 0 → G 10 (ix (G 11 (ix x))) = 5 → vp_in (G 11 (ix (G 11 (ix x)))) 60 ∧ vp_in (G 12 (ix (G 11 (ix x)))) 60) : CT l k yX6_stands cX6_stands 9 (some .boolean) 1 [.ref (ad 0), .int x, .int rule] (WM k ad G V) (eqI (fX6_stands G x rule) (WM k ad G V)) 0 0 := by
  refine ct_of (own := RX6) (lv0 := [(0, .ref (ad 0)), (1, .int x), (2, .int rule)]) (by decide) rfl (Nat.le_of_ble_eq_true rfl) rfl ?_
  rintro z rfl rfl hz - E T
  refine r_aload_n E (q := 1) 0 dX6_stands_0 rfl rfl rfl ?_
  refine r_get E (q := 4) fX6_38 0 wm_0 rfl dX6_stands_1 rfl ?_
  refine r_iload_n E (q := 5) 1 dX6_stands_4 rfl rfl rfl ?_
  refine r_iald E (q := 6) 10 wm_10 (by first | assumption | exact hc (by assumption) | exact (h5 (by assumption) (by assumption)).1 | exact (h5 (by assumption) (by assumption)).2 | exact g_in1 (by assumption) hg | exact g_in2 (by assumption) hg | exact g_in2 (by assumption) (hf (by assumption)) | exact g_inF (by assumption) (hf (by assumption))) dX6_stands_5 rfl ?_
  refine r_if_ne E (q := 9) 11 dX6_stands_6 (by decide) rfl (fun c1 => ?_) (fun c1 => ?_)
  · refine r_aload_n E (q := 12) 0 dX6_stands_11 rfl rfl rfl ?_
    refine r_get E (q := 15) fX6_41 0 wm_0 rfl dX6_stands_12 rfl ?_
    refine r_iload_n E (q := 16) 1 dX6_stands_15 rfl rfl rfl ?_
    refine r_iald E (q := 17) 11 wm_11 (by first | assumption | exact hc (by assumption) | exact (h5 (by assumption) (by assumption)).1 | exact (h5 (by assumption) (by assumption)).2 | exact g_in1 (by assumption) hg | exact g_in2 (by assumption) hg | exact g_in2 (by assumption) (hf (by assumption)) | exact g_inF (by assumption) (hf (by assumption))) dX6_stands_16 rfl ?_
    refine r_istore_n E (q := 18) (lv' := [(0, .ref (ad 0)), (1, .int x), (2, .int rule), (3, .int (G 11 (ix x)))]) [1, 2, 3, 0] dX6_stands_17 rfl (by rw [hz]; decide) rfl rfl ?_
    refine r_aload_n E (q := 19) 0 dX6_stands_18 rfl rfl rfl ?_
    refine r_get E (q := 22) fX6_38 0 wm_0 rfl dX6_stands_19 rfl ?_
    refine r_iload_n E (q := 23) 3 dX6_stands_22 rfl rfl rfl ?_
    refine r_iald E (q := 24) 10 wm_10 (by first | assumption | exact hc (by assumption) | exact (h5 (by assumption) (by assumption)).1 | exact (h5 (by assumption) (by assumption)).2 | exact g_in1 (by assumption) hg | exact g_in2 (by assumption) hg | exact g_in2 (by assumption) (hf (by assumption)) | exact g_inF (by assumption) (hf (by assumption))) dX6_stands_23 rfl ?_
    refine r_istore E (q := 26) (lv' := [(0, .ref (ad 0)), (1, .int x), (2, .int rule), (3, .int (G 11 (ix x))), (4, .int (G 10 (ix (G 11 (ix x)))))]) [1, 2, 3, 4, 0] dX6_stands_24 (by rw [hz]; decide) rfl rfl ?_
    refine r_aload_n E (q := 27) 0 dX6_stands_26 rfl rfl rfl ?_
    refine r_get E (q := 30) fX6_50 0 wm_0 rfl dX6_stands_27 rfl ?_
    refine r_iload_n E (q := 31) 1 dX6_stands_30 rfl rfl rfl ?_
    refine r_iald E (q := 32) 14 wm_14 (by first | assumption | exact hc (by assumption) | exact (h5 (by assumption) (by assumption)).1 | exact (h5 (by assumption) (by assumption)).2 | exact g_in1 (by assumption) hg | exact g_in2 (by assumption) hg | exact g_in2 (by assumption) (hf (by assumption)) | exact g_inF (by assumption) (hf (by assumption))) dX6_stands_31 rfl ?_
    refine r_istore E (q := 34) (lv' := [(0, .ref (ad 0)), (1, .int x), (2, .int rule), (3, .int (G 11 (ix x))), (4, .int (G 10 (ix (G 11 (ix x))))), (5, .int (G 14 (ix x)))]) [1, 2, 3, 4, 5, 0] dX6_stands_32 (by rw [hz]; decide) rfl rfl ?_
    refine r_aload_n E (q := 35) 0 dX6_stands_34 rfl rfl rfl ?_
    refine r_get E (q := 38) fX6_38 0 wm_0 rfl dX6_stands_35 rfl ?_
    refine r_iload_n E (q := 39) 1 dX6_stands_38 rfl rfl rfl ?_
    refine r_iald E (q := 40) 10 wm_10 (by first | assumption | exact hc (by assumption) | exact (h5 (by assumption) (by assumption)).1 | exact (h5 (by assumption) (by assumption)).2 | exact g_in1 (by assumption) hg | exact g_in2 (by assumption) hg | exact g_in2 (by assumption) (hf (by assumption)) | exact g_inF (by assumption) (hf (by assumption))) dX6_stands_39 rfl ?_
    refine r_iconst E (q := 41) (v := 1) dX6_stands_40 (by decide) rfl ?_
    refine r_join 60 (if G 10 (ix x) = 1 then (G 14 (ix x)) else (if G 10 (ix x) = 2 then (G 14 (ix x)) else (-1))) (rest := []) ?_ (fun hj1 => ?_)
    · refine r_istore E (q := 62) (lv' := [(0, .ref (ad 0)), (1, .int x), (2, .int rule), (3, .int (G 11 (ix x))), (4, .int (G 10 (ix (G 11 (ix x))))), (5, .int (G 14 (ix x))), (6, .int (if G 10 (ix x) = 1 then (G 14 (ix x)) else (if G 10 (ix x) = 2 then (G 14 (ix x)) else (-1))))]) [1, 2, 3, 4, 5, 6, 0] dX6_stands_60 (by rw [hz]; decide) rfl rfl ?_
      refine r_iload E (q := 64) 4 dX6_stands_62 rfl rfl ?_
      refine r_iconst E (q := 65) (v := 1) dX6_stands_64 (by decide) rfl ?_
      refine r_join 84 (if G 10 (ix (G 11 (ix x))) = 1 then (G 14 (ix (G 11 (ix x)))) else (if G 10 (ix (G 11 (ix x))) = 2 then (G 14 (ix (G 11 (ix x)))) else (-1))) (rest := []) ?_ (fun hj2 => ?_)
      · refine r_istore E (q := 86) (lv' := [(0, .ref (ad 0)), (1, .int x), (2, .int rule), (3, .int (G 11 (ix x))), (4, .int (G 10 (ix (G 11 (ix x))))), (5, .int (G 14 (ix x))), (6, .int (if G 10 (ix x) = 1 then (G 14 (ix x)) else (if G 10 (ix x) = 2 then (G 14 (ix x)) else (-1)))), (7, .int (if G 10 (ix (G 11 (ix x))) = 1 then (G 14 (ix (G 11 (ix x)))) else (if G 10 (ix (G 11 (ix x))) = 2 then (G 14 (ix (G 11 (ix x)))) else (-1))))]) [1, 2, 3, 4, 5, 6, 7, 0] dX6_stands_84 (by rw [hz]; decide) rfl rfl ?_
        refine r_aload_n E (q := 87) 0 dX6_stands_86 rfl rfl rfl ?_
        refine r_get E (q := 90) fX6_38 0 wm_0 rfl dX6_stands_87 rfl ?_
        refine r_iload_n E (q := 91) 1 dX6_stands_90 rfl rfl rfl ?_
        refine r_iald E (q := 92) 10 wm_10 (by first | assumption | exact hc (by assumption) | exact (h5 (by assumption) (by assumption)).1 | exact (h5 (by assumption) (by assumption)).2 | exact g_in1 (by assumption) hg | exact g_in2 (by assumption) hg | exact g_in2 (by assumption) (hf (by assumption)) | exact g_inF (by assumption) (hf (by assumption))) dX6_stands_91 rfl ?_
        refine r_iconst E (q := 93) (v := 1) dX6_stands_92 (by decide) rfl ?_
        refine r_join 101 (if G 10 (ix x) = 1 then 1 else 0) (rest := []) ?_ (fun hj3 => ?_)
        · refine r_istore E (q := 103) (lv' := [(0, .ref (ad 0)), (1, .int x), (2, .int rule), (3, .int (G 11 (ix x))), (4, .int (G 10 (ix (G 11 (ix x))))), (5, .int (G 14 (ix x))), (6, .int (if G 10 (ix x) = 1 then (G 14 (ix x)) else (if G 10 (ix x) = 2 then (G 14 (ix x)) else (-1)))), (7, .int (if G 10 (ix (G 11 (ix x))) = 1 then (G 14 (ix (G 11 (ix x)))) else (if G 10 (ix (G 11 (ix x))) = 2 then (G 14 (ix (G 11 (ix x)))) else (-1)))), (8, .int (if G 10 (ix x) = 1 then 1 else 0))]) [1, 2, 3, 4, 5, 6, 7, 8, 0] dX6_stands_101 (by rw [hz]; decide) rfl rfl ?_
          refine r_iload_n E (q := 104) 2 dX6_stands_103 rfl rfl rfl ?_
          by_cases c7 : rule = 0
          · refine r_tabIn E 0 c7 188 dX6_stands_104 (by decide) (by rfl) (by decide) ?_
            refine r_iload E (q := 190) 8 dX6_stands_188 rfl rfl ?_
            refine r_join 233 (if (if G 10 (ix x) = 1 then 1 else 0 : Int32) = 0 then 0 else (if G 10 (ix (G 11 (ix x))) = 2 then (if ((G 7 (ix (if G 10 (ix x) = 1 then (G 14 (ix x)) else (if G 10 (ix x) = 2 then (G 14 (ix x)) else (-1))))) >>> ((G 13 (ix (G 11 (ix x)))) &&& 31)) &&& 1 = 0 then (if G 8 (ix (if G 10 (ix (G 11 (ix x))) = 1 then (G 14 (ix (G 11 (ix x)))) else (if G 10 (ix (G 11 (ix x))) = 2 then (G 14 (ix (G 11 (ix x)))) else (-1)))) = 0 then 1 else 0) else 0) else 0)) (rest := []) ?_ (fun hj4 => ?_)
            · exact r_zret E T (b01 (Or.inl rfl) (b01 (b01 (b01 (Or.inr rfl) (Or.inl rfl)) (Or.inl rfl)) (Or.inl rfl))) dX6_stands_233 (eqI.mk (by unfold fX6_stands; exact ((if_neg c1).trans (if_pos c7)).symm) rfl)
            · refine r_if_eq E (q := 193) 232 dX6_stands_190 (by decide) rfl (fun c8 => ?_) (fun c8 => ?_)
              · refine r_iconst E (q := 233) (v := 0) dX6_stands_232 (by decide) rfl ?_
                exact hj4 _ (if_pos c8).symm
              · refine r_iload E (q := 195) 4 dX6_stands_193 rfl rfl ?_
                refine r_iconst E (q := 196) (v := 2) dX6_stands_195 (by decide) rfl ?_
                refine r_icmp_ne E (q := 199) 232 dX6_stands_196 (by decide) rfl (fun c9 => ?_) (fun c9 => ?_)
                · refine r_iconst E (q := 233) (v := 0) dX6_stands_232 (by decide) rfl ?_
                  exact hj4 _ ((if_neg c8).trans (if_neg c9)).symm
                · refine r_aload_n E (q := 200) 0 dX6_stands_199 rfl rfl rfl ?_
                  refine r_get E (q := 203) fX6_28 0 wm_0 rfl dX6_stands_200 rfl ?_
                  refine r_iload E (q := 205) 6 dX6_stands_203 rfl rfl ?_
                  refine r_iald E (q := 206) 7 wm_7 (by first | assumption | exact hc (by assumption) | exact (h5 (by assumption) (by assumption)).1 | exact (h5 (by assumption) (by assumption)).2 | exact g_in1 (by assumption) hg | exact g_in2 (by assumption) hg | exact g_in2 (by assumption) (hf (by assumption)) | exact g_inF (by assumption) (hf (by assumption))) dX6_stands_205 rfl ?_
                  refine r_aload_n E (q := 207) 0 dX6_stands_206 rfl rfl rfl ?_
                  refine r_get E (q := 210) fX6_47 0 wm_0 rfl dX6_stands_207 rfl ?_
                  refine r_iload_n E (q := 211) 3 dX6_stands_210 rfl rfl rfl ?_
                  refine r_iald E (q := 212) 13 wm_13 (by first | assumption | exact hc (by assumption) | exact (h5 (by assumption) (by assumption)).1 | exact (h5 (by assumption) (by assumption)).2 | exact g_in1 (by assumption) hg | exact g_in2 (by assumption) hg | exact g_in2 (by assumption) (hf (by assumption)) | exact g_inF (by assumption) (hf (by assumption))) dX6_stands_211 rfl ?_
                  refine r_ishr E (q := 213) dX6_stands_212 rfl ?_
                  refine r_iconst E (q := 214) (v := 1) dX6_stands_213 (by decide) rfl ?_
                  refine r_iand E (q := 215) dX6_stands_214 rfl ?_
                  refine r_if_ne E (q := 218) 232 dX6_stands_215 (by decide) rfl (fun c10 => ?_) (fun c10 => ?_)
                  · refine r_iconst E (q := 233) (v := 0) dX6_stands_232 (by decide) rfl ?_
                    exact hj4 _ ((if_neg c8).trans ((if_pos c9).trans (if_neg c10))).symm
                  · refine r_aload_n E (q := 219) 0 dX6_stands_218 rfl rfl rfl ?_
                    refine r_get E (q := 222) fX6_31 0 wm_0 rfl dX6_stands_219 rfl ?_
                    refine r_iload E (q := 224) 7 dX6_stands_222 rfl rfl ?_
                    refine r_zald E (q := 225) 8 wm_8 (by first | assumption | exact hc (by assumption) | exact (h5 (by assumption) (by assumption)).1 | exact (h5 (by assumption) (by assumption)).2 | exact g_in1 (by assumption) hg | exact g_in2 (by assumption) hg | exact g_in2 (by assumption) (hf (by assumption)) | exact g_inF (by assumption) (hf (by assumption))) dX6_stands_224 rfl ?_
                    refine r_if_ne E (q := 228) 232 dX6_stands_225 (by decide) rfl (fun c11 => ?_) (fun c11 => ?_)
                    · refine r_iconst E (q := 233) (v := 0) dX6_stands_232 (by decide) rfl ?_
                      exact hj4 _ ((if_neg c8).trans ((if_pos c9).trans ((if_pos c10).trans (if_neg c11)))).symm
                    · refine r_iconst E (q := 229) (v := 1) dX6_stands_228 (by decide) rfl ?_
                      refine r_goto E 233 dX6_stands_229 (by decide) ?_
                      exact hj4 _ ((if_neg c8).trans ((if_pos c9).trans ((if_pos c10).trans (if_pos c11)))).symm
          · by_cases c12 : rule = 1
            · refine r_tabIn E 1 c12 234 dX6_stands_104 (by decide) (by rfl) (by decide) ?_
              refine r_iload E (q := 236) 8 dX6_stands_234 rfl rfl ?_
              refine r_join 269 (if (if G 10 (ix x) = 1 then 1 else 0 : Int32) = 0 then 0 else (if G 10 (ix (G 11 (ix x))) = 3 then (if fX6_isOf (G 7 (ix (if G 10 (ix x) = 1 then (G 14 (ix x)) else (if G 10 (ix x) = 2 then (G 14 (ix x)) else (-1))))) (G 14 (ix (G 11 (ix x)))) = 0 then 0 else 1) else 0)) (rest := []) ?_ (fun hj5 => ?_)
              · exact r_zret E T (b01 (Or.inl rfl) (b01 (b01 (Or.inl rfl) (Or.inr rfl)) (Or.inl rfl))) dX6_stands_269 (eqI.mk (by unfold fX6_stands; exact ((if_neg c1).trans ((if_neg c7).trans (if_pos c12))).symm) rfl)
              · refine r_if_eq E (q := 239) 268 dX6_stands_236 (by decide) rfl (fun c13 => ?_) (fun c13 => ?_)
                · refine r_iconst E (q := 269) (v := 0) dX6_stands_268 (by decide) rfl ?_
                  exact hj5 _ (if_pos c13).symm
                · refine r_iload E (q := 241) 4 dX6_stands_239 rfl rfl ?_
                  refine r_iconst E (q := 242) (v := 3) dX6_stands_241 (by decide) rfl ?_
                  refine r_icmp_ne E (q := 245) 268 dX6_stands_242 (by decide) rfl (fun c14 => ?_) (fun c14 => ?_)
                  · refine r_iconst E (q := 269) (v := 0) dX6_stands_268 (by decide) rfl ?_
                    exact hj5 _ ((if_neg c13).trans (if_neg c14)).symm
                  · refine r_aload_n E (q := 246) 0 dX6_stands_245 rfl rfl rfl ?_
                    refine r_get E (q := 249) fX6_28 0 wm_0 rfl dX6_stands_246 rfl ?_
                    refine r_iload E (q := 251) 6 dX6_stands_249 rfl rfl ?_
                    refine r_iald E (q := 252) 7 wm_7 (by first | assumption | exact hc (by assumption) | exact (h5 (by assumption) (by assumption)).1 | exact (h5 (by assumption) (by assumption)).2 | exact g_in1 (by assumption) hg | exact g_in2 (by assumption) hg | exact g_in2 (by assumption) (hf (by assumption)) | exact g_inF (by assumption) (hf (by assumption))) dX6_stands_251 rfl ?_
                    refine r_aload_n E (q := 253) 0 dX6_stands_252 rfl rfl rfl ?_
                    refine r_get E (q := 256) fX6_50 0 wm_0 rfl dX6_stands_253 rfl ?_
                    refine r_iload_n E (q := 257) 3 dX6_stands_256 rfl rfl rfl ?_
                    refine r_iald E (q := 258) 14 wm_14 (by first | assumption | exact hc (by assumption) | exact (h5 (by assumption) (by assumption)).1 | exact (h5 (by assumption) (by assumption)).2 | exact g_in1 (by assumption) hg | exact g_in2 (by assumption) hg | exact g_in2 (by assumption) (hf (by assumption)) | exact g_inF (by assumption) (hf (by assumption))) dX6_stands_257 rfl ?_
                    refine rSi E (q := 261) csX6_238 T.rr [.int (G 7 (ix (if G 10 (ix x) = 1 then (G 14 (ix x)) else (if G 10 (ix x) = 2 then (G 14 (ix x)) else (-1))))), .int (G 14 (ix (G 11 (ix x))))] (c_X6_isOf (G 7 (ix (if G 10 (ix x) = 1 then (G 14 (ix x)) else (if G 10 (ix x) = 2 then (G 14 (ix x)) else (-1))))) (G 14 (ix (G 11 (ix x))))) (by decide) rfl rfl (Nat.le_of_ble_eq_true rfl) ⟨(Nat.le_of_ble_eq_true rfl), (Nat.le_of_ble_eq_true rfl)⟩ dX6_stands_258 rfl ?_
                    refine r_if_eq E (q := 264) 268 dX6_stands_261 (by decide) rfl (fun c15 => ?_) (fun c15 => ?_)
                    · refine r_iconst E (q := 269) (v := 0) dX6_stands_268 (by decide) rfl ?_
                      exact hj5 _ ((if_neg c13).trans ((if_pos c14).trans (if_pos c15))).symm
                    · refine r_iconst E (q := 265) (v := 1) dX6_stands_264 (by decide) rfl ?_
                      refine r_goto E 269 dX6_stands_265 (by decide) ?_
                      exact hj5 _ ((if_neg c13).trans ((if_pos c14).trans (if_neg c15))).symm
            · by_cases c16 : rule = 2
              · refine r_tabIn E 2 c16 270 dX6_stands_104 (by decide) (by rfl) (by decide) ?_
                refine r_iload E (q := 272) 8 dX6_stands_270 rfl rfl ?_
                refine r_join 313 (if (if G 10 (ix x) = 1 then 1 else 0 : Int32) = 0 then 0 else (if G 10 (ix (G 11 (ix x))) = 4 then (if (G 7 (ix (if G 10 (ix x) = 1 then (G 14 (ix x)) else (if G 10 (ix x) = 2 then (G 14 (ix x)) else (-1))))) &&& (G 14 (ix (G 11 (ix x)))) = 0 then (if G 8 (ix (if G 10 (ix x) = 1 then (G 14 (ix x)) else (if G 10 (ix x) = 2 then (G 14 (ix x)) else (-1)))) = 0 then 1 else 0) else 0) else 0)) (rest := []) ?_ (fun hj6 => ?_)
                · exact r_zret E T (b01 (Or.inl rfl) (b01 (b01 (b01 (Or.inr rfl) (Or.inl rfl)) (Or.inl rfl)) (Or.inl rfl))) dX6_stands_313 (eqI.mk (by unfold fX6_stands; exact ((if_neg c1).trans ((if_neg c7).trans ((if_neg c12).trans (if_pos c16)))).symm) rfl)
                · refine r_if_eq E (q := 275) 312 dX6_stands_272 (by decide) rfl (fun c17 => ?_) (fun c17 => ?_)
                  · refine r_iconst E (q := 313) (v := 0) dX6_stands_312 (by decide) rfl ?_
                    exact hj6 _ (if_pos c17).symm
                  · refine r_iload E (q := 277) 4 dX6_stands_275 rfl rfl ?_
                    refine r_iconst E (q := 278) (v := 4) dX6_stands_277 (by decide) rfl ?_
                    refine r_icmp_ne E (q := 281) 312 dX6_stands_278 (by decide) rfl (fun c18 => ?_) (fun c18 => ?_)
                    · refine r_iconst E (q := 313) (v := 0) dX6_stands_312 (by decide) rfl ?_
                      exact hj6 _ ((if_neg c17).trans (if_neg c18)).symm
                    · refine r_aload_n E (q := 282) 0 dX6_stands_281 rfl rfl rfl ?_
                      refine r_get E (q := 285) fX6_28 0 wm_0 rfl dX6_stands_282 rfl ?_
                      refine r_iload E (q := 287) 6 dX6_stands_285 rfl rfl ?_
                      refine r_iald E (q := 288) 7 wm_7 (by first | assumption | exact hc (by assumption) | exact (h5 (by assumption) (by assumption)).1 | exact (h5 (by assumption) (by assumption)).2 | exact g_in1 (by assumption) hg | exact g_in2 (by assumption) hg | exact g_in2 (by assumption) (hf (by assumption)) | exact g_inF (by assumption) (hf (by assumption))) dX6_stands_287 rfl ?_
                      refine r_aload_n E (q := 289) 0 dX6_stands_288 rfl rfl rfl ?_
                      refine r_get E (q := 292) fX6_50 0 wm_0 rfl dX6_stands_289 rfl ?_
                      refine r_iload_n E (q := 293) 3 dX6_stands_292 rfl rfl rfl ?_
                      refine r_iald E (q := 294) 14 wm_14 (by first | assumption | exact hc (by assumption) | exact (h5 (by assumption) (by assumption)).1 | exact (h5 (by assumption) (by assumption)).2 | exact g_in1 (by assumption) hg | exact g_in2 (by assumption) hg | exact g_in2 (by assumption) (hf (by assumption)) | exact g_inF (by assumption) (hf (by assumption))) dX6_stands_293 rfl ?_
                      refine r_iand E (q := 295) dX6_stands_294 rfl ?_
                      refine r_if_ne E (q := 298) 312 dX6_stands_295 (by decide) rfl (fun c19 => ?_) (fun c19 => ?_)
                      · refine r_iconst E (q := 313) (v := 0) dX6_stands_312 (by decide) rfl ?_
                        exact hj6 _ ((if_neg c17).trans ((if_pos c18).trans (if_neg c19))).symm
                      · refine r_aload_n E (q := 299) 0 dX6_stands_298 rfl rfl rfl ?_
                        refine r_get E (q := 302) fX6_31 0 wm_0 rfl dX6_stands_299 rfl ?_
                        refine r_iload E (q := 304) 6 dX6_stands_302 rfl rfl ?_
                        refine r_zald E (q := 305) 8 wm_8 (by first | assumption | exact hc (by assumption) | exact (h5 (by assumption) (by assumption)).1 | exact (h5 (by assumption) (by assumption)).2 | exact g_in1 (by assumption) hg | exact g_in2 (by assumption) hg | exact g_in2 (by assumption) (hf (by assumption)) | exact g_inF (by assumption) (hf (by assumption))) dX6_stands_304 rfl ?_
                        refine r_if_ne E (q := 308) 312 dX6_stands_305 (by decide) rfl (fun c20 => ?_) (fun c20 => ?_)
                        · refine r_iconst E (q := 313) (v := 0) dX6_stands_312 (by decide) rfl ?_
                          exact hj6 _ ((if_neg c17).trans ((if_pos c18).trans ((if_pos c19).trans (if_neg c20)))).symm
                        · refine r_iconst E (q := 309) (v := 1) dX6_stands_308 (by decide) rfl ?_
                          refine r_goto E 313 dX6_stands_309 (by decide) ?_
                          exact hj6 _ ((if_neg c17).trans ((if_pos c18).trans ((if_pos c19).trans (if_pos c20)))).symm
              · by_cases c21 : rule = 3
                · refine r_tabIn E 3 c21 314 dX6_stands_104 (by decide) (by rfl) (by decide) ?_
                  refine r_iload E (q := 316) 8 dX6_stands_314 rfl rfl ?_
                  refine r_join 359 (if (if G 10 (ix x) = 1 then 1 else 0 : Int32) = 0 then 0 else (if G 10 (ix (G 11 (ix x))) = 4 then (if fX6_isOf (G 7 (ix (if G 10 (ix x) = 1 then (G 14 (ix x)) else (if G 10 (ix x) = 2 then (G 14 (ix x)) else (-1))))) (G 14 (ix (G 11 (ix x)))) = 0 then 0 else (if G 8 (ix (if G 10 (ix x) = 1 then (G 14 (ix x)) else (if G 10 (ix x) = 2 then (G 14 (ix x)) else (-1)))) = 0 then 1 else 0)) else 0)) (rest := []) ?_ (fun hj7 => ?_)
                  · exact r_zret E T (b01 (Or.inl rfl) (b01 (b01 (Or.inl rfl) (b01 (Or.inr rfl) (Or.inl rfl))) (Or.inl rfl))) dX6_stands_359 (eqI.mk (by unfold fX6_stands; exact ((if_neg c1).trans ((if_neg c7).trans ((if_neg c12).trans ((if_neg c16).trans (if_pos c21))))).symm) rfl)
                  · refine r_if_eq E (q := 319) 358 dX6_stands_316 (by decide) rfl (fun c22 => ?_) (fun c22 => ?_)
                    · refine r_iconst E (q := 359) (v := 0) dX6_stands_358 (by decide) rfl ?_
                      exact hj7 _ (if_pos c22).symm
                    · refine r_iload E (q := 321) 4 dX6_stands_319 rfl rfl ?_
                      refine r_iconst E (q := 322) (v := 4) dX6_stands_321 (by decide) rfl ?_
                      refine r_icmp_ne E (q := 325) 358 dX6_stands_322 (by decide) rfl (fun c23 => ?_) (fun c23 => ?_)
                      · refine r_iconst E (q := 359) (v := 0) dX6_stands_358 (by decide) rfl ?_
                        exact hj7 _ ((if_neg c22).trans (if_neg c23)).symm
                      · refine r_aload_n E (q := 326) 0 dX6_stands_325 rfl rfl rfl ?_
                        refine r_get E (q := 329) fX6_28 0 wm_0 rfl dX6_stands_326 rfl ?_
                        refine r_iload E (q := 331) 6 dX6_stands_329 rfl rfl ?_
                        refine r_iald E (q := 332) 7 wm_7 (by first | assumption | exact hc (by assumption) | exact (h5 (by assumption) (by assumption)).1 | exact (h5 (by assumption) (by assumption)).2 | exact g_in1 (by assumption) hg | exact g_in2 (by assumption) hg | exact g_in2 (by assumption) (hf (by assumption)) | exact g_inF (by assumption) (hf (by assumption))) dX6_stands_331 rfl ?_
                        refine r_aload_n E (q := 333) 0 dX6_stands_332 rfl rfl rfl ?_
                        refine r_get E (q := 336) fX6_50 0 wm_0 rfl dX6_stands_333 rfl ?_
                        refine r_iload_n E (q := 337) 3 dX6_stands_336 rfl rfl rfl ?_
                        refine r_iald E (q := 338) 14 wm_14 (by first | assumption | exact hc (by assumption) | exact (h5 (by assumption) (by assumption)).1 | exact (h5 (by assumption) (by assumption)).2 | exact g_in1 (by assumption) hg | exact g_in2 (by assumption) hg | exact g_in2 (by assumption) (hf (by assumption)) | exact g_inF (by assumption) (hf (by assumption))) dX6_stands_337 rfl ?_
                        refine rSi E (q := 341) csX6_238 T.rr [.int (G 7 (ix (if G 10 (ix x) = 1 then (G 14 (ix x)) else (if G 10 (ix x) = 2 then (G 14 (ix x)) else (-1))))), .int (G 14 (ix (G 11 (ix x))))] (c_X6_isOf (G 7 (ix (if G 10 (ix x) = 1 then (G 14 (ix x)) else (if G 10 (ix x) = 2 then (G 14 (ix x)) else (-1))))) (G 14 (ix (G 11 (ix x))))) (by decide) rfl rfl (Nat.le_of_ble_eq_true rfl) ⟨(Nat.le_of_ble_eq_true rfl), (Nat.le_of_ble_eq_true rfl)⟩ dX6_stands_338 rfl ?_
                        refine r_if_eq E (q := 344) 358 dX6_stands_341 (by decide) rfl (fun c24 => ?_) (fun c24 => ?_)
                        · refine r_iconst E (q := 359) (v := 0) dX6_stands_358 (by decide) rfl ?_
                          exact hj7 _ ((if_neg c22).trans ((if_pos c23).trans (if_pos c24))).symm
                        · refine r_aload_n E (q := 345) 0 dX6_stands_344 rfl rfl rfl ?_
                          refine r_get E (q := 348) fX6_31 0 wm_0 rfl dX6_stands_345 rfl ?_
                          refine r_iload E (q := 350) 6 dX6_stands_348 rfl rfl ?_
                          refine r_zald E (q := 351) 8 wm_8 (by first | assumption | exact hc (by assumption) | exact (h5 (by assumption) (by assumption)).1 | exact (h5 (by assumption) (by assumption)).2 | exact g_in1 (by assumption) hg | exact g_in2 (by assumption) hg | exact g_in2 (by assumption) (hf (by assumption)) | exact g_inF (by assumption) (hf (by assumption))) dX6_stands_350 rfl ?_
                          refine r_if_ne E (q := 354) 358 dX6_stands_351 (by decide) rfl (fun c25 => ?_) (fun c25 => ?_)
                          · refine r_iconst E (q := 359) (v := 0) dX6_stands_358 (by decide) rfl ?_
                            exact hj7 _ ((if_neg c22).trans ((if_pos c23).trans ((if_neg c24).trans (if_neg c25)))).symm
                          · refine r_iconst E (q := 355) (v := 1) dX6_stands_354 (by decide) rfl ?_
                            refine r_goto E 359 dX6_stands_355 (by decide) ?_
                            exact hj7 _ ((if_neg c22).trans ((if_pos c23).trans ((if_neg c24).trans (if_pos c25)))).symm
                · by_cases c26 : rule = 4
                  · refine r_tabIn E 4 c26 360 dX6_stands_104 (by decide) (by rfl) (by decide) ?_
                    refine r_iload E (q := 362) 8 dX6_stands_360 rfl rfl ?_
                    refine r_join 400 (if (if G 10 (ix x) = 1 then 1 else 0 : Int32) = 0 then 0 else (if G 10 (ix (G 11 (ix x))) = 5 then (if G 8 (ix (if G 10 (ix x) = 1 then (G 14 (ix x)) else (if G 10 (ix x) = 2 then (G 14 (ix x)) else (-1)))) = 0 then 1 else (if G 16 (ix (G 12 (ix (G 11 (ix x))))) = 0 then 1 else 0)) else 0)) (rest := []) ?_ (fun hj8 => ?_)
                    · exact r_zret E T (b01 (Or.inl rfl) (b01 (b01 (Or.inr rfl) (b01 (Or.inr rfl) (Or.inl rfl))) (Or.inl rfl))) dX6_stands_400 (eqI.mk (by unfold fX6_stands; exact ((if_neg c1).trans ((if_neg c7).trans ((if_neg c12).trans ((if_neg c16).trans ((if_neg c21).trans (if_pos c26)))))).symm) rfl)
                    · refine r_if_eq E (q := 365) 399 dX6_stands_362 (by decide) rfl (fun c27 => ?_) (fun c27 => ?_)
                      · refine r_iconst E (q := 400) (v := 0) dX6_stands_399 (by decide) rfl ?_
                        exact hj8 _ (if_pos c27).symm
                      · refine r_iload E (q := 367) 4 dX6_stands_365 rfl rfl ?_
                        refine r_iconst E (q := 368) (v := 5) dX6_stands_367 (by decide) rfl ?_
                        refine r_icmp_ne E (q := 371) 399 dX6_stands_368 (by decide) rfl (fun c28 => ?_) (fun c28 => ?_)
                        · refine r_iconst E (q := 400) (v := 0) dX6_stands_399 (by decide) rfl ?_
                          exact hj8 _ ((if_neg c27).trans (if_neg c28)).symm
                        · refine r_aload_n E (q := 372) 0 dX6_stands_371 rfl rfl rfl ?_
                          refine r_get E (q := 375) fX6_31 0 wm_0 rfl dX6_stands_372 rfl ?_
                          refine r_iload E (q := 377) 6 dX6_stands_375 rfl rfl ?_
                          refine r_zald E (q := 378) 8 wm_8 (by first | assumption | exact hc (by assumption) | exact (h5 (by assumption) (by assumption)).1 | exact (h5 (by assumption) (by assumption)).2 | exact g_in1 (by assumption) hg | exact g_in2 (by assumption) hg | exact g_in2 (by assumption) (hf (by assumption)) | exact g_inF (by assumption) (hf (by assumption))) dX6_stands_377 rfl ?_
                          refine r_if_eq E (q := 381) 395 dX6_stands_378 (by decide) rfl (fun c29 => ?_) (fun c29 => ?_)
                          · refine r_iconst E (q := 396) (v := 1) dX6_stands_395 (by decide) rfl ?_
                            refine r_goto E 400 dX6_stands_396 (by decide) ?_
                            exact hj8 _ ((if_neg c27).trans ((if_pos c28).trans (if_pos c29))).symm
                          · refine r_aload_n E (q := 382) 0 dX6_stands_381 rfl rfl rfl ?_
                            refine r_get E (q := 385) fX6_56 0 wm_0 rfl dX6_stands_382 rfl ?_
                            refine r_aload_n E (q := 386) 0 dX6_stands_385 rfl rfl rfl ?_
                            refine r_get E (q := 389) fX6_44 0 wm_0 rfl dX6_stands_386 rfl ?_
                            refine r_iload_n E (q := 390) 3 dX6_stands_389 rfl rfl rfl ?_
                            refine r_iald E (q := 391) 12 wm_12 (by first | assumption | exact hc (by assumption) | exact (h5 (by assumption) (by assumption)).1 | exact (h5 (by assumption) (by assumption)).2 | exact g_in1 (by assumption) hg | exact g_in2 (by assumption) hg | exact g_in2 (by assumption) (hf (by assumption)) | exact g_inF (by assumption) (hf (by assumption))) dX6_stands_390 rfl ?_
                            refine r_zald E (q := 392) 16 wm_16 (by first | assumption | exact hc (by assumption) | exact (h5 (by assumption) (by assumption)).1 | exact (h5 (by assumption) (by assumption)).2 | exact g_in1 (by assumption) hg | exact g_in2 (by assumption) hg | exact g_in2 (by assumption) (hf (by assumption)) | exact g_inF (by assumption) (hf (by assumption))) dX6_stands_391 rfl ?_
                            refine r_if_ne E (q := 395) 399 dX6_stands_392 (by decide) rfl (fun c30 => ?_) (fun c30 => ?_)
                            · refine r_iconst E (q := 400) (v := 0) dX6_stands_399 (by decide) rfl ?_
                              exact hj8 _ ((if_neg c27).trans ((if_pos c28).trans ((if_neg c29).trans (if_neg c30)))).symm
                            · refine r_iconst E (q := 396) (v := 1) dX6_stands_395 (by decide) rfl ?_
                              refine r_goto E 400 dX6_stands_396 (by decide) ?_
                              exact hj8 _ ((if_neg c27).trans ((if_pos c28).trans ((if_neg c29).trans (if_pos c30)))).symm
                  · by_cases c31 : rule = 5
                    · refine r_tabIn E 5 c31 401 dX6_stands_104 (by decide) (by rfl) (by decide) ?_
                      refine r_iload E (q := 403) 8 dX6_stands_401 rfl rfl ?_
                      refine r_join 449 (if (if G 10 (ix x) = 1 then 1 else 0 : Int32) = 0 then 0 else (if G 10 (ix (G 11 (ix x))) = 6 then (if fX6_isOf (G 7 (ix (if G 10 (ix x) = 1 then (G 14 (ix x)) else (if G 10 (ix x) = 2 then (G 14 (ix x)) else (-1))))) (1 <<< ((G 13 (ix (G 11 (ix x)))) &&& 31)) = 0 then 0 else (if G 8 (ix (if G 10 (ix x) = 1 then (G 14 (ix x)) else (if G 10 (ix x) = 2 then (G 14 (ix x)) else (-1)))) = 0 then 1 else 0)) else 0)) (rest := []) ?_ (fun hj9 => ?_)
                      · exact r_zret E T (b01 (Or.inl rfl) (b01 (b01 (Or.inl rfl) (b01 (Or.inr rfl) (Or.inl rfl))) (Or.inl rfl))) dX6_stands_449 (eqI.mk (by unfold fX6_stands; exact ((if_neg c1).trans ((if_neg c7).trans ((if_neg c12).trans ((if_neg c16).trans ((if_neg c21).trans ((if_neg c26).trans (if_pos c31))))))).symm) rfl)
                      · refine r_if_eq E (q := 406) 448 dX6_stands_403 (by decide) rfl (fun c32 => ?_) (fun c32 => ?_)
                        · refine r_iconst E (q := 449) (v := 0) dX6_stands_448 (by decide) rfl ?_
                          exact hj9 _ (if_pos c32).symm
                        · refine r_iload E (q := 408) 4 dX6_stands_406 rfl rfl ?_
                          refine r_bipush E (q := 410) (v := 6) dX6_stands_408 (by decide) rfl ?_
                          refine r_icmp_ne E (q := 413) 448 dX6_stands_410 (by decide) rfl (fun c33 => ?_) (fun c33 => ?_)
                          · refine r_iconst E (q := 449) (v := 0) dX6_stands_448 (by decide) rfl ?_
                            exact hj9 _ ((if_neg c32).trans (if_neg c33)).symm
                          · refine r_aload_n E (q := 414) 0 dX6_stands_413 rfl rfl rfl ?_
                            refine r_get E (q := 417) fX6_28 0 wm_0 rfl dX6_stands_414 rfl ?_
                            refine r_iload E (q := 419) 6 dX6_stands_417 rfl rfl ?_
                            refine r_iald E (q := 420) 7 wm_7 (by first | assumption | exact hc (by assumption) | exact (h5 (by assumption) (by assumption)).1 | exact (h5 (by assumption) (by assumption)).2 | exact g_in1 (by assumption) hg | exact g_in2 (by assumption) hg | exact g_in2 (by assumption) (hf (by assumption)) | exact g_inF (by assumption) (hf (by assumption))) dX6_stands_419 rfl ?_
                            refine r_iconst E (q := 421) (v := 1) dX6_stands_420 (by decide) rfl ?_
                            refine r_aload_n E (q := 422) 0 dX6_stands_421 rfl rfl rfl ?_
                            refine r_get E (q := 425) fX6_47 0 wm_0 rfl dX6_stands_422 rfl ?_
                            refine r_iload_n E (q := 426) 3 dX6_stands_425 rfl rfl rfl ?_
                            refine r_iald E (q := 427) 13 wm_13 (by first | assumption | exact hc (by assumption) | exact (h5 (by assumption) (by assumption)).1 | exact (h5 (by assumption) (by assumption)).2 | exact g_in1 (by assumption) hg | exact g_in2 (by assumption) hg | exact g_in2 (by assumption) (hf (by assumption)) | exact g_inF (by assumption) (hf (by assumption))) dX6_stands_426 rfl ?_
                            refine r_ishl E (q := 428) dX6_stands_427 rfl ?_
                            refine rSi E (q := 431) csX6_238 T.rr [.int (G 7 (ix (if G 10 (ix x) = 1 then (G 14 (ix x)) else (if G 10 (ix x) = 2 then (G 14 (ix x)) else (-1))))), .int (1 <<< ((G 13 (ix (G 11 (ix x)))) &&& 31))] (c_X6_isOf (G 7 (ix (if G 10 (ix x) = 1 then (G 14 (ix x)) else (if G 10 (ix x) = 2 then (G 14 (ix x)) else (-1))))) (1 <<< ((G 13 (ix (G 11 (ix x)))) &&& 31))) (by decide) rfl rfl (Nat.le_of_ble_eq_true rfl) ⟨(Nat.le_of_ble_eq_true rfl), (Nat.le_of_ble_eq_true rfl)⟩ dX6_stands_428 rfl ?_
                            refine r_if_eq E (q := 434) 448 dX6_stands_431 (by decide) rfl (fun c34 => ?_) (fun c34 => ?_)
                            · refine r_iconst E (q := 449) (v := 0) dX6_stands_448 (by decide) rfl ?_
                              exact hj9 _ ((if_neg c32).trans ((if_pos c33).trans (if_pos c34))).symm
                            · refine r_aload_n E (q := 435) 0 dX6_stands_434 rfl rfl rfl ?_
                              refine r_get E (q := 438) fX6_31 0 wm_0 rfl dX6_stands_435 rfl ?_
                              refine r_iload E (q := 440) 6 dX6_stands_438 rfl rfl ?_
                              refine r_zald E (q := 441) 8 wm_8 (by first | assumption | exact hc (by assumption) | exact (h5 (by assumption) (by assumption)).1 | exact (h5 (by assumption) (by assumption)).2 | exact g_in1 (by assumption) hg | exact g_in2 (by assumption) hg | exact g_in2 (by assumption) (hf (by assumption)) | exact g_inF (by assumption) (hf (by assumption))) dX6_stands_440 rfl ?_
                              refine r_if_ne E (q := 444) 448 dX6_stands_441 (by decide) rfl (fun c35 => ?_) (fun c35 => ?_)
                              · refine r_iconst E (q := 449) (v := 0) dX6_stands_448 (by decide) rfl ?_
                                exact hj9 _ ((if_neg c32).trans ((if_pos c33).trans ((if_neg c34).trans (if_neg c35)))).symm
                              · refine r_iconst E (q := 445) (v := 1) dX6_stands_444 (by decide) rfl ?_
                                refine r_goto E 449 dX6_stands_445 (by decide) ?_
                                exact hj9 _ ((if_neg c32).trans ((if_pos c33).trans ((if_neg c34).trans (if_pos c35)))).symm
                    · by_cases c36 : rule = 6
                      · refine r_tabIn E 6 c36 450 dX6_stands_104 (by decide) (by rfl) (by decide) ?_
                        refine r_iload E (q := 452) 8 dX6_stands_450 rfl rfl ?_
                        refine r_join 467 (if (if G 10 (ix x) = 1 then 1 else 0 : Int32) = 0 then 0 else (if G 10 (ix (G 11 (ix x))) = 7 then 1 else 0)) (rest := []) ?_ (fun hj10 => ?_)
                        · exact r_zret E T (b01 (Or.inl rfl) (b01 (Or.inr rfl) (Or.inl rfl))) dX6_stands_467 (eqI.mk (by unfold fX6_stands; exact ((if_neg c1).trans ((if_neg c7).trans ((if_neg c12).trans ((if_neg c16).trans ((if_neg c21).trans ((if_neg c26).trans ((if_neg c31).trans (if_pos c36)))))))).symm) rfl)
                        · refine r_if_eq E (q := 455) 466 dX6_stands_452 (by decide) rfl (fun c37 => ?_) (fun c37 => ?_)
                          · refine r_iconst E (q := 467) (v := 0) dX6_stands_466 (by decide) rfl ?_
                            exact hj10 _ (if_pos c37).symm
                          · refine r_iload E (q := 457) 4 dX6_stands_455 rfl rfl ?_
                            refine r_bipush E (q := 459) (v := 7) dX6_stands_457 (by decide) rfl ?_
                            refine r_icmp_ne E (q := 462) 466 dX6_stands_459 (by decide) rfl (fun c38 => ?_) (fun c38 => ?_)
                            · refine r_iconst E (q := 467) (v := 0) dX6_stands_466 (by decide) rfl ?_
                              exact hj10 _ ((if_neg c37).trans (if_neg c38)).symm
                            · refine r_iconst E (q := 463) (v := 1) dX6_stands_462 (by decide) rfl ?_
                              refine r_goto E 467 dX6_stands_463 (by decide) ?_
                              exact hj10 _ ((if_neg c37).trans (if_pos c38)).symm
                      · by_cases c39 : rule = 7
                        · refine r_tabIn E 7 c39 468 dX6_stands_104 (by decide) (by rfl) (by decide) ?_
                          refine r_iload E (q := 470) 8 dX6_stands_468 rfl rfl ?_
                          refine r_join 504 (if (if G 10 (ix x) = 1 then 1 else 0 : Int32) = 0 then 0 else (if G 10 (ix (G 11 (ix x))) = 1 then (if G 8 (ix (if G 10 (ix (G 11 (ix x))) = 1 then (G 14 (ix (G 11 (ix x)))) else (if G 10 (ix (G 11 (ix x))) = 2 then (G 14 (ix (G 11 (ix x)))) else (-1)))) = 0 then 1 else (if G 8 (ix (if G 10 (ix x) = 1 then (G 14 (ix x)) else (if G 10 (ix x) = 2 then (G 14 (ix x)) else (-1)))) = 0 then 1 else 0)) else 0)) (rest := []) ?_ (fun hj11 => ?_)
                          · exact r_zret E T (b01 (Or.inl rfl) (b01 (b01 (Or.inr rfl) (b01 (Or.inr rfl) (Or.inl rfl))) (Or.inl rfl))) dX6_stands_504 (eqI.mk (by unfold fX6_stands; exact ((if_neg c1).trans ((if_neg c7).trans ((if_neg c12).trans ((if_neg c16).trans ((if_neg c21).trans ((if_neg c26).trans ((if_neg c31).trans ((if_neg c36).trans (if_pos c39))))))))).symm) rfl)
                          · refine r_if_eq E (q := 473) 503 dX6_stands_470 (by decide) rfl (fun c40 => ?_) (fun c40 => ?_)
                            · refine r_iconst E (q := 504) (v := 0) dX6_stands_503 (by decide) rfl ?_
                              exact hj11 _ (if_pos c40).symm
                            · refine r_iload E (q := 475) 4 dX6_stands_473 rfl rfl ?_
                              refine r_iconst E (q := 476) (v := 1) dX6_stands_475 (by decide) rfl ?_
                              refine r_icmp_ne E (q := 479) 503 dX6_stands_476 (by decide) rfl (fun c41 => ?_) (fun c41 => ?_)
                              · refine r_iconst E (q := 504) (v := 0) dX6_stands_503 (by decide) rfl ?_
                                exact hj11 _ ((if_neg c40).trans (if_neg c41)).symm
                              · refine r_aload_n E (q := 480) 0 dX6_stands_479 rfl rfl rfl ?_
                                refine r_get E (q := 483) fX6_31 0 wm_0 rfl dX6_stands_480 rfl ?_
                                refine r_iload E (q := 485) 7 dX6_stands_483 rfl rfl ?_
                                refine r_zald E (q := 486) 8 wm_8 (by first | assumption | exact hc (by assumption) | exact (h5 (by assumption) (by assumption)).1 | exact (h5 (by assumption) (by assumption)).2 | exact g_in1 (by assumption) hg | exact g_in2 (by assumption) hg | exact g_in2 (by assumption) (hf (by assumption)) | exact g_inF (by assumption) (hf (by assumption))) dX6_stands_485 rfl ?_
                                refine r_if_eq E (q := 489) 499 dX6_stands_486 (by decide) rfl (fun c42 => ?_) (fun c42 => ?_)
                                · refine r_iconst E (q := 500) (v := 1) dX6_stands_499 (by decide) rfl ?_
                                  refine r_goto E 504 dX6_stands_500 (by decide) ?_
                                  exact hj11 _ ((if_neg c40).trans ((if_pos c41).trans (if_pos c42))).symm
                                · refine r_aload_n E (q := 490) 0 dX6_stands_489 rfl rfl rfl ?_
                                  refine r_get E (q := 493) fX6_31 0 wm_0 rfl dX6_stands_490 rfl ?_
                                  refine r_iload E (q := 495) 6 dX6_stands_493 rfl rfl ?_
                                  refine r_zald E (q := 496) 8 wm_8 (by first | assumption | exact hc (by assumption) | exact (h5 (by assumption) (by assumption)).1 | exact (h5 (by assumption) (by assumption)).2 | exact g_in1 (by assumption) hg | exact g_in2 (by assumption) hg | exact g_in2 (by assumption) (hf (by assumption)) | exact g_inF (by assumption) (hf (by assumption))) dX6_stands_495 rfl ?_
                                  refine r_if_ne E (q := 499) 503 dX6_stands_496 (by decide) rfl (fun c43 => ?_) (fun c43 => ?_)
                                  · refine r_iconst E (q := 504) (v := 0) dX6_stands_503 (by decide) rfl ?_
                                    exact hj11 _ ((if_neg c40).trans ((if_pos c41).trans ((if_neg c42).trans (if_neg c43)))).symm
                                  · refine r_iconst E (q := 500) (v := 1) dX6_stands_499 (by decide) rfl ?_
                                    refine r_goto E 504 dX6_stands_500 (by decide) ?_
                                    exact hj11 _ ((if_neg c40).trans ((if_pos c41).trans ((if_neg c42).trans (if_pos c43)))).symm
                        · by_cases c44 : rule = 8
                          · refine r_tabIn E 8 c44 505 dX6_stands_104 (by decide) (by rfl) (by decide) ?_
                            refine r_aload_n E (q := 506) 0 dX6_stands_505 rfl rfl rfl ?_
                            refine r_get E (q := 509) fX6_38 0 wm_0 rfl dX6_stands_506 rfl ?_
                            refine r_iload_n E (q := 510) 1 dX6_stands_509 rfl rfl rfl ?_
                            refine r_iald E (q := 511) 10 wm_10 (by first | assumption | exact hc (by assumption) | exact (h5 (by assumption) (by assumption)).1 | exact (h5 (by assumption) (by assumption)).2 | exact g_in1 (by assumption) hg | exact g_in2 (by assumption) hg | exact g_in2 (by assumption) (hf (by assumption)) | exact g_inF (by assumption) (hf (by assumption))) dX6_stands_510 rfl ?_
                            refine r_iconst E (q := 512) (v := 2) dX6_stands_511 (by decide) rfl ?_
                            refine r_join 570 (if G 10 (ix x) = 2 then (if G 10 (ix (G 11 (ix x))) = 2 then (if G 13 (ix x) = G 13 (ix (G 11 (ix x))) then (if ((G 7 (ix (if G 10 (ix x) = 1 then (G 14 (ix x)) else (if G 10 (ix x) = 2 then (G 14 (ix x)) else (-1))))) >>> ((G 13 (ix x)) &&& 31)) &&& 1 = 0 then (if G 8 (ix (if G 10 (ix (G 11 (ix x))) = 1 then (G 14 (ix (G 11 (ix x)))) else (if G 10 (ix (G 11 (ix x))) = 2 then (G 14 (ix (G 11 (ix x)))) else (-1)))) = 0 then 1 else 0) else 0) else 0) else 0) else 0) (rest := []) ?_ (fun hj12 => ?_)
                            · exact r_zret E T (b01 (b01 (b01 (b01 (b01 (Or.inr rfl) (Or.inl rfl)) (Or.inl rfl)) (Or.inl rfl)) (Or.inl rfl)) (Or.inl rfl)) dX6_stands_570 (eqI.mk (by unfold fX6_stands; exact ((if_neg c1).trans ((if_neg c7).trans ((if_neg c12).trans ((if_neg c16).trans ((if_neg c21).trans ((if_neg c26).trans ((if_neg c31).trans ((if_neg c36).trans ((if_neg c39).trans (if_pos c44)))))))))).symm) rfl)
                            · refine r_icmp_ne E (q := 515) 569 dX6_stands_512 (by decide) rfl (fun c45 => ?_) (fun c45 => ?_)
                              · refine r_iconst E (q := 570) (v := 0) dX6_stands_569 (by decide) rfl ?_
                                exact hj12 _ (if_neg c45).symm
                              · refine r_iload E (q := 517) 4 dX6_stands_515 rfl rfl ?_
                                refine r_iconst E (q := 518) (v := 2) dX6_stands_517 (by decide) rfl ?_
                                refine r_icmp_ne E (q := 521) 569 dX6_stands_518 (by decide) rfl (fun c46 => ?_) (fun c46 => ?_)
                                · refine r_iconst E (q := 570) (v := 0) dX6_stands_569 (by decide) rfl ?_
                                  exact hj12 _ ((if_pos c45).trans (if_neg c46)).symm
                                · refine r_aload_n E (q := 522) 0 dX6_stands_521 rfl rfl rfl ?_
                                  refine r_get E (q := 525) fX6_47 0 wm_0 rfl dX6_stands_522 rfl ?_
                                  refine r_iload_n E (q := 526) 1 dX6_stands_525 rfl rfl rfl ?_
                                  refine r_iald E (q := 527) 13 wm_13 (by first | assumption | exact hc (by assumption) | exact (h5 (by assumption) (by assumption)).1 | exact (h5 (by assumption) (by assumption)).2 | exact g_in1 (by assumption) hg | exact g_in2 (by assumption) hg | exact g_in2 (by assumption) (hf (by assumption)) | exact g_inF (by assumption) (hf (by assumption))) dX6_stands_526 rfl ?_
                                  refine r_aload_n E (q := 528) 0 dX6_stands_527 rfl rfl rfl ?_
                                  refine r_get E (q := 531) fX6_47 0 wm_0 rfl dX6_stands_528 rfl ?_
                                  refine r_iload_n E (q := 532) 3 dX6_stands_531 rfl rfl rfl ?_
                                  refine r_iald E (q := 533) 13 wm_13 (by first | assumption | exact hc (by assumption) | exact (h5 (by assumption) (by assumption)).1 | exact (h5 (by assumption) (by assumption)).2 | exact g_in1 (by assumption) hg | exact g_in2 (by assumption) hg | exact g_in2 (by assumption) (hf (by assumption)) | exact g_inF (by assumption) (hf (by assumption))) dX6_stands_532 rfl ?_
                                  refine r_icmp_ne E (q := 536) 569 dX6_stands_533 (by decide) rfl (fun c47 => ?_) (fun c47 => ?_)
                                  · refine r_iconst E (q := 570) (v := 0) dX6_stands_569 (by decide) rfl ?_
                                    exact hj12 _ ((if_pos c45).trans ((if_pos c46).trans (if_neg c47))).symm
                                  · refine r_aload_n E (q := 537) 0 dX6_stands_536 rfl rfl rfl ?_
                                    refine r_get E (q := 540) fX6_28 0 wm_0 rfl dX6_stands_537 rfl ?_
                                    refine r_iload E (q := 542) 6 dX6_stands_540 rfl rfl ?_
                                    refine r_iald E (q := 543) 7 wm_7 (by first | assumption | exact hc (by assumption) | exact (h5 (by assumption) (by assumption)).1 | exact (h5 (by assumption) (by assumption)).2 | exact g_in1 (by assumption) hg | exact g_in2 (by assumption) hg | exact g_in2 (by assumption) (hf (by assumption)) | exact g_inF (by assumption) (hf (by assumption))) dX6_stands_542 rfl ?_
                                    refine r_aload_n E (q := 544) 0 dX6_stands_543 rfl rfl rfl ?_
                                    refine r_get E (q := 547) fX6_47 0 wm_0 rfl dX6_stands_544 rfl ?_
                                    refine r_iload_n E (q := 548) 1 dX6_stands_547 rfl rfl rfl ?_
                                    refine r_iald E (q := 549) 13 wm_13 (by first | assumption | exact hc (by assumption) | exact (h5 (by assumption) (by assumption)).1 | exact (h5 (by assumption) (by assumption)).2 | exact g_in1 (by assumption) hg | exact g_in2 (by assumption) hg | exact g_in2 (by assumption) (hf (by assumption)) | exact g_inF (by assumption) (hf (by assumption))) dX6_stands_548 rfl ?_
                                    refine r_ishr E (q := 550) dX6_stands_549 rfl ?_
                                    refine r_iconst E (q := 551) (v := 1) dX6_stands_550 (by decide) rfl ?_
                                    refine r_iand E (q := 552) dX6_stands_551 rfl ?_
                                    refine r_if_ne E (q := 555) 569 dX6_stands_552 (by decide) rfl (fun c48 => ?_) (fun c48 => ?_)
                                    · refine r_iconst E (q := 570) (v := 0) dX6_stands_569 (by decide) rfl ?_
                                      exact hj12 _ ((if_pos c45).trans ((if_pos c46).trans ((if_pos c47).trans (if_neg c48)))).symm
                                    · refine r_aload_n E (q := 556) 0 dX6_stands_555 rfl rfl rfl ?_
                                      refine r_get E (q := 559) fX6_31 0 wm_0 rfl dX6_stands_556 rfl ?_
                                      refine r_iload E (q := 561) 7 dX6_stands_559 rfl rfl ?_
                                      refine r_zald E (q := 562) 8 wm_8 (by first | assumption | exact hc (by assumption) | exact (h5 (by assumption) (by assumption)).1 | exact (h5 (by assumption) (by assumption)).2 | exact g_in1 (by assumption) hg | exact g_in2 (by assumption) hg | exact g_in2 (by assumption) (hf (by assumption)) | exact g_inF (by assumption) (hf (by assumption))) dX6_stands_561 rfl ?_
                                      refine r_if_ne E (q := 565) 569 dX6_stands_562 (by decide) rfl (fun c49 => ?_) (fun c49 => ?_)
                                      · refine r_iconst E (q := 570) (v := 0) dX6_stands_569 (by decide) rfl ?_
                                        exact hj12 _ ((if_pos c45).trans ((if_pos c46).trans ((if_pos c47).trans ((if_pos c48).trans (if_neg c49))))).symm
                                      · refine r_iconst E (q := 566) (v := 1) dX6_stands_565 (by decide) rfl ?_
                                        refine r_goto E 570 dX6_stands_566 (by decide) ?_
                                        exact hj12 _ ((if_pos c45).trans ((if_pos c46).trans ((if_pos c47).trans ((if_pos c48).trans (if_pos c49))))).symm
                          · by_cases c50 : rule = 9
                            · refine r_tabIn E 9 c50 571 dX6_stands_104 (by decide) (by rfl) (by decide) ?_
                              refine r_aload_n E (q := 572) 0 dX6_stands_571 rfl rfl rfl ?_
                              refine r_get E (q := 575) fX6_38 0 wm_0 rfl dX6_stands_572 rfl ?_
                              refine r_iload_n E (q := 576) 1 dX6_stands_575 rfl rfl rfl ?_
                              refine r_iald E (q := 577) 10 wm_10 (by first | assumption | exact hc (by assumption) | exact (h5 (by assumption) (by assumption)).1 | exact (h5 (by assumption) (by assumption)).2 | exact g_in1 (by assumption) hg | exact g_in2 (by assumption) hg | exact g_in2 (by assumption) (hf (by assumption)) | exact g_inF (by assumption) (hf (by assumption))) dX6_stands_576 rfl ?_
                              refine r_iconst E (q := 578) (v := 3) dX6_stands_577 (by decide) rfl ?_
                              refine r_join 592 (if G 10 (ix x) = 3 then (if G 10 (ix (G 11 (ix x))) = 3 then 1 else 0) else 0) (rest := []) ?_ (fun hj13 => ?_)
                              · exact r_zret E T (b01 (b01 (Or.inr rfl) (Or.inl rfl)) (Or.inl rfl)) dX6_stands_592 (eqI.mk (by unfold fX6_stands; exact ((if_neg c1).trans ((if_neg c7).trans ((if_neg c12).trans ((if_neg c16).trans ((if_neg c21).trans ((if_neg c26).trans ((if_neg c31).trans ((if_neg c36).trans ((if_neg c39).trans ((if_neg c44).trans (if_pos c50))))))))))).symm) rfl)
                              · refine r_icmp_ne E (q := 581) 591 dX6_stands_578 (by decide) rfl (fun c51 => ?_) (fun c51 => ?_)
                                · refine r_iconst E (q := 592) (v := 0) dX6_stands_591 (by decide) rfl ?_
                                  exact hj13 _ (if_neg c51).symm
                                · refine r_iload E (q := 583) 4 dX6_stands_581 rfl rfl ?_
                                  refine r_iconst E (q := 584) (v := 3) dX6_stands_583 (by decide) rfl ?_
                                  refine r_icmp_ne E (q := 587) 591 dX6_stands_584 (by decide) rfl (fun c52 => ?_) (fun c52 => ?_)
                                  · refine r_iconst E (q := 592) (v := 0) dX6_stands_591 (by decide) rfl ?_
                                    exact hj13 _ ((if_pos c51).trans (if_neg c52)).symm
                                  · refine r_iconst E (q := 588) (v := 1) dX6_stands_587 (by decide) rfl ?_
                                    refine r_goto E 592 dX6_stands_588 (by decide) ?_
                                    exact hj13 _ ((if_pos c51).trans (if_pos c52)).symm
                            · by_cases c53 : rule = 10
                              · refine r_tabIn E 10 c53 593 dX6_stands_104 (by decide) (by rfl) (by decide) ?_
                                refine r_aload_n E (q := 594) 0 dX6_stands_593 rfl rfl rfl ?_
                                refine r_get E (q := 597) fX6_38 0 wm_0 rfl dX6_stands_594 rfl ?_
                                refine r_iload_n E (q := 598) 1 dX6_stands_597 rfl rfl rfl ?_
                                refine r_iald E (q := 599) 10 wm_10 (by first | assumption | exact hc (by assumption) | exact (h5 (by assumption) (by assumption)).1 | exact (h5 (by assumption) (by assumption)).2 | exact g_in1 (by assumption) hg | exact g_in2 (by assumption) hg | exact g_in2 (by assumption) (hf (by assumption)) | exact g_inF (by assumption) (hf (by assumption))) dX6_stands_598 rfl ?_
                                refine r_iconst E (q := 600) (v := 3) dX6_stands_599 (by decide) rfl ?_
                                refine r_join 638 (if G 10 (ix x) = 3 then (if G 10 (ix (G 11 (ix x))) = 2 then (if ((G 14 (ix x)) >>> ((G 13 (ix (G 11 (ix x)))) &&& 31)) &&& 1 = 0 then (if G 8 (ix (if G 10 (ix (G 11 (ix x))) = 1 then (G 14 (ix (G 11 (ix x)))) else (if G 10 (ix (G 11 (ix x))) = 2 then (G 14 (ix (G 11 (ix x)))) else (-1)))) = 0 then 1 else 0) else 0) else 0) else 0) (rest := []) ?_ (fun hj14 => ?_)
                                · exact r_zret E T (b01 (b01 (b01 (b01 (Or.inr rfl) (Or.inl rfl)) (Or.inl rfl)) (Or.inl rfl)) (Or.inl rfl)) dX6_stands_638 (eqI.mk (by unfold fX6_stands; exact ((if_neg c1).trans ((if_neg c7).trans ((if_neg c12).trans ((if_neg c16).trans ((if_neg c21).trans ((if_neg c26).trans ((if_neg c31).trans ((if_neg c36).trans ((if_neg c39).trans ((if_neg c44).trans ((if_neg c50).trans (if_pos c53)))))))))))).symm) rfl)
                                · refine r_icmp_ne E (q := 603) 637 dX6_stands_600 (by decide) rfl (fun c54 => ?_) (fun c54 => ?_)
                                  · refine r_iconst E (q := 638) (v := 0) dX6_stands_637 (by decide) rfl ?_
                                    exact hj14 _ (if_neg c54).symm
                                  · refine r_iload E (q := 605) 4 dX6_stands_603 rfl rfl ?_
                                    refine r_iconst E (q := 606) (v := 2) dX6_stands_605 (by decide) rfl ?_
                                    refine r_icmp_ne E (q := 609) 637 dX6_stands_606 (by decide) rfl (fun c55 => ?_) (fun c55 => ?_)
                                    · refine r_iconst E (q := 638) (v := 0) dX6_stands_637 (by decide) rfl ?_
                                      exact hj14 _ ((if_pos c54).trans (if_neg c55)).symm
                                    · refine r_iload E (q := 611) 5 dX6_stands_609 rfl rfl ?_
                                      refine r_aload_n E (q := 612) 0 dX6_stands_611 rfl rfl rfl ?_
                                      refine r_get E (q := 615) fX6_47 0 wm_0 rfl dX6_stands_612 rfl ?_
                                      refine r_iload_n E (q := 616) 3 dX6_stands_615 rfl rfl rfl ?_
                                      refine r_iald E (q := 617) 13 wm_13 (by first | assumption | exact hc (by assumption) | exact (h5 (by assumption) (by assumption)).1 | exact (h5 (by assumption) (by assumption)).2 | exact g_in1 (by assumption) hg | exact g_in2 (by assumption) hg | exact g_in2 (by assumption) (hf (by assumption)) | exact g_inF (by assumption) (hf (by assumption))) dX6_stands_616 rfl ?_
                                      refine r_ishr E (q := 618) dX6_stands_617 rfl ?_
                                      refine r_iconst E (q := 619) (v := 1) dX6_stands_618 (by decide) rfl ?_
                                      refine r_iand E (q := 620) dX6_stands_619 rfl ?_
                                      refine r_if_ne E (q := 623) 637 dX6_stands_620 (by decide) rfl (fun c56 => ?_) (fun c56 => ?_)
                                      · refine r_iconst E (q := 638) (v := 0) dX6_stands_637 (by decide) rfl ?_
                                        exact hj14 _ ((if_pos c54).trans ((if_pos c55).trans (if_neg c56))).symm
                                      · refine r_aload_n E (q := 624) 0 dX6_stands_623 rfl rfl rfl ?_
                                        refine r_get E (q := 627) fX6_31 0 wm_0 rfl dX6_stands_624 rfl ?_
                                        refine r_iload E (q := 629) 7 dX6_stands_627 rfl rfl ?_
                                        refine r_zald E (q := 630) 8 wm_8 (by first | assumption | exact hc (by assumption) | exact (h5 (by assumption) (by assumption)).1 | exact (h5 (by assumption) (by assumption)).2 | exact g_in1 (by assumption) hg | exact g_in2 (by assumption) hg | exact g_in2 (by assumption) (hf (by assumption)) | exact g_inF (by assumption) (hf (by assumption))) dX6_stands_629 rfl ?_
                                        refine r_if_ne E (q := 633) 637 dX6_stands_630 (by decide) rfl (fun c57 => ?_) (fun c57 => ?_)
                                        · refine r_iconst E (q := 638) (v := 0) dX6_stands_637 (by decide) rfl ?_
                                          exact hj14 _ ((if_pos c54).trans ((if_pos c55).trans ((if_pos c56).trans (if_neg c57)))).symm
                                        · refine r_iconst E (q := 634) (v := 1) dX6_stands_633 (by decide) rfl ?_
                                          refine r_goto E 638 dX6_stands_634 (by decide) ?_
                                          exact hj14 _ ((if_pos c54).trans ((if_pos c55).trans ((if_pos c56).trans (if_pos c57)))).symm
                              · by_cases c58 : rule = 11
                                · refine r_tabIn E 11 c58 639 dX6_stands_104 (by decide) (by rfl) (by decide) ?_
                                  refine r_aload_n E (q := 640) 0 dX6_stands_639 rfl rfl rfl ?_
                                  refine r_get E (q := 643) fX6_38 0 wm_0 rfl dX6_stands_640 rfl ?_
                                  refine r_iload_n E (q := 644) 1 dX6_stands_643 rfl rfl rfl ?_
                                  refine r_iald E (q := 645) 10 wm_10 (by first | assumption | exact hc (by assumption) | exact (h5 (by assumption) (by assumption)).1 | exact (h5 (by assumption) (by assumption)).2 | exact g_in1 (by assumption) hg | exact g_in2 (by assumption) hg | exact g_in2 (by assumption) (hf (by assumption)) | exact g_inF (by assumption) (hf (by assumption))) dX6_stands_644 rfl ?_
                                  refine r_iconst E (q := 646) (v := 3) dX6_stands_645 (by decide) rfl ?_
                                  refine r_join 660 (if G 10 (ix x) = 3 then (if G 10 (ix (G 11 (ix x))) = 5 then 1 else 0) else 0) (rest := []) ?_ (fun hj15 => ?_)
                                  · exact r_zret E T (b01 (b01 (Or.inr rfl) (Or.inl rfl)) (Or.inl rfl)) dX6_stands_660 (eqI.mk (by unfold fX6_stands; exact ((if_neg c1).trans ((if_neg c7).trans ((if_neg c12).trans ((if_neg c16).trans ((if_neg c21).trans ((if_neg c26).trans ((if_neg c31).trans ((if_neg c36).trans ((if_neg c39).trans ((if_neg c44).trans ((if_neg c50).trans ((if_neg c53).trans (if_pos c58))))))))))))).symm) rfl)
                                  · refine r_icmp_ne E (q := 649) 659 dX6_stands_646 (by decide) rfl (fun c59 => ?_) (fun c59 => ?_)
                                    · refine r_iconst E (q := 660) (v := 0) dX6_stands_659 (by decide) rfl ?_
                                      exact hj15 _ (if_neg c59).symm
                                    · refine r_iload E (q := 651) 4 dX6_stands_649 rfl rfl ?_
                                      refine r_iconst E (q := 652) (v := 5) dX6_stands_651 (by decide) rfl ?_
                                      refine r_icmp_ne E (q := 655) 659 dX6_stands_652 (by decide) rfl (fun c60 => ?_) (fun c60 => ?_)
                                      · refine r_iconst E (q := 660) (v := 0) dX6_stands_659 (by decide) rfl ?_
                                        exact hj15 _ ((if_pos c59).trans (if_neg c60)).symm
                                      · refine r_iconst E (q := 656) (v := 1) dX6_stands_655 (by decide) rfl ?_
                                        refine r_goto E 660 dX6_stands_656 (by decide) ?_
                                        exact hj15 _ ((if_pos c59).trans (if_pos c60)).symm
                                · by_cases c61 : rule = 12
                                  · refine r_tabIn E 12 c61 661 dX6_stands_104 (by decide) (by rfl) (by decide) ?_
                                    refine r_aload_n E (q := 662) 0 dX6_stands_661 rfl rfl rfl ?_
                                    refine r_get E (q := 665) fX6_38 0 wm_0 rfl dX6_stands_662 rfl ?_
                                    refine r_iload_n E (q := 666) 1 dX6_stands_665 rfl rfl rfl ?_
                                    refine r_iald E (q := 667) 10 wm_10 (by first | assumption | exact hc (by assumption) | exact (h5 (by assumption) (by assumption)).1 | exact (h5 (by assumption) (by assumption)).2 | exact g_in1 (by assumption) hg | exact g_in2 (by assumption) hg | exact g_in2 (by assumption) (hf (by assumption)) | exact g_inF (by assumption) (hf (by assumption))) dX6_stands_666 rfl ?_
                                    refine r_bipush E (q := 669) (v := 6) dX6_stands_667 (by decide) rfl ?_
                                    refine r_join 725 (if G 10 (ix x) = 6 then (if G 10 (ix (G 11 (ix x))) = 5 then (if fX6_isFold G (G 11 (ix (G 11 (ix x)))) (G 13 (ix x)) (G 14 (ix x)) = 0 then 1 else (if fX6_isFold G (G 12 (ix (G 11 (ix x)))) (G 13 (ix x)) (G 14 (ix x)) = 0 then 1 else 0)) else 0) else 0) (rest := []) ?_ (fun hj16 => ?_)
                                    · exact r_zret E T (b01 (b01 (b01 (Or.inr rfl) (b01 (Or.inr rfl) (Or.inl rfl))) (Or.inl rfl)) (Or.inl rfl)) dX6_stands_725 (eqI.mk (by unfold fX6_stands; exact ((if_neg c1).trans ((if_neg c7).trans ((if_neg c12).trans ((if_neg c16).trans ((if_neg c21).trans ((if_neg c26).trans ((if_neg c31).trans ((if_neg c36).trans ((if_neg c39).trans ((if_neg c44).trans ((if_neg c50).trans ((if_neg c53).trans ((if_neg c58).trans (if_pos c61)))))))))))))).symm) rfl)
                                    · refine r_icmp_ne E (q := 672) 724 dX6_stands_669 (by decide) rfl (fun c62 => ?_) (fun c62 => ?_)
                                      · refine r_iconst E (q := 725) (v := 0) dX6_stands_724 (by decide) rfl ?_
                                        exact hj16 _ (if_neg c62).symm
                                      · refine r_iload E (q := 674) 4 dX6_stands_672 rfl rfl ?_
                                        refine r_iconst E (q := 675) (v := 5) dX6_stands_674 (by decide) rfl ?_
                                        refine r_icmp_ne E (q := 678) 724 dX6_stands_675 (by decide) rfl (fun c63 => ?_) (fun c63 => ?_)
                                        · refine r_iconst E (q := 725) (v := 0) dX6_stands_724 (by decide) rfl ?_
                                          exact hj16 _ ((if_pos c62).trans (if_neg c63)).symm
                                        · refine r_aload_n E (q := 679) 0 dX6_stands_678 rfl rfl rfl ?_
                                          refine r_aload_n E (q := 680) 0 dX6_stands_679 rfl rfl rfl ?_
                                          refine r_get E (q := 683) fX6_41 0 wm_0 rfl dX6_stands_680 rfl ?_
                                          refine r_iload_n E (q := 684) 3 dX6_stands_683 rfl rfl rfl ?_
                                          refine r_iald E (q := 685) 11 wm_11 (by first | assumption | exact hc (by assumption) | exact (h5 (by assumption) (by assumption)).1 | exact (h5 (by assumption) (by assumption)).2 | exact g_in1 (by assumption) hg | exact g_in2 (by assumption) hg | exact g_in2 (by assumption) (hf (by assumption)) | exact g_inF (by assumption) (hf (by assumption))) dX6_stands_684 rfl ?_
                                          refine r_aload_n E (q := 686) 0 dX6_stands_685 rfl rfl rfl ?_
                                          refine r_get E (q := 689) fX6_47 0 wm_0 rfl dX6_stands_686 rfl ?_
                                          refine r_iload_n E (q := 690) 1 dX6_stands_689 rfl rfl rfl ?_
                                          refine r_iald E (q := 691) 13 wm_13 (by first | assumption | exact hc (by assumption) | exact (h5 (by assumption) (by assumption)).1 | exact (h5 (by assumption) (by assumption)).2 | exact g_in1 (by assumption) hg | exact g_in2 (by assumption) hg | exact g_in2 (by assumption) (hf (by assumption)) | exact g_inF (by assumption) (hf (by assumption))) dX6_stands_690 rfl ?_
                                          refine r_iload E (q := 693) 5 dX6_stands_691 rfl rfl ?_
                                          refine rVi E (q := 696) cvX6_241 T.rr 0 wm_0 rfl [.int (G 11 (ix (G 11 (ix x)))), .int (G 13 (ix x)), .int (G 14 (ix x))] (c_X6_isFold (G 11 (ix (G 11 (ix x)))) (G 13 (ix x)) (G 14 (ix x)) (by first | exact (h5 (by assumption) (by assumption)).1 | exact (h5 (by assumption) (by assumption)).2)) (by decide) rfl rfl (Nat.le_of_ble_eq_true rfl) ⟨(Nat.le_of_ble_eq_true rfl), (Nat.le_of_ble_eq_true rfl)⟩ dX6_stands_693 rfl ?_
                                          refine r_if_eq E (q := 699) 720 dX6_stands_696 (by decide) rfl (fun c64 => ?_) (fun c64 => ?_)
                                          · refine r_iconst E (q := 721) (v := 1) dX6_stands_720 (by decide) rfl ?_
                                            refine r_goto E 725 dX6_stands_721 (by decide) ?_
                                            exact hj16 _ ((if_pos c62).trans ((if_pos c63).trans (if_pos c64))).symm
                                          · refine r_aload_n E (q := 700) 0 dX6_stands_699 rfl rfl rfl ?_
                                            refine r_aload_n E (q := 701) 0 dX6_stands_700 rfl rfl rfl ?_
                                            refine r_get E (q := 704) fX6_44 0 wm_0 rfl dX6_stands_701 rfl ?_
                                            refine r_iload_n E (q := 705) 3 dX6_stands_704 rfl rfl rfl ?_
                                            refine r_iald E (q := 706) 12 wm_12 (by first | assumption | exact hc (by assumption) | exact (h5 (by assumption) (by assumption)).1 | exact (h5 (by assumption) (by assumption)).2 | exact g_in1 (by assumption) hg | exact g_in2 (by assumption) hg | exact g_in2 (by assumption) (hf (by assumption)) | exact g_inF (by assumption) (hf (by assumption))) dX6_stands_705 rfl ?_
                                            refine r_aload_n E (q := 707) 0 dX6_stands_706 rfl rfl rfl ?_
                                            refine r_get E (q := 710) fX6_47 0 wm_0 rfl dX6_stands_707 rfl ?_
                                            refine r_iload_n E (q := 711) 1 dX6_stands_710 rfl rfl rfl ?_
                                            refine r_iald E (q := 712) 13 wm_13 (by first | assumption | exact hc (by assumption) | exact (h5 (by assumption) (by assumption)).1 | exact (h5 (by assumption) (by assumption)).2 | exact g_in1 (by assumption) hg | exact g_in2 (by assumption) hg | exact g_in2 (by assumption) (hf (by assumption)) | exact g_inF (by assumption) (hf (by assumption))) dX6_stands_711 rfl ?_
                                            refine r_iload E (q := 714) 5 dX6_stands_712 rfl rfl ?_
                                            refine rVi E (q := 717) cvX6_241 T.rr 0 wm_0 rfl [.int (G 12 (ix (G 11 (ix x)))), .int (G 13 (ix x)), .int (G 14 (ix x))] (c_X6_isFold (G 12 (ix (G 11 (ix x)))) (G 13 (ix x)) (G 14 (ix x)) (by first | exact (h5 (by assumption) (by assumption)).1 | exact (h5 (by assumption) (by assumption)).2)) (by decide) rfl rfl (Nat.le_of_ble_eq_true rfl) ⟨(Nat.le_of_ble_eq_true rfl), (Nat.le_of_ble_eq_true rfl)⟩ dX6_stands_714 rfl ?_
                                            refine r_if_ne E (q := 720) 724 dX6_stands_717 (by decide) rfl (fun c65 => ?_) (fun c65 => ?_)
                                            · refine r_iconst E (q := 725) (v := 0) dX6_stands_724 (by decide) rfl ?_
                                              exact hj16 _ ((if_pos c62).trans ((if_pos c63).trans ((if_neg c64).trans (if_neg c65)))).symm
                                            · refine r_iconst E (q := 721) (v := 1) dX6_stands_720 (by decide) rfl ?_
                                              refine r_goto E 725 dX6_stands_721 (by decide) ?_
                                              exact hj16 _ ((if_pos c62).trans ((if_pos c63).trans ((if_neg c64).trans (if_pos c65)))).symm
                                  · by_cases c66 : rule = 13
                                    · refine r_tabIn E 13 c66 726 dX6_stands_104 (by decide) (by rfl) (by decide) ?_
                                      refine r_aload_n E (q := 727) 0 dX6_stands_726 rfl rfl rfl ?_
                                      refine r_get E (q := 730) fX6_38 0 wm_0 rfl dX6_stands_727 rfl ?_
                                      refine r_iload_n E (q := 731) 1 dX6_stands_730 rfl rfl rfl ?_
                                      refine r_iald E (q := 732) 10 wm_10 (by first | assumption | exact hc (by assumption) | exact (h5 (by assumption) (by assumption)).1 | exact (h5 (by assumption) (by assumption)).2 | exact g_in1 (by assumption) hg | exact g_in2 (by assumption) hg | exact g_in2 (by assumption) (hf (by assumption)) | exact g_inF (by assumption) (hf (by assumption))) dX6_stands_731 rfl ?_
                                      refine r_bipush E (q := 734) (v := 6) dX6_stands_732 (by decide) rfl ?_
                                      refine r_join 773 (if G 10 (ix x) = 6 then (if G 10 (ix (G 11 (ix x))) = 3 then (if fX6_isOf ((1 <<< ((G 13 (ix x)) &&& 31)) ||| (1 <<< ((G 14 (ix x)) &&& 31))) (G 14 (ix (G 11 (ix x)))) = 0 then 0 else 1) else 0) else 0) (rest := []) ?_ (fun hj17 => ?_)
                                      · exact r_zret E T (b01 (b01 (b01 (Or.inl rfl) (Or.inr rfl)) (Or.inl rfl)) (Or.inl rfl)) dX6_stands_773 (eqI.mk (by unfold fX6_stands; exact ((if_neg c1).trans ((if_neg c7).trans ((if_neg c12).trans ((if_neg c16).trans ((if_neg c21).trans ((if_neg c26).trans ((if_neg c31).trans ((if_neg c36).trans ((if_neg c39).trans ((if_neg c44).trans ((if_neg c50).trans ((if_neg c53).trans ((if_neg c58).trans ((if_neg c61).trans (if_pos c66))))))))))))))).symm) rfl)
                                      · refine r_icmp_ne E (q := 737) 772 dX6_stands_734 (by decide) rfl (fun c67 => ?_) (fun c67 => ?_)
                                        · refine r_iconst E (q := 773) (v := 0) dX6_stands_772 (by decide) rfl ?_
                                          exact hj17 _ (if_neg c67).symm
                                        · refine r_iload E (q := 739) 4 dX6_stands_737 rfl rfl ?_
                                          refine r_iconst E (q := 740) (v := 3) dX6_stands_739 (by decide) rfl ?_
                                          refine r_icmp_ne E (q := 743) 772 dX6_stands_740 (by decide) rfl (fun c68 => ?_) (fun c68 => ?_)
                                          · refine r_iconst E (q := 773) (v := 0) dX6_stands_772 (by decide) rfl ?_
                                            exact hj17 _ ((if_pos c67).trans (if_neg c68)).symm
                                          · refine r_iconst E (q := 744) (v := 1) dX6_stands_743 (by decide) rfl ?_
                                            refine r_aload_n E (q := 745) 0 dX6_stands_744 rfl rfl rfl ?_
                                            refine r_get E (q := 748) fX6_47 0 wm_0 rfl dX6_stands_745 rfl ?_
                                            refine r_iload_n E (q := 749) 1 dX6_stands_748 rfl rfl rfl ?_
                                            refine r_iald E (q := 750) 13 wm_13 (by first | assumption | exact hc (by assumption) | exact (h5 (by assumption) (by assumption)).1 | exact (h5 (by assumption) (by assumption)).2 | exact g_in1 (by assumption) hg | exact g_in2 (by assumption) hg | exact g_in2 (by assumption) (hf (by assumption)) | exact g_inF (by assumption) (hf (by assumption))) dX6_stands_749 rfl ?_
                                            refine r_ishl E (q := 751) dX6_stands_750 rfl ?_
                                            refine r_iconst E (q := 752) (v := 1) dX6_stands_751 (by decide) rfl ?_
                                            refine r_iload E (q := 754) 5 dX6_stands_752 rfl rfl ?_
                                            refine r_ishl E (q := 755) dX6_stands_754 rfl ?_
                                            refine r_ior E (q := 756) dX6_stands_755 rfl ?_
                                            refine r_aload_n E (q := 757) 0 dX6_stands_756 rfl rfl rfl ?_
                                            refine r_get E (q := 760) fX6_50 0 wm_0 rfl dX6_stands_757 rfl ?_
                                            refine r_iload_n E (q := 761) 3 dX6_stands_760 rfl rfl rfl ?_
                                            refine r_iald E (q := 762) 14 wm_14 (by first | assumption | exact hc (by assumption) | exact (h5 (by assumption) (by assumption)).1 | exact (h5 (by assumption) (by assumption)).2 | exact g_in1 (by assumption) hg | exact g_in2 (by assumption) hg | exact g_in2 (by assumption) (hf (by assumption)) | exact g_inF (by assumption) (hf (by assumption))) dX6_stands_761 rfl ?_
                                            refine rSi E (q := 765) csX6_238 T.rr [.int ((1 <<< ((G 13 (ix x)) &&& 31)) ||| (1 <<< ((G 14 (ix x)) &&& 31))), .int (G 14 (ix (G 11 (ix x))))] (c_X6_isOf ((1 <<< ((G 13 (ix x)) &&& 31)) ||| (1 <<< ((G 14 (ix x)) &&& 31))) (G 14 (ix (G 11 (ix x))))) (by decide) rfl rfl (Nat.le_of_ble_eq_true rfl) ⟨(Nat.le_of_ble_eq_true rfl), (Nat.le_of_ble_eq_true rfl)⟩ dX6_stands_762 rfl ?_
                                            refine r_if_eq E (q := 768) 772 dX6_stands_765 (by decide) rfl (fun c69 => ?_) (fun c69 => ?_)
                                            · refine r_iconst E (q := 773) (v := 0) dX6_stands_772 (by decide) rfl ?_
                                              exact hj17 _ ((if_pos c67).trans ((if_pos c68).trans (if_pos c69))).symm
                                            · refine r_iconst E (q := 769) (v := 1) dX6_stands_768 (by decide) rfl ?_
                                              refine r_goto E 773 dX6_stands_769 (by decide) ?_
                                              exact hj17 _ ((if_pos c67).trans ((if_pos c68).trans (if_neg c69))).symm
                                    · by_cases c70 : rule = 14
                                      · refine r_tabIn E 14 c70 774 dX6_stands_104 (by decide) (by rfl) (by decide) ?_
                                        refine r_aload_n E (q := 775) 0 dX6_stands_774 rfl rfl rfl ?_
                                        refine r_get E (q := 778) fX6_38 0 wm_0 rfl dX6_stands_775 rfl ?_
                                        refine r_iload_n E (q := 779) 1 dX6_stands_778 rfl rfl rfl ?_
                                        refine r_iald E (q := 780) 10 wm_10 (by first | assumption | exact hc (by assumption) | exact (h5 (by assumption) (by assumption)).1 | exact (h5 (by assumption) (by assumption)).2 | exact g_in1 (by assumption) hg | exact g_in2 (by assumption) hg | exact g_in2 (by assumption) (hf (by assumption)) | exact g_inF (by assumption) (hf (by assumption))) dX6_stands_779 rfl ?_
                                        refine r_bipush E (q := 782) (v := 7) dX6_stands_780 (by decide) rfl ?_
                                        refine r_join 797 (if G 10 (ix x) = 7 then (if G 10 (ix (G 11 (ix x))) = 7 then 1 else 0) else 0) (rest := []) ?_ (fun hj18 => ?_)
                                        · exact r_zret E T (b01 (b01 (Or.inr rfl) (Or.inl rfl)) (Or.inl rfl)) dX6_stands_797 (eqI.mk (by unfold fX6_stands; exact ((if_neg c1).trans ((if_neg c7).trans ((if_neg c12).trans ((if_neg c16).trans ((if_neg c21).trans ((if_neg c26).trans ((if_neg c31).trans ((if_neg c36).trans ((if_neg c39).trans ((if_neg c44).trans ((if_neg c50).trans ((if_neg c53).trans ((if_neg c58).trans ((if_neg c61).trans ((if_neg c66).trans (if_pos c70)))))))))))))))).symm) rfl)
                                        · refine r_icmp_ne E (q := 785) 796 dX6_stands_782 (by decide) rfl (fun c71 => ?_) (fun c71 => ?_)
                                          · refine r_iconst E (q := 797) (v := 0) dX6_stands_796 (by decide) rfl ?_
                                            exact hj18 _ (if_neg c71).symm
                                          · refine r_iload E (q := 787) 4 dX6_stands_785 rfl rfl ?_
                                            refine r_bipush E (q := 789) (v := 7) dX6_stands_787 (by decide) rfl ?_
                                            refine r_icmp_ne E (q := 792) 796 dX6_stands_789 (by decide) rfl (fun c72 => ?_) (fun c72 => ?_)
                                            · refine r_iconst E (q := 797) (v := 0) dX6_stands_796 (by decide) rfl ?_
                                              exact hj18 _ ((if_pos c71).trans (if_neg c72)).symm
                                            · refine r_iconst E (q := 793) (v := 1) dX6_stands_792 (by decide) rfl ?_
                                              refine r_goto E 797 dX6_stands_793 (by decide) ?_
                                              exact hj18 _ ((if_pos c71).trans (if_pos c72)).symm
                                      · by_cases c73 : rule = 15
                                        · refine r_tabIn E 15 c73 798 dX6_stands_104 (by decide) (by rfl) (by decide) ?_
                                          refine r_aload_n E (q := 799) 0 dX6_stands_798 rfl rfl rfl ?_
                                          refine r_get E (q := 802) fX6_38 0 wm_0 rfl dX6_stands_799 rfl ?_
                                          refine r_iload_n E (q := 803) 1 dX6_stands_802 rfl rfl rfl ?_
                                          refine r_iald E (q := 804) 10 wm_10 (by first | assumption | exact hc (by assumption) | exact (h5 (by assumption) (by assumption)).1 | exact (h5 (by assumption) (by assumption)).2 | exact g_in1 (by assumption) hg | exact g_in2 (by assumption) hg | exact g_in2 (by assumption) (hf (by assumption)) | exact g_inF (by assumption) (hf (by assumption))) dX6_stands_803 rfl ?_
                                          refine r_bipush E (q := 806) (v := 8) dX6_stands_804 (by decide) rfl ?_
                                          refine r_join 821 (if G 10 (ix x) = 8 then (if G 10 (ix (G 11 (ix x))) = 8 then 1 else 0) else 0) (rest := []) ?_ (fun hj19 => ?_)
                                          · exact r_zret E T (b01 (b01 (Or.inr rfl) (Or.inl rfl)) (Or.inl rfl)) dX6_stands_821 (eqI.mk (by unfold fX6_stands; exact ((if_neg c1).trans ((if_neg c7).trans ((if_neg c12).trans ((if_neg c16).trans ((if_neg c21).trans ((if_neg c26).trans ((if_neg c31).trans ((if_neg c36).trans ((if_neg c39).trans ((if_neg c44).trans ((if_neg c50).trans ((if_neg c53).trans ((if_neg c58).trans ((if_neg c61).trans ((if_neg c66).trans ((if_neg c70).trans (if_pos c73))))))))))))))))).symm) rfl)
                                          · refine r_icmp_ne E (q := 809) 820 dX6_stands_806 (by decide) rfl (fun c74 => ?_) (fun c74 => ?_)
                                            · refine r_iconst E (q := 821) (v := 0) dX6_stands_820 (by decide) rfl ?_
                                              exact hj19 _ (if_neg c74).symm
                                            · refine r_iload E (q := 811) 4 dX6_stands_809 rfl rfl ?_
                                              refine r_bipush E (q := 813) (v := 8) dX6_stands_811 (by decide) rfl ?_
                                              refine r_icmp_ne E (q := 816) 820 dX6_stands_813 (by decide) rfl (fun c75 => ?_) (fun c75 => ?_)
                                              · refine r_iconst E (q := 821) (v := 0) dX6_stands_820 (by decide) rfl ?_
                                                exact hj19 _ ((if_pos c74).trans (if_neg c75)).symm
                                              · refine r_iconst E (q := 817) (v := 1) dX6_stands_816 (by decide) rfl ?_
                                                refine r_goto E 821 dX6_stands_817 (by decide) ?_
                                                exact hj19 _ ((if_pos c74).trans (if_pos c75)).symm
                                        · by_cases c76 : rule = 16
                                          · refine r_tabIn E 16 c76 822 dX6_stands_104 (by decide) (by rfl) (by decide) ?_
                                            refine r_aload_n E (q := 823) 0 dX6_stands_822 rfl rfl rfl ?_
                                            refine r_get E (q := 826) fX6_38 0 wm_0 rfl dX6_stands_823 rfl ?_
                                            refine r_iload_n E (q := 827) 1 dX6_stands_826 rfl rfl rfl ?_
                                            refine r_iald E (q := 828) 10 wm_10 (by first | assumption | exact hc (by assumption) | exact (h5 (by assumption) (by assumption)).1 | exact (h5 (by assumption) (by assumption)).2 | exact g_in1 (by assumption) hg | exact g_in2 (by assumption) hg | exact g_in2 (by assumption) (hf (by assumption)) | exact g_inF (by assumption) (hf (by assumption))) dX6_stands_827 rfl ?_
                                            refine r_bipush E (q := 830) (v := 7) dX6_stands_828 (by decide) rfl ?_
                                            refine r_join 876 (if G 10 (ix x) = 7 then (if G 10 (ix (G 11 (ix x))) = 5 then (if G 10 (ix (G 11 (ix (G 11 (ix x))))) = 7 then (if G 10 (ix (G 12 (ix (G 11 (ix x))))) = 7 then 0 else 1) else 1) else 0) else 0) (rest := []) ?_ (fun hj20 => ?_)
                                            · exact r_zret E T (b01 (b01 (b01 (b01 (Or.inl rfl) (Or.inr rfl)) (Or.inr rfl)) (Or.inl rfl)) (Or.inl rfl)) dX6_stands_876 (eqI.mk (by unfold fX6_stands; exact ((if_neg c1).trans ((if_neg c7).trans ((if_neg c12).trans ((if_neg c16).trans ((if_neg c21).trans ((if_neg c26).trans ((if_neg c31).trans ((if_neg c36).trans ((if_neg c39).trans ((if_neg c44).trans ((if_neg c50).trans ((if_neg c53).trans ((if_neg c58).trans ((if_neg c61).trans ((if_neg c66).trans ((if_neg c70).trans ((if_neg c73).trans (if_pos c76)))))))))))))))))).symm) rfl)
                                            · refine r_icmp_ne E (q := 833) 875 dX6_stands_830 (by decide) rfl (fun c77 => ?_) (fun c77 => ?_)
                                              · refine r_iconst E (q := 876) (v := 0) dX6_stands_875 (by decide) rfl ?_
                                                exact hj20 _ (if_neg c77).symm
                                              · refine r_iload E (q := 835) 4 dX6_stands_833 rfl rfl ?_
                                                refine r_iconst E (q := 836) (v := 5) dX6_stands_835 (by decide) rfl ?_
                                                refine r_icmp_ne E (q := 839) 875 dX6_stands_836 (by decide) rfl (fun c78 => ?_) (fun c78 => ?_)
                                                · refine r_iconst E (q := 876) (v := 0) dX6_stands_875 (by decide) rfl ?_
                                                  exact hj20 _ ((if_pos c77).trans (if_neg c78)).symm
                                                · refine r_aload_n E (q := 840) 0 dX6_stands_839 rfl rfl rfl ?_
                                                  refine r_get E (q := 843) fX6_38 0 wm_0 rfl dX6_stands_840 rfl ?_
                                                  refine r_aload_n E (q := 844) 0 dX6_stands_843 rfl rfl rfl ?_
                                                  refine r_get E (q := 847) fX6_41 0 wm_0 rfl dX6_stands_844 rfl ?_
                                                  refine r_iload_n E (q := 848) 3 dX6_stands_847 rfl rfl rfl ?_
                                                  refine r_iald E (q := 849) 11 wm_11 (by first | assumption | exact hc (by assumption) | exact (h5 (by assumption) (by assumption)).1 | exact (h5 (by assumption) (by assumption)).2 | exact g_in1 (by assumption) hg | exact g_in2 (by assumption) hg | exact g_in2 (by assumption) (hf (by assumption)) | exact g_inF (by assumption) (hf (by assumption))) dX6_stands_848 rfl ?_
                                                  refine r_iald E (q := 850) 10 wm_10 (by first | assumption | exact hc (by assumption) | exact (h5 (by assumption) (by assumption)).1 | exact (h5 (by assumption) (by assumption)).2 | exact g_in1 (by assumption) hg | exact g_in2 (by assumption) hg | exact g_in2 (by assumption) (hf (by assumption)) | exact g_inF (by assumption) (hf (by assumption))) dX6_stands_849 rfl ?_
                                                  refine r_bipush E (q := 852) (v := 7) dX6_stands_850 (by decide) rfl ?_
                                                  refine r_icmp_ne E (q := 855) 871 dX6_stands_852 (by decide) rfl (fun c79 => ?_) (fun c79 => ?_)
                                                  · refine r_iconst E (q := 872) (v := 1) dX6_stands_871 (by decide) rfl ?_
                                                    refine r_goto E 876 dX6_stands_872 (by decide) ?_
                                                    exact hj20 _ ((if_pos c77).trans ((if_pos c78).trans (if_neg c79))).symm
                                                  · refine r_aload_n E (q := 856) 0 dX6_stands_855 rfl rfl rfl ?_
                                                    refine r_get E (q := 859) fX6_38 0 wm_0 rfl dX6_stands_856 rfl ?_
                                                    refine r_aload_n E (q := 860) 0 dX6_stands_859 rfl rfl rfl ?_
                                                    refine r_get E (q := 863) fX6_44 0 wm_0 rfl dX6_stands_860 rfl ?_
                                                    refine r_iload_n E (q := 864) 3 dX6_stands_863 rfl rfl rfl ?_
                                                    refine r_iald E (q := 865) 12 wm_12 (by first | assumption | exact hc (by assumption) | exact (h5 (by assumption) (by assumption)).1 | exact (h5 (by assumption) (by assumption)).2 | exact g_in1 (by assumption) hg | exact g_in2 (by assumption) hg | exact g_in2 (by assumption) (hf (by assumption)) | exact g_inF (by assumption) (hf (by assumption))) dX6_stands_864 rfl ?_
                                                    refine r_iald E (q := 866) 10 wm_10 (by first | assumption | exact hc (by assumption) | exact (h5 (by assumption) (by assumption)).1 | exact (h5 (by assumption) (by assumption)).2 | exact g_in1 (by assumption) hg | exact g_in2 (by assumption) hg | exact g_in2 (by assumption) (hf (by assumption)) | exact g_inF (by assumption) (hf (by assumption))) dX6_stands_865 rfl ?_
                                                    refine r_bipush E (q := 868) (v := 7) dX6_stands_866 (by decide) rfl ?_
                                                    refine r_icmp_eq E (q := 871) 875 dX6_stands_868 (by decide) rfl (fun c80 => ?_) (fun c80 => ?_)
                                                    · refine r_iconst E (q := 876) (v := 0) dX6_stands_875 (by decide) rfl ?_
                                                      exact hj20 _ ((if_pos c77).trans ((if_pos c78).trans ((if_pos c79).trans (if_pos c80)))).symm
                                                    · refine r_iconst E (q := 872) (v := 1) dX6_stands_871 (by decide) rfl ?_
                                                      refine r_goto E 876 dX6_stands_872 (by decide) ?_
                                                      exact hj20 _ ((if_pos c77).trans ((if_pos c78).trans ((if_pos c79).trans (if_neg c80)))).symm
                                          · refine r_tabOut E 877 dX6_stands_104 (sw_out (fun j hj e => by match j with | 0 => exact c7 (e.trans (by decide)) | 1 => exact c12 (e.trans (by decide)) | 2 => exact c16 (e.trans (by decide)) | 3 => exact c21 (e.trans (by decide)) | 4 => exact c26 (e.trans (by decide)) | 5 => exact c31 (e.trans (by decide)) | 6 => exact c36 (e.trans (by decide)) | 7 => exact c39 (e.trans (by decide)) | 8 => exact c44 (e.trans (by decide)) | 9 => exact c50 (e.trans (by decide)) | 10 => exact c53 (e.trans (by decide)) | 11 => exact c58 (e.trans (by decide)) | 12 => exact c61 (e.trans (by decide)) | 13 => exact c66 (e.trans (by decide)) | 14 => exact c70 (e.trans (by decide)) | 15 => exact c73 (e.trans (by decide)) | 16 => exact c76 (e.trans (by decide)) | j + 17 => omega)) (by decide) ?_
                                            refine r_aload_n E (q := 878) 0 dX6_stands_877 rfl rfl rfl ?_
                                            refine r_get E (q := 881) fX6_38 0 wm_0 rfl dX6_stands_878 rfl ?_
                                            refine r_iload_n E (q := 882) 1 dX6_stands_881 rfl rfl rfl ?_
                                            refine r_iald E (q := 883) 10 wm_10 (by first | assumption | exact hc (by assumption) | exact (h5 (by assumption) (by assumption)).1 | exact (h5 (by assumption) (by assumption)).2 | exact g_in1 (by assumption) hg | exact g_in2 (by assumption) hg | exact g_in2 (by assumption) (hf (by assumption)) | exact g_inF (by assumption) (hf (by assumption))) dX6_stands_882 rfl ?_
                                            refine r_bipush E (q := 885) (v := 8) dX6_stands_883 (by decide) rfl ?_
                                            refine r_join 909 (if G 10 (ix x) = 8 then (if G 10 (ix (G 11 (ix x))) = 2 then (if G 8 (ix (if G 10 (ix (G 11 (ix x))) = 1 then (G 14 (ix (G 11 (ix x)))) else (if G 10 (ix (G 11 (ix x))) = 2 then (G 14 (ix (G 11 (ix x)))) else (-1)))) = 0 then 1 else 0) else 0) else 0) (rest := []) ?_ (fun hj21 => ?_)
                                            · exact r_zret E T (b01 (b01 (b01 (Or.inr rfl) (Or.inl rfl)) (Or.inl rfl)) (Or.inl rfl)) dX6_stands_909 (eqI.mk (by unfold fX6_stands; exact ((if_neg c1).trans ((if_neg c7).trans ((if_neg c12).trans ((if_neg c16).trans ((if_neg c21).trans ((if_neg c26).trans ((if_neg c31).trans ((if_neg c36).trans ((if_neg c39).trans ((if_neg c44).trans ((if_neg c50).trans ((if_neg c53).trans ((if_neg c58).trans ((if_neg c61).trans ((if_neg c66).trans ((if_neg c70).trans ((if_neg c73).trans (if_neg c76)))))))))))))))))).symm) rfl)
                                            · refine r_icmp_ne E (q := 888) 908 dX6_stands_885 (by decide) rfl (fun c81 => ?_) (fun c81 => ?_)
                                              · refine r_iconst E (q := 909) (v := 0) dX6_stands_908 (by decide) rfl ?_
                                                exact hj21 _ (if_neg c81).symm
                                              · refine r_iload E (q := 890) 4 dX6_stands_888 rfl rfl ?_
                                                refine r_iconst E (q := 891) (v := 2) dX6_stands_890 (by decide) rfl ?_
                                                refine r_icmp_ne E (q := 894) 908 dX6_stands_891 (by decide) rfl (fun c82 => ?_) (fun c82 => ?_)
                                                · refine r_iconst E (q := 909) (v := 0) dX6_stands_908 (by decide) rfl ?_
                                                  exact hj21 _ ((if_pos c81).trans (if_neg c82)).symm
                                                · refine r_aload_n E (q := 895) 0 dX6_stands_894 rfl rfl rfl ?_
                                                  refine r_get E (q := 898) fX6_31 0 wm_0 rfl dX6_stands_895 rfl ?_
                                                  refine r_iload E (q := 900) 7 dX6_stands_898 rfl rfl ?_
                                                  refine r_zald E (q := 901) 8 wm_8 (by first | assumption | exact hc (by assumption) | exact (h5 (by assumption) (by assumption)).1 | exact (h5 (by assumption) (by assumption)).2 | exact g_in1 (by assumption) hg | exact g_in2 (by assumption) hg | exact g_in2 (by assumption) (hf (by assumption)) | exact g_inF (by assumption) (hf (by assumption))) dX6_stands_900 rfl ?_
                                                  refine r_if_ne E (q := 904) 908 dX6_stands_901 (by decide) rfl (fun c83 => ?_) (fun c83 => ?_)
                                                  · refine r_iconst E (q := 909) (v := 0) dX6_stands_908 (by decide) rfl ?_
                                                    exact hj21 _ ((if_pos c81).trans ((if_pos c82).trans (if_neg c83))).symm
                                                  · refine r_iconst E (q := 905) (v := 1) dX6_stands_904 (by decide) rfl ?_
                                                    refine r_goto E 909 dX6_stands_905 (by decide) ?_
                                                    exact hj21 _ ((if_pos c81).trans ((if_pos c82).trans (if_pos c83))).symm
        · refine r_icmp_ne E (q := 96) 100 dX6_stands_93 (by decide) rfl (fun c6 => ?_) (fun c6 => ?_)
          · refine r_iconst E (q := 101) (v := 0) dX6_stands_100 (by decide) rfl ?_
            exact hj3 _ (if_neg c6).symm
          · refine r_iconst E (q := 97) (v := 1) dX6_stands_96 (by decide) rfl ?_
            refine r_goto E 101 dX6_stands_97 (by decide) ?_
            exact hj3 _ (if_pos c6).symm
      · refine r_icmp_eq E (q := 68) 74 dX6_stands_65 (by decide) rfl (fun c4 => ?_) (fun c4 => ?_)
        · refine r_aload_n E (q := 75) 0 dX6_stands_74 rfl rfl rfl ?_
          refine r_get E (q := 78) fX6_50 0 wm_0 rfl dX6_stands_75 rfl ?_
          refine r_iload_n E (q := 79) 3 dX6_stands_78 rfl rfl rfl ?_
          refine r_iald E (q := 80) 14 wm_14 (by first | assumption | exact hc (by assumption) | exact (h5 (by assumption) (by assumption)).1 | exact (h5 (by assumption) (by assumption)).2 | exact g_in1 (by assumption) hg | exact g_in2 (by assumption) hg | exact g_in2 (by assumption) (hf (by assumption)) | exact g_inF (by assumption) (hf (by assumption))) dX6_stands_79 rfl ?_
          refine r_goto E 84 dX6_stands_80 (by decide) ?_
          exact hj2 _ (if_pos c4).symm
        · refine r_iload E (q := 70) 4 dX6_stands_68 rfl rfl ?_
          refine r_iconst E (q := 71) (v := 2) dX6_stands_70 (by decide) rfl ?_
          refine r_icmp_ne E (q := 74) 83 dX6_stands_71 (by decide) rfl (fun c5 => ?_) (fun c5 => ?_)
          · refine r_iconst E (q := 84) (v := (-1)) dX6_stands_83 (by decide) rfl ?_
            exact hj2 _ ((if_neg c4).trans (if_neg c5)).symm
          · refine r_aload_n E (q := 75) 0 dX6_stands_74 rfl rfl rfl ?_
            refine r_get E (q := 78) fX6_50 0 wm_0 rfl dX6_stands_75 rfl ?_
            refine r_iload_n E (q := 79) 3 dX6_stands_78 rfl rfl rfl ?_
            refine r_iald E (q := 80) 14 wm_14 (by first | assumption | exact hc (by assumption) | exact (h5 (by assumption) (by assumption)).1 | exact (h5 (by assumption) (by assumption)).2 | exact g_in1 (by assumption) hg | exact g_in2 (by assumption) hg | exact g_in2 (by assumption) (hf (by assumption)) | exact g_inF (by assumption) (hf (by assumption))) dX6_stands_79 rfl ?_
            refine r_goto E 84 dX6_stands_80 (by decide) ?_
            exact hj2 _ ((if_neg c4).trans (if_pos c5)).symm
    · refine r_icmp_eq E (q := 44) 54 dX6_stands_41 (by decide) rfl (fun c2 => ?_) (fun c2 => ?_)
      · refine r_iload E (q := 56) 5 dX6_stands_54 rfl rfl ?_
        refine r_goto E 60 dX6_stands_56 (by decide) ?_
        exact hj1 _ (if_pos c2).symm
      · refine r_aload_n E (q := 45) 0 dX6_stands_44 rfl rfl rfl ?_
        refine r_get E (q := 48) fX6_38 0 wm_0 rfl dX6_stands_45 rfl ?_
        refine r_iload_n E (q := 49) 1 dX6_stands_48 rfl rfl rfl ?_
        refine r_iald E (q := 50) 10 wm_10 (by first | assumption | exact hc (by assumption) | exact (h5 (by assumption) (by assumption)).1 | exact (h5 (by assumption) (by assumption)).2 | exact g_in1 (by assumption) hg | exact g_in2 (by assumption) hg | exact g_in2 (by assumption) (hf (by assumption)) | exact g_inF (by assumption) (hf (by assumption))) dX6_stands_49 rfl ?_
        refine r_iconst E (q := 51) (v := 2) dX6_stands_50 (by decide) rfl ?_
        refine r_icmp_ne E (q := 54) 59 dX6_stands_51 (by decide) rfl (fun c3 => ?_) (fun c3 => ?_)
        · refine r_iconst E (q := 60) (v := (-1)) dX6_stands_59 (by decide) rfl ?_
          exact hj1 _ ((if_neg c2).trans (if_neg c3)).symm
        · refine r_iload E (q := 56) 5 dX6_stands_54 rfl rfl ?_
          refine r_goto E 60 dX6_stands_56 (by decide) ?_
          exact hj1 _ ((if_neg c2).trans (if_pos c3)).symm
  · refine r_iconst E (q := 10) (v := 0) dX6_stands_9 (by decide) rfl ?_
    exact r_zret E T (Or.inl rfl) dX6_stands_10 (eqI.mk (by unfold fX6_stands; exact (if_pos c1).symm) rfl)
def fX6_rewrites_G (G : Nat → Nat → Int32) (V : Nat → Int32) (x : Int32) (rule : Int32) : Nat → Nat → Int32 := if rule = 0 then (fX6_put_G (fX6_lay_G G (upd V 2 ((V 2) + 1)) 1 (G 11 (ix (G 11 (ix x)))) 0 0 (G 14 (ix x))) x 2 (fX6_lay G (upd V 2 ((V 2) + 1)) 1 (G 11 (ix (G 11 (ix x)))) 0 0 (G 14 (ix x))) 0 (G 13 (ix (G 11 (ix x)))) (G 14 (ix (G 11 (ix x))))) else (if rule = 1 then (fX6_put_G (fX6_lay_G G (upd V 2 ((V 2) + 1)) 1 (G 11 (ix (G 11 (ix x)))) 0 0 (G 14 (ix x))) x 3 (fX6_lay G (upd V 2 ((V 2) + 1)) 1 (G 11 (ix (G 11 (ix x)))) 0 0 (G 14 (ix x))) 0 0 (G 14 (ix (G 11 (ix x))))) else (if rule = 2 then (fX6_put_G (fX6_lay_G G (upd V 2 ((V 2) + 1)) 1 (G 11 (ix (G 11 (ix x)))) 0 0 (G 14 (ix x))) x 4 (fX6_lay G (upd V 2 ((V 2) + 1)) 1 (G 11 (ix (G 11 (ix x)))) 0 0 (G 14 (ix x))) (G 12 (ix (G 11 (ix x)))) (G 13 (ix (G 11 (ix x)))) (G 14 (ix (G 11 (ix x))))) else (if rule = 3 then (fX6_put_G (fX6_lay_G G (upd V 2 ((V 2) + 1)) 1 (G 12 (ix (G 11 (ix x)))) 0 0 (G 14 (ix x))) x 4 (G 11 (ix (G 11 (ix x)))) (fX6_lay G (upd V 2 ((V 2) + 1)) 1 (G 12 (ix (G 11 (ix x)))) 0 0 (G 14 (ix x))) (G 13 (ix (G 11 (ix x)))) (G 14 (ix (G 11 (ix x))))) else (if rule = 4 then (fX6_put_G (fX6_lay_G (fX6_lay_G G (upd V 2 ((V 2) + 1)) 1 (G 11 (ix (G 11 (ix x)))) 0 0 (G 14 (ix x))) (fX6_lay_V G (upd V 2 ((V 2) + 1)) 1 (G 11 (ix (G 11 (ix x)))) 0 0 (G 14 (ix x))) 1 (G 12 (ix (G 11 (ix x)))) 0 0 (G 14 (ix x))) x 5 (fX6_lay G (upd V 2 ((V 2) + 1)) 1 (G 11 (ix (G 11 (ix x)))) 0 0 (G 14 (ix x))) (fX6_lay (fX6_lay_G G (upd V 2 ((V 2) + 1)) 1 (G 11 (ix (G 11 (ix x)))) 0 0 (G 14 (ix x))) (fX6_lay_V G (upd V 2 ((V 2) + 1)) 1 (G 11 (ix (G 11 (ix x)))) 0 0 (G 14 (ix x))) 1 (G 12 (ix (G 11 (ix x)))) 0 0 (G 14 (ix x))) 0 0) else (if rule = 5 then (fX6_put_G (fX6_lay_G G (upd V 2 ((V 2) + 1)) 1 (G 11 (ix (G 11 (ix x)))) 0 0 (G 14 (ix x))) x 6 (fX6_lay G (upd V 2 ((V 2) + 1)) 1 (G 11 (ix (G 11 (ix x)))) 0 0 (G 14 (ix x))) 0 (G 13 (ix (G 11 (ix x)))) (G 14 (ix (G 11 (ix x))))) else (if rule = 6 then (fX6_put_G (fX6_lay_G G (upd V 2 ((V 2) + 1)) 1 (G 11 (ix (G 11 (ix x)))) 0 0 (G 14 (ix x))) x 7 (fX6_lay G (upd V 2 ((V 2) + 1)) 1 (G 11 (ix (G 11 (ix x)))) 0 0 (G 14 (ix x))) 0 0 0) else (if rule = 7 then (fX6_put_G (fX6_tell_G G (upd V 2 ((V 2) + 1)) 9 (G 14 (ix (G 11 (ix x)))) (G 14 (ix x))) x 1 (G 11 (ix (G 11 (ix x)))) 0 0 (fX6_tell G (upd V 2 ((V 2) + 1)) 9 (G 14 (ix (G 11 (ix x)))) (G 14 (ix x)))) else (if rule = 8 then (fX6_put_G G x 2 (G 11 (ix (G 11 (ix x)))) 0 (G 13 (ix (G 11 (ix x)))) (G 14 (ix x))) else (if rule = 9 then (fX6_put_G G x 3 (G 11 (ix (G 11 (ix x)))) 0 0 ((G 14 (ix (G 11 (ix x)))) &&& (G 14 (ix x)))) else (if rule = 10 then (fX6_put_G G x 3 (G 11 (ix (G 11 (ix x)))) 0 0 (G 14 (ix x))) else (if rule = 11 then (fX6_put_G (fX6_lay_G (fX6_lay_G G (upd V 2 ((V 2) + 1)) 3 (G 11 (ix (G 11 (ix x)))) 0 0 (G 14 (ix x))) (fX6_lay_V G (upd V 2 ((V 2) + 1)) 3 (G 11 (ix (G 11 (ix x)))) 0 0 (G 14 (ix x))) 3 (G 12 (ix (G 11 (ix x)))) 0 0 (G 14 (ix x))) x 5 (fX6_lay G (upd V 2 ((V 2) + 1)) 3 (G 11 (ix (G 11 (ix x)))) 0 0 (G 14 (ix x))) (fX6_lay (fX6_lay_G G (upd V 2 ((V 2) + 1)) 3 (G 11 (ix (G 11 (ix x)))) 0 0 (G 14 (ix x))) (fX6_lay_V G (upd V 2 ((V 2) + 1)) 3 (G 11 (ix (G 11 (ix x)))) 0 0 (G 14 (ix x))) 3 (G 12 (ix (G 11 (ix x)))) 0 0 (G 14 (ix x))) 0 0) else (if rule = 12 then (fX6_put_G (fX6_lay_G (fX6_lay_G (fX6_lay_G G (upd V 2 ((V 2) + 1)) 6 (G 11 (ix (G 11 (ix x)))) 0 (G 13 (ix x)) (G 14 (ix x))) (fX6_lay_V G (upd V 2 ((V 2) + 1)) 6 (G 11 (ix (G 11 (ix x)))) 0 (G 13 (ix x)) (G 14 (ix x))) 6 (G 12 (ix (G 11 (ix x)))) 0 ((fX6_lay_G G (upd V 2 ((V 2) + 1)) 6 (G 11 (ix (G 11 (ix x)))) 0 (G 13 (ix x)) (G 14 (ix x))) 13 (ix x)) (G 14 (ix x))) (fX6_lay_V (fX6_lay_G G (upd V 2 ((V 2) + 1)) 6 (G 11 (ix (G 11 (ix x)))) 0 (G 13 (ix x)) (G 14 (ix x))) (fX6_lay_V G (upd V 2 ((V 2) + 1)) 6 (G 11 (ix (G 11 (ix x)))) 0 (G 13 (ix x)) (G 14 (ix x))) 6 (G 12 (ix (G 11 (ix x)))) 0 ((fX6_lay_G G (upd V 2 ((V 2) + 1)) 6 (G 11 (ix (G 11 (ix x)))) 0 (G 13 (ix x)) (G 14 (ix x))) 13 (ix x)) (G 14 (ix x))) 5 (fX6_lay G (upd V 2 ((V 2) + 1)) 6 (G 11 (ix (G 11 (ix x)))) 0 (G 13 (ix x)) (G 14 (ix x))) (fX6_lay (fX6_lay_G G (upd V 2 ((V 2) + 1)) 6 (G 11 (ix (G 11 (ix x)))) 0 (G 13 (ix x)) (G 14 (ix x))) (fX6_lay_V G (upd V 2 ((V 2) + 1)) 6 (G 11 (ix (G 11 (ix x)))) 0 (G 13 (ix x)) (G 14 (ix x))) 6 (G 12 (ix (G 11 (ix x)))) 0 ((fX6_lay_G G (upd V 2 ((V 2) + 1)) 6 (G 11 (ix (G 11 (ix x)))) 0 (G 13 (ix x)) (G 14 (ix x))) 13 (ix x)) (G 14 (ix x))) 0 0) x 6 (fX6_lay (fX6_lay_G (fX6_lay_G G (upd V 2 ((V 2) + 1)) 6 (G 11 (ix (G 11 (ix x)))) 0 (G 13 (ix x)) (G 14 (ix x))) (fX6_lay_V G (upd V 2 ((V 2) + 1)) 6 (G 11 (ix (G 11 (ix x)))) 0 (G 13 (ix x)) (G 14 (ix x))) 6 (G 12 (ix (G 11 (ix x)))) 0 ((fX6_lay_G G (upd V 2 ((V 2) + 1)) 6 (G 11 (ix (G 11 (ix x)))) 0 (G 13 (ix x)) (G 14 (ix x))) 13 (ix x)) (G 14 (ix x))) (fX6_lay_V (fX6_lay_G G (upd V 2 ((V 2) + 1)) 6 (G 11 (ix (G 11 (ix x)))) 0 (G 13 (ix x)) (G 14 (ix x))) (fX6_lay_V G (upd V 2 ((V 2) + 1)) 6 (G 11 (ix (G 11 (ix x)))) 0 (G 13 (ix x)) (G 14 (ix x))) 6 (G 12 (ix (G 11 (ix x)))) 0 ((fX6_lay_G G (upd V 2 ((V 2) + 1)) 6 (G 11 (ix (G 11 (ix x)))) 0 (G 13 (ix x)) (G 14 (ix x))) 13 (ix x)) (G 14 (ix x))) 5 (fX6_lay G (upd V 2 ((V 2) + 1)) 6 (G 11 (ix (G 11 (ix x)))) 0 (G 13 (ix x)) (G 14 (ix x))) (fX6_lay (fX6_lay_G G (upd V 2 ((V 2) + 1)) 6 (G 11 (ix (G 11 (ix x)))) 0 (G 13 (ix x)) (G 14 (ix x))) (fX6_lay_V G (upd V 2 ((V 2) + 1)) 6 (G 11 (ix (G 11 (ix x)))) 0 (G 13 (ix x)) (G 14 (ix x))) 6 (G 12 (ix (G 11 (ix x)))) 0 ((fX6_lay_G G (upd V 2 ((V 2) + 1)) 6 (G 11 (ix (G 11 (ix x)))) 0 (G 13 (ix x)) (G 14 (ix x))) 13 (ix x)) (G 14 (ix x))) 0 0) 0 ((fX6_lay_G (fX6_lay_G (fX6_lay_G G (upd V 2 ((V 2) + 1)) 6 (G 11 (ix (G 11 (ix x)))) 0 (G 13 (ix x)) (G 14 (ix x))) (fX6_lay_V G (upd V 2 ((V 2) + 1)) 6 (G 11 (ix (G 11 (ix x)))) 0 (G 13 (ix x)) (G 14 (ix x))) 6 (G 12 (ix (G 11 (ix x)))) 0 ((fX6_lay_G G (upd V 2 ((V 2) + 1)) 6 (G 11 (ix (G 11 (ix x)))) 0 (G 13 (ix x)) (G 14 (ix x))) 13 (ix x)) (G 14 (ix x))) (fX6_lay_V (fX6_lay_G G (upd V 2 ((V 2) + 1)) 6 (G 11 (ix (G 11 (ix x)))) 0 (G 13 (ix x)) (G 14 (ix x))) (fX6_lay_V G (upd V 2 ((V 2) + 1)) 6 (G 11 (ix (G 11 (ix x)))) 0 (G 13 (ix x)) (G 14 (ix x))) 6 (G 12 (ix (G 11 (ix x)))) 0 ((fX6_lay_G G (upd V 2 ((V 2) + 1)) 6 (G 11 (ix (G 11 (ix x)))) 0 (G 13 (ix x)) (G 14 (ix x))) 13 (ix x)) (G 14 (ix x))) 5 (fX6_lay G (upd V 2 ((V 2) + 1)) 6 (G 11 (ix (G 11 (ix x)))) 0 (G 13 (ix x)) (G 14 (ix x))) (fX6_lay (fX6_lay_G G (upd V 2 ((V 2) + 1)) 6 (G 11 (ix (G 11 (ix x)))) 0 (G 13 (ix x)) (G 14 (ix x))) (fX6_lay_V G (upd V 2 ((V 2) + 1)) 6 (G 11 (ix (G 11 (ix x)))) 0 (G 13 (ix x)) (G 14 (ix x))) 6 (G 12 (ix (G 11 (ix x)))) 0 ((fX6_lay_G G (upd V 2 ((V 2) + 1)) 6 (G 11 (ix (G 11 (ix x)))) 0 (G 13 (ix x)) (G 14 (ix x))) 13 (ix x)) (G 14 (ix x))) 0 0) 13 (ix x)) (G 14 (ix x))) else (if rule = 13 then (fX6_put_G G x 6 (G 11 (ix (G 11 (ix x)))) 0 (G 13 (ix x)) (G 14 (ix x))) else (if rule = 14 then (fX6_put_G G x 7 (G 11 (ix (G 11 (ix x)))) 0 0 0) else (if rule = 15 then (fX6_put_G G x 8 (G 11 (ix (G 11 (ix x)))) 0 0 (if G 14 (ix x) ≤ G 14 (ix (G 11 (ix x))) then (G 14 (ix x)) else (G 14 (ix (G 11 (ix x)))))) else (if rule = 16 then (fX6_put_G (fX6_lay_G (fX6_lay_G (fX6_lay_G G (upd V 2 ((V 2) + 1)) 7 (G 11 (ix (G 11 (ix x)))) 0 0 0) (fX6_lay_V G (upd V 2 ((V 2) + 1)) 7 (G 11 (ix (G 11 (ix x)))) 0 0 0) 7 (G 12 (ix (G 11 (ix x)))) 0 0 0) (fX6_lay_V (fX6_lay_G G (upd V 2 ((V 2) + 1)) 7 (G 11 (ix (G 11 (ix x)))) 0 0 0) (fX6_lay_V G (upd V 2 ((V 2) + 1)) 7 (G 11 (ix (G 11 (ix x)))) 0 0 0) 7 (G 12 (ix (G 11 (ix x)))) 0 0 0) 5 (fX6_lay G (upd V 2 ((V 2) + 1)) 7 (G 11 (ix (G 11 (ix x)))) 0 0 0) (fX6_lay (fX6_lay_G G (upd V 2 ((V 2) + 1)) 7 (G 11 (ix (G 11 (ix x)))) 0 0 0) (fX6_lay_V G (upd V 2 ((V 2) + 1)) 7 (G 11 (ix (G 11 (ix x)))) 0 0 0) 7 (G 12 (ix (G 11 (ix x)))) 0 0 0) 0 0) x 7 (fX6_lay (fX6_lay_G (fX6_lay_G G (upd V 2 ((V 2) + 1)) 7 (G 11 (ix (G 11 (ix x)))) 0 0 0) (fX6_lay_V G (upd V 2 ((V 2) + 1)) 7 (G 11 (ix (G 11 (ix x)))) 0 0 0) 7 (G 12 (ix (G 11 (ix x)))) 0 0 0) (fX6_lay_V (fX6_lay_G G (upd V 2 ((V 2) + 1)) 7 (G 11 (ix (G 11 (ix x)))) 0 0 0) (fX6_lay_V G (upd V 2 ((V 2) + 1)) 7 (G 11 (ix (G 11 (ix x)))) 0 0 0) 7 (G 12 (ix (G 11 (ix x)))) 0 0 0) 5 (fX6_lay G (upd V 2 ((V 2) + 1)) 7 (G 11 (ix (G 11 (ix x)))) 0 0 0) (fX6_lay (fX6_lay_G G (upd V 2 ((V 2) + 1)) 7 (G 11 (ix (G 11 (ix x)))) 0 0 0) (fX6_lay_V G (upd V 2 ((V 2) + 1)) 7 (G 11 (ix (G 11 (ix x)))) 0 0 0) 7 (G 12 (ix (G 11 (ix x)))) 0 0 0) 0 0) 0 0 0) else (fX6_put_G (fX6_lay_G G (upd V 2 ((V 2) + 1)) 8 (G 11 (ix (G 11 (ix x)))) 0 0 (G 14 (ix x))) x 2 (fX6_lay G (upd V 2 ((V 2) + 1)) 8 (G 11 (ix (G 11 (ix x)))) 0 0 (G 14 (ix x))) 0 (G 13 (ix (G 11 (ix x)))) (G 14 (ix (G 11 (ix x)))))))))))))))))))))
def fX6_rewrites_V (G : Nat → Nat → Int32) (V : Nat → Int32) (x : Int32) (rule : Int32) : Nat → Int32 := if rule = 0 then (fX6_lay_V G (upd V 2 ((V 2) + 1)) 1 (G 11 (ix (G 11 (ix x)))) 0 0 (G 14 (ix x))) else (if rule = 1 then (fX6_lay_V G (upd V 2 ((V 2) + 1)) 1 (G 11 (ix (G 11 (ix x)))) 0 0 (G 14 (ix x))) else (if rule = 2 then (fX6_lay_V G (upd V 2 ((V 2) + 1)) 1 (G 11 (ix (G 11 (ix x)))) 0 0 (G 14 (ix x))) else (if rule = 3 then (fX6_lay_V G (upd V 2 ((V 2) + 1)) 1 (G 12 (ix (G 11 (ix x)))) 0 0 (G 14 (ix x))) else (if rule = 4 then (fX6_lay_V (fX6_lay_G G (upd V 2 ((V 2) + 1)) 1 (G 11 (ix (G 11 (ix x)))) 0 0 (G 14 (ix x))) (fX6_lay_V G (upd V 2 ((V 2) + 1)) 1 (G 11 (ix (G 11 (ix x)))) 0 0 (G 14 (ix x))) 1 (G 12 (ix (G 11 (ix x)))) 0 0 (G 14 (ix x))) else (if rule = 5 then (fX6_lay_V G (upd V 2 ((V 2) + 1)) 1 (G 11 (ix (G 11 (ix x)))) 0 0 (G 14 (ix x))) else (if rule = 6 then (fX6_lay_V G (upd V 2 ((V 2) + 1)) 1 (G 11 (ix (G 11 (ix x)))) 0 0 (G 14 (ix x))) else (if rule = 7 then (fX6_tell_V G (upd V 2 ((V 2) + 1)) 9 (G 14 (ix (G 11 (ix x)))) (G 14 (ix x))) else (if rule = 8 then (upd V 2 ((V 2) + 1)) else (if rule = 9 then (upd V 2 ((V 2) + 1)) else (if rule = 10 then (upd V 2 ((V 2) + 1)) else (if rule = 11 then (fX6_lay_V (fX6_lay_G G (upd V 2 ((V 2) + 1)) 3 (G 11 (ix (G 11 (ix x)))) 0 0 (G 14 (ix x))) (fX6_lay_V G (upd V 2 ((V 2) + 1)) 3 (G 11 (ix (G 11 (ix x)))) 0 0 (G 14 (ix x))) 3 (G 12 (ix (G 11 (ix x)))) 0 0 (G 14 (ix x))) else (if rule = 12 then (fX6_lay_V (fX6_lay_G (fX6_lay_G G (upd V 2 ((V 2) + 1)) 6 (G 11 (ix (G 11 (ix x)))) 0 (G 13 (ix x)) (G 14 (ix x))) (fX6_lay_V G (upd V 2 ((V 2) + 1)) 6 (G 11 (ix (G 11 (ix x)))) 0 (G 13 (ix x)) (G 14 (ix x))) 6 (G 12 (ix (G 11 (ix x)))) 0 ((fX6_lay_G G (upd V 2 ((V 2) + 1)) 6 (G 11 (ix (G 11 (ix x)))) 0 (G 13 (ix x)) (G 14 (ix x))) 13 (ix x)) (G 14 (ix x))) (fX6_lay_V (fX6_lay_G G (upd V 2 ((V 2) + 1)) 6 (G 11 (ix (G 11 (ix x)))) 0 (G 13 (ix x)) (G 14 (ix x))) (fX6_lay_V G (upd V 2 ((V 2) + 1)) 6 (G 11 (ix (G 11 (ix x)))) 0 (G 13 (ix x)) (G 14 (ix x))) 6 (G 12 (ix (G 11 (ix x)))) 0 ((fX6_lay_G G (upd V 2 ((V 2) + 1)) 6 (G 11 (ix (G 11 (ix x)))) 0 (G 13 (ix x)) (G 14 (ix x))) 13 (ix x)) (G 14 (ix x))) 5 (fX6_lay G (upd V 2 ((V 2) + 1)) 6 (G 11 (ix (G 11 (ix x)))) 0 (G 13 (ix x)) (G 14 (ix x))) (fX6_lay (fX6_lay_G G (upd V 2 ((V 2) + 1)) 6 (G 11 (ix (G 11 (ix x)))) 0 (G 13 (ix x)) (G 14 (ix x))) (fX6_lay_V G (upd V 2 ((V 2) + 1)) 6 (G 11 (ix (G 11 (ix x)))) 0 (G 13 (ix x)) (G 14 (ix x))) 6 (G 12 (ix (G 11 (ix x)))) 0 ((fX6_lay_G G (upd V 2 ((V 2) + 1)) 6 (G 11 (ix (G 11 (ix x)))) 0 (G 13 (ix x)) (G 14 (ix x))) 13 (ix x)) (G 14 (ix x))) 0 0) else (if rule = 13 then (upd V 2 ((V 2) + 1)) else (if rule = 14 then (upd V 2 ((V 2) + 1)) else (if rule = 15 then (upd V 2 ((V 2) + 1)) else (if rule = 16 then (fX6_lay_V (fX6_lay_G (fX6_lay_G G (upd V 2 ((V 2) + 1)) 7 (G 11 (ix (G 11 (ix x)))) 0 0 0) (fX6_lay_V G (upd V 2 ((V 2) + 1)) 7 (G 11 (ix (G 11 (ix x)))) 0 0 0) 7 (G 12 (ix (G 11 (ix x)))) 0 0 0) (fX6_lay_V (fX6_lay_G G (upd V 2 ((V 2) + 1)) 7 (G 11 (ix (G 11 (ix x)))) 0 0 0) (fX6_lay_V G (upd V 2 ((V 2) + 1)) 7 (G 11 (ix (G 11 (ix x)))) 0 0 0) 7 (G 12 (ix (G 11 (ix x)))) 0 0 0) 5 (fX6_lay G (upd V 2 ((V 2) + 1)) 7 (G 11 (ix (G 11 (ix x)))) 0 0 0) (fX6_lay (fX6_lay_G G (upd V 2 ((V 2) + 1)) 7 (G 11 (ix (G 11 (ix x)))) 0 0 0) (fX6_lay_V G (upd V 2 ((V 2) + 1)) 7 (G 11 (ix (G 11 (ix x)))) 0 0 0) 7 (G 12 (ix (G 11 (ix x)))) 0 0 0) 0 0) else (fX6_lay_V G (upd V 2 ((V 2) + 1)) 8 (G 11 (ix (G 11 (ix x)))) 0 0 (G 14 (ix x)))))))))))))))))))
set_option maxRecDepth 100000 in
set_option maxHeartbeats 800000 in
theorem c_X6_rewrites {l : Launch} {k : Kt} {ad : Nat → Nat} {G : Nat → Nat → Int32} {V : Nat → Int32} (x : Int32) (rule : Int32) (hx : vp_in x 60) (hc : vp_in (G 11 (ix x)) 60) (hr1 : ¬ (rule = 7 ∨ rule = 8 ∨ rule = 9 ∨ rule = 10 ∨ rule = 13 ∨ rule = 14 ∨ rule = 15) → vp_in (V 1) 60) (hr2 : rule = 4 ∨ rule = 11 ∨ rule = 12 ∨ rule = 16 → vp_in (V 1 + 1) 60) (hr3 : rule = 12 ∨ rule = 16 → vp_in (V 1 + 1 + 1) 60) (h7 : rule = 7 → vp_in (G 14 (ix (G 11 (ix x)))) 40 ∧ vp_in (G 14 (ix x)) 40 ∧ vp_in (V 0) 40) : CT l k yX6_rewrites cX6_rewrites 11 none 4 [.ref (ad 0), .int x, .int rule] (WM k ad G V) (eqV (WM k ad (fX6_rewrites_G G V x rule) (fX6_rewrites_V G V x rule))) 0 0 := by
  refine ct_of (own := RX6) (lv0 := [(0, .ref (ad 0)), (1, .int x), (2, .int rule)]) (by decide) rfl (Nat.le_of_ble_eq_true rfl) rfl ?_
  rintro z rfl rfl hz - E T
  refine r_aload_n E (q := 1) 0 dX6_rewrites_0 rfl rfl rfl ?_
  refine r_get E (q := 4) fX6_41 0 wm_0 rfl dX6_rewrites_1 rfl ?_
  refine r_iload_n E (q := 5) 1 dX6_rewrites_4 rfl rfl rfl ?_
  refine r_iald E (q := 6) 11 wm_11 (by assumption) dX6_rewrites_5 rfl ?_
  refine r_istore_n E (q := 7) (lv' := [(0, .ref (ad 0)), (1, .int x), (2, .int rule), (3, .int (G 11 (ix x)))]) [1, 2, 3, 0] dX6_rewrites_6 rfl (by rw [hz]; decide) rfl rfl ?_
  refine r_aload_n E (q := 8) 0 dX6_rewrites_7 rfl rfl rfl ?_
  refine r_get E (q := 11) fX6_41 0 wm_0 rfl dX6_rewrites_8 rfl ?_
  refine r_iload_n E (q := 12) 3 dX6_rewrites_11 rfl rfl rfl ?_
  refine r_iald E (q := 13) 11 wm_11 (by assumption) dX6_rewrites_12 rfl ?_
  refine r_istore E (q := 15) (lv' := [(0, .ref (ad 0)), (1, .int x), (2, .int rule), (3, .int (G 11 (ix x))), (4, .int (G 11 (ix (G 11 (ix x)))))]) [1, 2, 3, 4, 0] dX6_rewrites_13 (by rw [hz]; decide) rfl rfl ?_
  refine r_aload_n E (q := 16) 0 dX6_rewrites_15 rfl rfl rfl ?_
  refine r_get E (q := 19) fX6_44 0 wm_0 rfl dX6_rewrites_16 rfl ?_
  refine r_iload_n E (q := 20) 3 dX6_rewrites_19 rfl rfl rfl ?_
  refine r_iald E (q := 21) 12 wm_12 (by assumption) dX6_rewrites_20 rfl ?_
  refine r_istore E (q := 23) (lv' := [(0, .ref (ad 0)), (1, .int x), (2, .int rule), (3, .int (G 11 (ix x))), (4, .int (G 11 (ix (G 11 (ix x))))), (5, .int (G 12 (ix (G 11 (ix x)))))]) [1, 2, 3, 4, 5, 0] dX6_rewrites_21 (by rw [hz]; decide) rfl rfl ?_
  refine r_aload_n E (q := 24) 0 dX6_rewrites_23 rfl rfl rfl ?_
  refine r_get E (q := 27) fX6_47 0 wm_0 rfl dX6_rewrites_24 rfl ?_
  refine r_iload_n E (q := 28) 3 dX6_rewrites_27 rfl rfl rfl ?_
  refine r_iald E (q := 29) 13 wm_13 (by assumption) dX6_rewrites_28 rfl ?_
  refine r_istore E (q := 31) (lv' := [(0, .ref (ad 0)), (1, .int x), (2, .int rule), (3, .int (G 11 (ix x))), (4, .int (G 11 (ix (G 11 (ix x))))), (5, .int (G 12 (ix (G 11 (ix x))))), (6, .int (G 13 (ix (G 11 (ix x)))))]) [1, 2, 3, 4, 5, 6, 0] dX6_rewrites_29 (by rw [hz]; decide) rfl rfl ?_
  refine r_aload_n E (q := 32) 0 dX6_rewrites_31 rfl rfl rfl ?_
  refine r_get E (q := 35) fX6_50 0 wm_0 rfl dX6_rewrites_32 rfl ?_
  refine r_iload_n E (q := 36) 3 dX6_rewrites_35 rfl rfl rfl ?_
  refine r_iald E (q := 37) 14 wm_14 (by assumption) dX6_rewrites_36 rfl ?_
  refine r_istore E (q := 39) (lv' := [(0, .ref (ad 0)), (1, .int x), (2, .int rule), (3, .int (G 11 (ix x))), (4, .int (G 11 (ix (G 11 (ix x))))), (5, .int (G 12 (ix (G 11 (ix x))))), (6, .int (G 13 (ix (G 11 (ix x))))), (7, .int (G 14 (ix (G 11 (ix x)))))]) [1, 2, 3, 4, 5, 6, 7, 0] dX6_rewrites_37 (by rw [hz]; decide) rfl rfl ?_
  refine r_aload_n E (q := 40) 0 dX6_rewrites_39 rfl rfl rfl ?_
  refine r_get E (q := 43) fX6_50 0 wm_0 rfl dX6_rewrites_40 rfl ?_
  refine r_iload_n E (q := 44) 1 dX6_rewrites_43 rfl rfl rfl ?_
  refine r_iald E (q := 45) 14 wm_14 (by assumption) dX6_rewrites_44 rfl ?_
  refine r_istore E (q := 47) (lv' := [(0, .ref (ad 0)), (1, .int x), (2, .int rule), (3, .int (G 11 (ix x))), (4, .int (G 11 (ix (G 11 (ix x))))), (5, .int (G 12 (ix (G 11 (ix x))))), (6, .int (G 13 (ix (G 11 (ix x))))), (7, .int (G 14 (ix (G 11 (ix x))))), (8, .int (G 14 (ix x)))]) [1, 2, 3, 4, 5, 6, 7, 8, 0] dX6_rewrites_45 (by rw [hz]; decide) rfl rfl ?_
  refine r_aload_n E (q := 48) 0 dX6_rewrites_47 rfl rfl rfl ?_
  refine r_dup E (q := 49) dX6_rewrites_48 rfl rfl ?_
  refine r_get E (q := 52) fX6_258 0 wm_0 rfl dX6_rewrites_49 rfl ?_
  refine r_iconst E (q := 53) (v := 1) dX6_rewrites_52 (by decide) rfl ?_
  refine r_iadd E (q := 54) dX6_rewrites_53 rfl ?_
  refine r_put E (q := 57) pX6_258 rfl 0 wm_0 rfl rfl (Nat.le_of_ble_eq_true rfl) wmv_2 dX6_rewrites_54 rfl ?_
  refine r_iload_n E (q := 58) 2 dX6_rewrites_57 rfl rfl rfl ?_
  by_cases c1 : rule = 0
  · refine r_tabIn E 0 c1 140 dX6_rewrites_58 (by decide) (by rfl) (by decide) ?_
    refine r_aload_n E (q := 141) 0 dX6_rewrites_140 rfl rfl rfl ?_
    refine r_iconst E (q := 142) (v := 1) dX6_rewrites_141 (by decide) rfl ?_
    refine r_iload E (q := 144) 4 dX6_rewrites_142 rfl rfl ?_
    refine r_iconst E (q := 145) (v := 0) dX6_rewrites_144 (by decide) rfl ?_
    refine r_iconst E (q := 146) (v := 0) dX6_rewrites_145 (by decide) rfl ?_
    refine r_iload E (q := 148) 8 dX6_rewrites_146 rfl rfl ?_
    refine rVi E (q := 151) cvX6_155 T.rr 0 wm_0 rfl [.int 1, .int (G 11 (ix (G 11 (ix x)))), .int 0, .int 0, .int (G 14 (ix x))] (c_X6_lay 1 (G 11 (ix (G 11 (ix x)))) 0 0 (G 14 (ix x)) (by first | assumption | exact fun _ => (h7 (by assumption)).1 | exact fun _ => (h7 (by assumption)).2.1 | exact (h7 (by assumption)).2.2 | exact hr2 (by subst_vars; decide) | exact hr3 (by subst_vars; decide) | exact (hr1 (by first | (intro h; subst_vars; revert h; decide) | (intro h; rcases h with h | h | h | h | h | h | h <;> exact absurd h (by assumption)))))) (by decide) rfl rfl (Nat.le_of_ble_eq_true rfl) ⟨(Nat.le_of_ble_eq_true rfl), (Nat.le_of_ble_eq_true rfl)⟩ dX6_rewrites_148 rfl ?_
    refine r_istore E (q := 153) (lv' := [(0, .ref (ad 0)), (1, .int x), (2, .int rule), (3, .int (G 11 (ix x))), (4, .int (G 11 (ix (G 11 (ix x))))), (5, .int (G 12 (ix (G 11 (ix x))))), (6, .int (G 13 (ix (G 11 (ix x))))), (7, .int (G 14 (ix (G 11 (ix x))))), (8, .int (G 14 (ix x))), (9, .int (fX6_lay G (upd V 2 ((V 2) + 1)) 1 (G 11 (ix (G 11 (ix x)))) 0 0 (G 14 (ix x))))]) [1, 2, 3, 4, 5, 6, 7, 8, 9, 0] dX6_rewrites_151 (by rw [hz]; decide) rfl rfl ?_
    refine r_aload_n E (q := 154) 0 dX6_rewrites_153 rfl rfl rfl ?_
    refine r_iload_n E (q := 155) 1 dX6_rewrites_154 rfl rfl rfl ?_
    refine r_iconst E (q := 156) (v := 2) dX6_rewrites_155 (by decide) rfl ?_
    refine r_iload E (q := 158) 9 dX6_rewrites_156 rfl rfl ?_
    refine r_iconst E (q := 159) (v := 0) dX6_rewrites_158 (by decide) rfl ?_
    refine r_iload E (q := 161) 6 dX6_rewrites_159 rfl rfl ?_
    refine r_iload E (q := 163) 7 dX6_rewrites_161 rfl rfl ?_
    refine rVv E (q := 166) cvX6_136 T.rr 0 wm_0 rfl [.int x, .int 2, .int (fX6_lay G (upd V 2 ((V 2) + 1)) 1 (G 11 (ix (G 11 (ix x)))) 0 0 (G 14 (ix x))), .int 0, .int (G 13 (ix (G 11 (ix x)))), .int (G 14 (ix (G 11 (ix x))))] (c_X6_put x 2 (fX6_lay G (upd V 2 ((V 2) + 1)) 1 (G 11 (ix (G 11 (ix x)))) 0 0 (G 14 (ix x))) 0 (G 13 (ix (G 11 (ix x)))) (G 14 (ix (G 11 (ix x)))) (by first | assumption | exact fun _ => (h7 (by assumption)).1 | exact fun _ => (h7 (by assumption)).2.1 | exact (h7 (by assumption)).2.2 | exact hr2 (by subst_vars; decide) | exact hr3 (by subst_vars; decide) | exact (hr1 (by first | (intro h; subst_vars; revert h; decide) | (intro h; rcases h with h | h | h | h | h | h | h <;> exact absurd h (by assumption)))))) (by decide) rfl rfl (Nat.le_of_ble_eq_true rfl) ⟨(Nat.le_of_ble_eq_true rfl), (Nat.le_of_ble_eq_true rfl)⟩ dX6_rewrites_163 rfl ?_
    refine r_goto E 682 dX6_rewrites_166 (by decide) ?_
    exact r_vret E T dX6_rewrites_682 (eqV.mk (cgM (by unfold fX6_rewrites_G; exact (if_pos c1).symm) (by unfold fX6_rewrites_V; exact (if_pos c1).symm)))
  · by_cases c2 : rule = 1
    · refine r_tabIn E 1 c2 169 dX6_rewrites_58 (by decide) (by rfl) (by decide) ?_
      refine r_aload_n E (q := 170) 0 dX6_rewrites_169 rfl rfl rfl ?_
      refine r_iconst E (q := 171) (v := 1) dX6_rewrites_170 (by decide) rfl ?_
      refine r_iload E (q := 173) 4 dX6_rewrites_171 rfl rfl ?_
      refine r_iconst E (q := 174) (v := 0) dX6_rewrites_173 (by decide) rfl ?_
      refine r_iconst E (q := 175) (v := 0) dX6_rewrites_174 (by decide) rfl ?_
      refine r_iload E (q := 177) 8 dX6_rewrites_175 rfl rfl ?_
      refine rVi E (q := 180) cvX6_155 T.rr 0 wm_0 rfl [.int 1, .int (G 11 (ix (G 11 (ix x)))), .int 0, .int 0, .int (G 14 (ix x))] (c_X6_lay 1 (G 11 (ix (G 11 (ix x)))) 0 0 (G 14 (ix x)) (by first | assumption | exact fun _ => (h7 (by assumption)).1 | exact fun _ => (h7 (by assumption)).2.1 | exact (h7 (by assumption)).2.2 | exact hr2 (by subst_vars; decide) | exact hr3 (by subst_vars; decide) | exact (hr1 (by first | (intro h; subst_vars; revert h; decide) | (intro h; rcases h with h | h | h | h | h | h | h <;> exact absurd h (by assumption)))))) (by decide) rfl rfl (Nat.le_of_ble_eq_true rfl) ⟨(Nat.le_of_ble_eq_true rfl), (Nat.le_of_ble_eq_true rfl)⟩ dX6_rewrites_177 rfl ?_
      refine r_istore E (q := 182) (lv' := [(0, .ref (ad 0)), (1, .int x), (2, .int rule), (3, .int (G 11 (ix x))), (4, .int (G 11 (ix (G 11 (ix x))))), (5, .int (G 12 (ix (G 11 (ix x))))), (6, .int (G 13 (ix (G 11 (ix x))))), (7, .int (G 14 (ix (G 11 (ix x))))), (8, .int (G 14 (ix x))), (9, .int (fX6_lay G (upd V 2 ((V 2) + 1)) 1 (G 11 (ix (G 11 (ix x)))) 0 0 (G 14 (ix x))))]) [1, 2, 3, 4, 5, 6, 7, 8, 9, 0] dX6_rewrites_180 (by rw [hz]; decide) rfl rfl ?_
      refine r_aload_n E (q := 183) 0 dX6_rewrites_182 rfl rfl rfl ?_
      refine r_iload_n E (q := 184) 1 dX6_rewrites_183 rfl rfl rfl ?_
      refine r_iconst E (q := 185) (v := 3) dX6_rewrites_184 (by decide) rfl ?_
      refine r_iload E (q := 187) 9 dX6_rewrites_185 rfl rfl ?_
      refine r_iconst E (q := 188) (v := 0) dX6_rewrites_187 (by decide) rfl ?_
      refine r_iconst E (q := 189) (v := 0) dX6_rewrites_188 (by decide) rfl ?_
      refine r_iload E (q := 191) 7 dX6_rewrites_189 rfl rfl ?_
      refine rVv E (q := 194) cvX6_136 T.rr 0 wm_0 rfl [.int x, .int 3, .int (fX6_lay G (upd V 2 ((V 2) + 1)) 1 (G 11 (ix (G 11 (ix x)))) 0 0 (G 14 (ix x))), .int 0, .int 0, .int (G 14 (ix (G 11 (ix x))))] (c_X6_put x 3 (fX6_lay G (upd V 2 ((V 2) + 1)) 1 (G 11 (ix (G 11 (ix x)))) 0 0 (G 14 (ix x))) 0 0 (G 14 (ix (G 11 (ix x)))) (by first | assumption | exact fun _ => (h7 (by assumption)).1 | exact fun _ => (h7 (by assumption)).2.1 | exact (h7 (by assumption)).2.2 | exact hr2 (by subst_vars; decide) | exact hr3 (by subst_vars; decide) | exact (hr1 (by first | (intro h; subst_vars; revert h; decide) | (intro h; rcases h with h | h | h | h | h | h | h <;> exact absurd h (by assumption)))))) (by decide) rfl rfl (Nat.le_of_ble_eq_true rfl) ⟨(Nat.le_of_ble_eq_true rfl), (Nat.le_of_ble_eq_true rfl)⟩ dX6_rewrites_191 rfl ?_
      refine r_goto E 682 dX6_rewrites_194 (by decide) ?_
      exact r_vret E T dX6_rewrites_682 (eqV.mk (cgM (by unfold fX6_rewrites_G; exact ((if_neg c1).trans (if_pos c2)).symm) (by unfold fX6_rewrites_V; exact ((if_neg c1).trans (if_pos c2)).symm)))
    · by_cases c3 : rule = 2
      · refine r_tabIn E 2 c3 197 dX6_rewrites_58 (by decide) (by rfl) (by decide) ?_
        refine r_aload_n E (q := 198) 0 dX6_rewrites_197 rfl rfl rfl ?_
        refine r_iconst E (q := 199) (v := 1) dX6_rewrites_198 (by decide) rfl ?_
        refine r_iload E (q := 201) 4 dX6_rewrites_199 rfl rfl ?_
        refine r_iconst E (q := 202) (v := 0) dX6_rewrites_201 (by decide) rfl ?_
        refine r_iconst E (q := 203) (v := 0) dX6_rewrites_202 (by decide) rfl ?_
        refine r_iload E (q := 205) 8 dX6_rewrites_203 rfl rfl ?_
        refine rVi E (q := 208) cvX6_155 T.rr 0 wm_0 rfl [.int 1, .int (G 11 (ix (G 11 (ix x)))), .int 0, .int 0, .int (G 14 (ix x))] (c_X6_lay 1 (G 11 (ix (G 11 (ix x)))) 0 0 (G 14 (ix x)) (by first | assumption | exact fun _ => (h7 (by assumption)).1 | exact fun _ => (h7 (by assumption)).2.1 | exact (h7 (by assumption)).2.2 | exact hr2 (by subst_vars; decide) | exact hr3 (by subst_vars; decide) | exact (hr1 (by first | (intro h; subst_vars; revert h; decide) | (intro h; rcases h with h | h | h | h | h | h | h <;> exact absurd h (by assumption)))))) (by decide) rfl rfl (Nat.le_of_ble_eq_true rfl) ⟨(Nat.le_of_ble_eq_true rfl), (Nat.le_of_ble_eq_true rfl)⟩ dX6_rewrites_205 rfl ?_
        refine r_istore E (q := 210) (lv' := [(0, .ref (ad 0)), (1, .int x), (2, .int rule), (3, .int (G 11 (ix x))), (4, .int (G 11 (ix (G 11 (ix x))))), (5, .int (G 12 (ix (G 11 (ix x))))), (6, .int (G 13 (ix (G 11 (ix x))))), (7, .int (G 14 (ix (G 11 (ix x))))), (8, .int (G 14 (ix x))), (9, .int (fX6_lay G (upd V 2 ((V 2) + 1)) 1 (G 11 (ix (G 11 (ix x)))) 0 0 (G 14 (ix x))))]) [1, 2, 3, 4, 5, 6, 7, 8, 9, 0] dX6_rewrites_208 (by rw [hz]; decide) rfl rfl ?_
        refine r_aload_n E (q := 211) 0 dX6_rewrites_210 rfl rfl rfl ?_
        refine r_iload_n E (q := 212) 1 dX6_rewrites_211 rfl rfl rfl ?_
        refine r_iconst E (q := 213) (v := 4) dX6_rewrites_212 (by decide) rfl ?_
        refine r_iload E (q := 215) 9 dX6_rewrites_213 rfl rfl ?_
        refine r_iload E (q := 217) 5 dX6_rewrites_215 rfl rfl ?_
        refine r_iload E (q := 219) 6 dX6_rewrites_217 rfl rfl ?_
        refine r_iload E (q := 221) 7 dX6_rewrites_219 rfl rfl ?_
        refine rVv E (q := 224) cvX6_136 T.rr 0 wm_0 rfl [.int x, .int 4, .int (fX6_lay G (upd V 2 ((V 2) + 1)) 1 (G 11 (ix (G 11 (ix x)))) 0 0 (G 14 (ix x))), .int (G 12 (ix (G 11 (ix x)))), .int (G 13 (ix (G 11 (ix x)))), .int (G 14 (ix (G 11 (ix x))))] (c_X6_put x 4 (fX6_lay G (upd V 2 ((V 2) + 1)) 1 (G 11 (ix (G 11 (ix x)))) 0 0 (G 14 (ix x))) (G 12 (ix (G 11 (ix x)))) (G 13 (ix (G 11 (ix x)))) (G 14 (ix (G 11 (ix x)))) (by first | assumption | exact fun _ => (h7 (by assumption)).1 | exact fun _ => (h7 (by assumption)).2.1 | exact (h7 (by assumption)).2.2 | exact hr2 (by subst_vars; decide) | exact hr3 (by subst_vars; decide) | exact (hr1 (by first | (intro h; subst_vars; revert h; decide) | (intro h; rcases h with h | h | h | h | h | h | h <;> exact absurd h (by assumption)))))) (by decide) rfl rfl (Nat.le_of_ble_eq_true rfl) ⟨(Nat.le_of_ble_eq_true rfl), (Nat.le_of_ble_eq_true rfl)⟩ dX6_rewrites_221 rfl ?_
        refine r_goto E 682 dX6_rewrites_224 (by decide) ?_
        exact r_vret E T dX6_rewrites_682 (eqV.mk (cgM (by unfold fX6_rewrites_G; exact ((if_neg c1).trans ((if_neg c2).trans (if_pos c3))).symm) (by unfold fX6_rewrites_V; exact ((if_neg c1).trans ((if_neg c2).trans (if_pos c3))).symm)))
      · by_cases c4 : rule = 3
        · refine r_tabIn E 3 c4 227 dX6_rewrites_58 (by decide) (by rfl) (by decide) ?_
          refine r_aload_n E (q := 228) 0 dX6_rewrites_227 rfl rfl rfl ?_
          refine r_iconst E (q := 229) (v := 1) dX6_rewrites_228 (by decide) rfl ?_
          refine r_iload E (q := 231) 5 dX6_rewrites_229 rfl rfl ?_
          refine r_iconst E (q := 232) (v := 0) dX6_rewrites_231 (by decide) rfl ?_
          refine r_iconst E (q := 233) (v := 0) dX6_rewrites_232 (by decide) rfl ?_
          refine r_iload E (q := 235) 8 dX6_rewrites_233 rfl rfl ?_
          refine rVi E (q := 238) cvX6_155 T.rr 0 wm_0 rfl [.int 1, .int (G 12 (ix (G 11 (ix x)))), .int 0, .int 0, .int (G 14 (ix x))] (c_X6_lay 1 (G 12 (ix (G 11 (ix x)))) 0 0 (G 14 (ix x)) (by first | assumption | exact fun _ => (h7 (by assumption)).1 | exact fun _ => (h7 (by assumption)).2.1 | exact (h7 (by assumption)).2.2 | exact hr2 (by subst_vars; decide) | exact hr3 (by subst_vars; decide) | exact (hr1 (by first | (intro h; subst_vars; revert h; decide) | (intro h; rcases h with h | h | h | h | h | h | h <;> exact absurd h (by assumption)))))) (by decide) rfl rfl (Nat.le_of_ble_eq_true rfl) ⟨(Nat.le_of_ble_eq_true rfl), (Nat.le_of_ble_eq_true rfl)⟩ dX6_rewrites_235 rfl ?_
          refine r_istore E (q := 240) (lv' := [(0, .ref (ad 0)), (1, .int x), (2, .int rule), (3, .int (G 11 (ix x))), (4, .int (G 11 (ix (G 11 (ix x))))), (5, .int (G 12 (ix (G 11 (ix x))))), (6, .int (G 13 (ix (G 11 (ix x))))), (7, .int (G 14 (ix (G 11 (ix x))))), (8, .int (G 14 (ix x))), (9, .int (fX6_lay G (upd V 2 ((V 2) + 1)) 1 (G 12 (ix (G 11 (ix x)))) 0 0 (G 14 (ix x))))]) [1, 2, 3, 4, 5, 6, 7, 8, 9, 0] dX6_rewrites_238 (by rw [hz]; decide) rfl rfl ?_
          refine r_aload_n E (q := 241) 0 dX6_rewrites_240 rfl rfl rfl ?_
          refine r_iload_n E (q := 242) 1 dX6_rewrites_241 rfl rfl rfl ?_
          refine r_iconst E (q := 243) (v := 4) dX6_rewrites_242 (by decide) rfl ?_
          refine r_iload E (q := 245) 4 dX6_rewrites_243 rfl rfl ?_
          refine r_iload E (q := 247) 9 dX6_rewrites_245 rfl rfl ?_
          refine r_iload E (q := 249) 6 dX6_rewrites_247 rfl rfl ?_
          refine r_iload E (q := 251) 7 dX6_rewrites_249 rfl rfl ?_
          refine rVv E (q := 254) cvX6_136 T.rr 0 wm_0 rfl [.int x, .int 4, .int (G 11 (ix (G 11 (ix x)))), .int (fX6_lay G (upd V 2 ((V 2) + 1)) 1 (G 12 (ix (G 11 (ix x)))) 0 0 (G 14 (ix x))), .int (G 13 (ix (G 11 (ix x)))), .int (G 14 (ix (G 11 (ix x))))] (c_X6_put x 4 (G 11 (ix (G 11 (ix x)))) (fX6_lay G (upd V 2 ((V 2) + 1)) 1 (G 12 (ix (G 11 (ix x)))) 0 0 (G 14 (ix x))) (G 13 (ix (G 11 (ix x)))) (G 14 (ix (G 11 (ix x)))) (by first | assumption | exact fun _ => (h7 (by assumption)).1 | exact fun _ => (h7 (by assumption)).2.1 | exact (h7 (by assumption)).2.2 | exact hr2 (by subst_vars; decide) | exact hr3 (by subst_vars; decide) | exact (hr1 (by first | (intro h; subst_vars; revert h; decide) | (intro h; rcases h with h | h | h | h | h | h | h <;> exact absurd h (by assumption)))))) (by decide) rfl rfl (Nat.le_of_ble_eq_true rfl) ⟨(Nat.le_of_ble_eq_true rfl), (Nat.le_of_ble_eq_true rfl)⟩ dX6_rewrites_251 rfl ?_
          refine r_goto E 682 dX6_rewrites_254 (by decide) ?_
          exact r_vret E T dX6_rewrites_682 (eqV.mk (cgM (by unfold fX6_rewrites_G; exact ((if_neg c1).trans ((if_neg c2).trans ((if_neg c3).trans (if_pos c4)))).symm) (by unfold fX6_rewrites_V; exact ((if_neg c1).trans ((if_neg c2).trans ((if_neg c3).trans (if_pos c4)))).symm)))
        · by_cases c5 : rule = 4
          · refine r_tabIn E 4 c5 257 dX6_rewrites_58 (by decide) (by rfl) (by decide) ?_
            refine r_aload_n E (q := 258) 0 dX6_rewrites_257 rfl rfl rfl ?_
            refine r_iconst E (q := 259) (v := 1) dX6_rewrites_258 (by decide) rfl ?_
            refine r_iload E (q := 261) 4 dX6_rewrites_259 rfl rfl ?_
            refine r_iconst E (q := 262) (v := 0) dX6_rewrites_261 (by decide) rfl ?_
            refine r_iconst E (q := 263) (v := 0) dX6_rewrites_262 (by decide) rfl ?_
            refine r_iload E (q := 265) 8 dX6_rewrites_263 rfl rfl ?_
            refine rVi E (q := 268) cvX6_155 T.rr 0 wm_0 rfl [.int 1, .int (G 11 (ix (G 11 (ix x)))), .int 0, .int 0, .int (G 14 (ix x))] (c_X6_lay 1 (G 11 (ix (G 11 (ix x)))) 0 0 (G 14 (ix x)) (by first | assumption | exact fun _ => (h7 (by assumption)).1 | exact fun _ => (h7 (by assumption)).2.1 | exact (h7 (by assumption)).2.2 | exact hr2 (by subst_vars; decide) | exact hr3 (by subst_vars; decide) | exact (hr1 (by first | (intro h; subst_vars; revert h; decide) | (intro h; rcases h with h | h | h | h | h | h | h <;> exact absurd h (by assumption)))))) (by decide) rfl rfl (Nat.le_of_ble_eq_true rfl) ⟨(Nat.le_of_ble_eq_true rfl), (Nat.le_of_ble_eq_true rfl)⟩ dX6_rewrites_265 rfl ?_
            refine r_istore E (q := 270) (lv' := [(0, .ref (ad 0)), (1, .int x), (2, .int rule), (3, .int (G 11 (ix x))), (4, .int (G 11 (ix (G 11 (ix x))))), (5, .int (G 12 (ix (G 11 (ix x))))), (6, .int (G 13 (ix (G 11 (ix x))))), (7, .int (G 14 (ix (G 11 (ix x))))), (8, .int (G 14 (ix x))), (9, .int (fX6_lay G (upd V 2 ((V 2) + 1)) 1 (G 11 (ix (G 11 (ix x)))) 0 0 (G 14 (ix x))))]) [1, 2, 3, 4, 5, 6, 7, 8, 9, 0] dX6_rewrites_268 (by rw [hz]; decide) rfl rfl ?_
            refine r_aload_n E (q := 271) 0 dX6_rewrites_270 rfl rfl rfl ?_
            refine r_iconst E (q := 272) (v := 1) dX6_rewrites_271 (by decide) rfl ?_
            refine r_iload E (q := 274) 5 dX6_rewrites_272 rfl rfl ?_
            refine r_iconst E (q := 275) (v := 0) dX6_rewrites_274 (by decide) rfl ?_
            refine r_iconst E (q := 276) (v := 0) dX6_rewrites_275 (by decide) rfl ?_
            refine r_iload E (q := 278) 8 dX6_rewrites_276 rfl rfl ?_
            refine rVi E (q := 281) cvX6_155 T.rr 0 wm_0 rfl [.int 1, .int (G 12 (ix (G 11 (ix x)))), .int 0, .int 0, .int (G 14 (ix x))] (c_X6_lay 1 (G 12 (ix (G 11 (ix x)))) 0 0 (G 14 (ix x)) (by first | assumption | exact fun _ => (h7 (by assumption)).1 | exact fun _ => (h7 (by assumption)).2.1 | exact (h7 (by assumption)).2.2 | exact hr2 (by subst_vars; decide) | exact hr3 (by subst_vars; decide) | exact (hr1 (by first | (intro h; subst_vars; revert h; decide) | (intro h; rcases h with h | h | h | h | h | h | h <;> exact absurd h (by assumption)))))) (by decide) rfl rfl (Nat.le_of_ble_eq_true rfl) ⟨(Nat.le_of_ble_eq_true rfl), (Nat.le_of_ble_eq_true rfl)⟩ dX6_rewrites_278 rfl ?_
            refine r_istore E (q := 283) (lv' := [(0, .ref (ad 0)), (1, .int x), (2, .int rule), (3, .int (G 11 (ix x))), (4, .int (G 11 (ix (G 11 (ix x))))), (5, .int (G 12 (ix (G 11 (ix x))))), (6, .int (G 13 (ix (G 11 (ix x))))), (7, .int (G 14 (ix (G 11 (ix x))))), (8, .int (G 14 (ix x))), (9, .int (fX6_lay G (upd V 2 ((V 2) + 1)) 1 (G 11 (ix (G 11 (ix x)))) 0 0 (G 14 (ix x)))), (10, .int (fX6_lay (fX6_lay_G G (upd V 2 ((V 2) + 1)) 1 (G 11 (ix (G 11 (ix x)))) 0 0 (G 14 (ix x))) (fX6_lay_V G (upd V 2 ((V 2) + 1)) 1 (G 11 (ix (G 11 (ix x)))) 0 0 (G 14 (ix x))) 1 (G 12 (ix (G 11 (ix x)))) 0 0 (G 14 (ix x))))]) [1, 2, 3, 4, 5, 6, 7, 8, 9, 10, 0] dX6_rewrites_281 (by rw [hz]; decide) rfl rfl ?_
            refine r_aload_n E (q := 284) 0 dX6_rewrites_283 rfl rfl rfl ?_
            refine r_iload_n E (q := 285) 1 dX6_rewrites_284 rfl rfl rfl ?_
            refine r_iconst E (q := 286) (v := 5) dX6_rewrites_285 (by decide) rfl ?_
            refine r_iload E (q := 288) 9 dX6_rewrites_286 rfl rfl ?_
            refine r_iload E (q := 290) 10 dX6_rewrites_288 rfl rfl ?_
            refine r_iconst E (q := 291) (v := 0) dX6_rewrites_290 (by decide) rfl ?_
            refine r_iconst E (q := 292) (v := 0) dX6_rewrites_291 (by decide) rfl ?_
            refine rVv E (q := 295) cvX6_136 T.rr 0 wm_0 rfl [.int x, .int 5, .int (fX6_lay G (upd V 2 ((V 2) + 1)) 1 (G 11 (ix (G 11 (ix x)))) 0 0 (G 14 (ix x))), .int (fX6_lay (fX6_lay_G G (upd V 2 ((V 2) + 1)) 1 (G 11 (ix (G 11 (ix x)))) 0 0 (G 14 (ix x))) (fX6_lay_V G (upd V 2 ((V 2) + 1)) 1 (G 11 (ix (G 11 (ix x)))) 0 0 (G 14 (ix x))) 1 (G 12 (ix (G 11 (ix x)))) 0 0 (G 14 (ix x))), .int 0, .int 0] (c_X6_put x 5 (fX6_lay G (upd V 2 ((V 2) + 1)) 1 (G 11 (ix (G 11 (ix x)))) 0 0 (G 14 (ix x))) (fX6_lay (fX6_lay_G G (upd V 2 ((V 2) + 1)) 1 (G 11 (ix (G 11 (ix x)))) 0 0 (G 14 (ix x))) (fX6_lay_V G (upd V 2 ((V 2) + 1)) 1 (G 11 (ix (G 11 (ix x)))) 0 0 (G 14 (ix x))) 1 (G 12 (ix (G 11 (ix x)))) 0 0 (G 14 (ix x))) 0 0 (by first | assumption | exact fun _ => (h7 (by assumption)).1 | exact fun _ => (h7 (by assumption)).2.1 | exact (h7 (by assumption)).2.2 | exact hr2 (by subst_vars; decide) | exact hr3 (by subst_vars; decide) | exact (hr1 (by first | (intro h; subst_vars; revert h; decide) | (intro h; rcases h with h | h | h | h | h | h | h <;> exact absurd h (by assumption)))))) (by decide) rfl rfl (Nat.le_of_ble_eq_true rfl) ⟨(Nat.le_of_ble_eq_true rfl), (Nat.le_of_ble_eq_true rfl)⟩ dX6_rewrites_292 rfl ?_
            refine r_goto E 682 dX6_rewrites_295 (by decide) ?_
            exact r_vret E T dX6_rewrites_682 (eqV.mk (cgM (by unfold fX6_rewrites_G; exact ((if_neg c1).trans ((if_neg c2).trans ((if_neg c3).trans ((if_neg c4).trans (if_pos c5))))).symm) (by unfold fX6_rewrites_V; exact ((if_neg c1).trans ((if_neg c2).trans ((if_neg c3).trans ((if_neg c4).trans (if_pos c5))))).symm)))
          · by_cases c6 : rule = 5
            · refine r_tabIn E 5 c6 298 dX6_rewrites_58 (by decide) (by rfl) (by decide) ?_
              refine r_aload_n E (q := 299) 0 dX6_rewrites_298 rfl rfl rfl ?_
              refine r_iconst E (q := 300) (v := 1) dX6_rewrites_299 (by decide) rfl ?_
              refine r_iload E (q := 302) 4 dX6_rewrites_300 rfl rfl ?_
              refine r_iconst E (q := 303) (v := 0) dX6_rewrites_302 (by decide) rfl ?_
              refine r_iconst E (q := 304) (v := 0) dX6_rewrites_303 (by decide) rfl ?_
              refine r_iload E (q := 306) 8 dX6_rewrites_304 rfl rfl ?_
              refine rVi E (q := 309) cvX6_155 T.rr 0 wm_0 rfl [.int 1, .int (G 11 (ix (G 11 (ix x)))), .int 0, .int 0, .int (G 14 (ix x))] (c_X6_lay 1 (G 11 (ix (G 11 (ix x)))) 0 0 (G 14 (ix x)) (by first | assumption | exact fun _ => (h7 (by assumption)).1 | exact fun _ => (h7 (by assumption)).2.1 | exact (h7 (by assumption)).2.2 | exact hr2 (by subst_vars; decide) | exact hr3 (by subst_vars; decide) | exact (hr1 (by first | (intro h; subst_vars; revert h; decide) | (intro h; rcases h with h | h | h | h | h | h | h <;> exact absurd h (by assumption)))))) (by decide) rfl rfl (Nat.le_of_ble_eq_true rfl) ⟨(Nat.le_of_ble_eq_true rfl), (Nat.le_of_ble_eq_true rfl)⟩ dX6_rewrites_306 rfl ?_
              refine r_istore E (q := 311) (lv' := [(0, .ref (ad 0)), (1, .int x), (2, .int rule), (3, .int (G 11 (ix x))), (4, .int (G 11 (ix (G 11 (ix x))))), (5, .int (G 12 (ix (G 11 (ix x))))), (6, .int (G 13 (ix (G 11 (ix x))))), (7, .int (G 14 (ix (G 11 (ix x))))), (8, .int (G 14 (ix x))), (9, .int (fX6_lay G (upd V 2 ((V 2) + 1)) 1 (G 11 (ix (G 11 (ix x)))) 0 0 (G 14 (ix x))))]) [1, 2, 3, 4, 5, 6, 7, 8, 9, 0] dX6_rewrites_309 (by rw [hz]; decide) rfl rfl ?_
              refine r_aload_n E (q := 312) 0 dX6_rewrites_311 rfl rfl rfl ?_
              refine r_iload_n E (q := 313) 1 dX6_rewrites_312 rfl rfl rfl ?_
              refine r_bipush E (q := 315) (v := 6) dX6_rewrites_313 (by decide) rfl ?_
              refine r_iload E (q := 317) 9 dX6_rewrites_315 rfl rfl ?_
              refine r_iconst E (q := 318) (v := 0) dX6_rewrites_317 (by decide) rfl ?_
              refine r_iload E (q := 320) 6 dX6_rewrites_318 rfl rfl ?_
              refine r_iload E (q := 322) 7 dX6_rewrites_320 rfl rfl ?_
              refine rVv E (q := 325) cvX6_136 T.rr 0 wm_0 rfl [.int x, .int 6, .int (fX6_lay G (upd V 2 ((V 2) + 1)) 1 (G 11 (ix (G 11 (ix x)))) 0 0 (G 14 (ix x))), .int 0, .int (G 13 (ix (G 11 (ix x)))), .int (G 14 (ix (G 11 (ix x))))] (c_X6_put x 6 (fX6_lay G (upd V 2 ((V 2) + 1)) 1 (G 11 (ix (G 11 (ix x)))) 0 0 (G 14 (ix x))) 0 (G 13 (ix (G 11 (ix x)))) (G 14 (ix (G 11 (ix x)))) (by first | assumption | exact fun _ => (h7 (by assumption)).1 | exact fun _ => (h7 (by assumption)).2.1 | exact (h7 (by assumption)).2.2 | exact hr2 (by subst_vars; decide) | exact hr3 (by subst_vars; decide) | exact (hr1 (by first | (intro h; subst_vars; revert h; decide) | (intro h; rcases h with h | h | h | h | h | h | h <;> exact absurd h (by assumption)))))) (by decide) rfl rfl (Nat.le_of_ble_eq_true rfl) ⟨(Nat.le_of_ble_eq_true rfl), (Nat.le_of_ble_eq_true rfl)⟩ dX6_rewrites_322 rfl ?_
              refine r_goto E 682 dX6_rewrites_325 (by decide) ?_
              exact r_vret E T dX6_rewrites_682 (eqV.mk (cgM (by unfold fX6_rewrites_G; exact ((if_neg c1).trans ((if_neg c2).trans ((if_neg c3).trans ((if_neg c4).trans ((if_neg c5).trans (if_pos c6)))))).symm) (by unfold fX6_rewrites_V; exact ((if_neg c1).trans ((if_neg c2).trans ((if_neg c3).trans ((if_neg c4).trans ((if_neg c5).trans (if_pos c6)))))).symm)))
            · by_cases c7 : rule = 6
              · refine r_tabIn E 6 c7 328 dX6_rewrites_58 (by decide) (by rfl) (by decide) ?_
                refine r_aload_n E (q := 329) 0 dX6_rewrites_328 rfl rfl rfl ?_
                refine r_iconst E (q := 330) (v := 1) dX6_rewrites_329 (by decide) rfl ?_
                refine r_iload E (q := 332) 4 dX6_rewrites_330 rfl rfl ?_
                refine r_iconst E (q := 333) (v := 0) dX6_rewrites_332 (by decide) rfl ?_
                refine r_iconst E (q := 334) (v := 0) dX6_rewrites_333 (by decide) rfl ?_
                refine r_iload E (q := 336) 8 dX6_rewrites_334 rfl rfl ?_
                refine rVi E (q := 339) cvX6_155 T.rr 0 wm_0 rfl [.int 1, .int (G 11 (ix (G 11 (ix x)))), .int 0, .int 0, .int (G 14 (ix x))] (c_X6_lay 1 (G 11 (ix (G 11 (ix x)))) 0 0 (G 14 (ix x)) (by first | assumption | exact fun _ => (h7 (by assumption)).1 | exact fun _ => (h7 (by assumption)).2.1 | exact (h7 (by assumption)).2.2 | exact hr2 (by subst_vars; decide) | exact hr3 (by subst_vars; decide) | exact (hr1 (by first | (intro h; subst_vars; revert h; decide) | (intro h; rcases h with h | h | h | h | h | h | h <;> exact absurd h (by assumption)))))) (by decide) rfl rfl (Nat.le_of_ble_eq_true rfl) ⟨(Nat.le_of_ble_eq_true rfl), (Nat.le_of_ble_eq_true rfl)⟩ dX6_rewrites_336 rfl ?_
                refine r_istore E (q := 341) (lv' := [(0, .ref (ad 0)), (1, .int x), (2, .int rule), (3, .int (G 11 (ix x))), (4, .int (G 11 (ix (G 11 (ix x))))), (5, .int (G 12 (ix (G 11 (ix x))))), (6, .int (G 13 (ix (G 11 (ix x))))), (7, .int (G 14 (ix (G 11 (ix x))))), (8, .int (G 14 (ix x))), (9, .int (fX6_lay G (upd V 2 ((V 2) + 1)) 1 (G 11 (ix (G 11 (ix x)))) 0 0 (G 14 (ix x))))]) [1, 2, 3, 4, 5, 6, 7, 8, 9, 0] dX6_rewrites_339 (by rw [hz]; decide) rfl rfl ?_
                refine r_aload_n E (q := 342) 0 dX6_rewrites_341 rfl rfl rfl ?_
                refine r_iload_n E (q := 343) 1 dX6_rewrites_342 rfl rfl rfl ?_
                refine r_bipush E (q := 345) (v := 7) dX6_rewrites_343 (by decide) rfl ?_
                refine r_iload E (q := 347) 9 dX6_rewrites_345 rfl rfl ?_
                refine r_iconst E (q := 348) (v := 0) dX6_rewrites_347 (by decide) rfl ?_
                refine r_iconst E (q := 349) (v := 0) dX6_rewrites_348 (by decide) rfl ?_
                refine r_iconst E (q := 350) (v := 0) dX6_rewrites_349 (by decide) rfl ?_
                refine rVv E (q := 353) cvX6_136 T.rr 0 wm_0 rfl [.int x, .int 7, .int (fX6_lay G (upd V 2 ((V 2) + 1)) 1 (G 11 (ix (G 11 (ix x)))) 0 0 (G 14 (ix x))), .int 0, .int 0, .int 0] (c_X6_put x 7 (fX6_lay G (upd V 2 ((V 2) + 1)) 1 (G 11 (ix (G 11 (ix x)))) 0 0 (G 14 (ix x))) 0 0 0 (by first | assumption | exact fun _ => (h7 (by assumption)).1 | exact fun _ => (h7 (by assumption)).2.1 | exact (h7 (by assumption)).2.2 | exact hr2 (by subst_vars; decide) | exact hr3 (by subst_vars; decide) | exact (hr1 (by first | (intro h; subst_vars; revert h; decide) | (intro h; rcases h with h | h | h | h | h | h | h <;> exact absurd h (by assumption)))))) (by decide) rfl rfl (Nat.le_of_ble_eq_true rfl) ⟨(Nat.le_of_ble_eq_true rfl), (Nat.le_of_ble_eq_true rfl)⟩ dX6_rewrites_350 rfl ?_
                refine r_goto E 682 dX6_rewrites_353 (by decide) ?_
                exact r_vret E T dX6_rewrites_682 (eqV.mk (cgM (by unfold fX6_rewrites_G; exact ((if_neg c1).trans ((if_neg c2).trans ((if_neg c3).trans ((if_neg c4).trans ((if_neg c5).trans ((if_neg c6).trans (if_pos c7))))))).symm) (by unfold fX6_rewrites_V; exact ((if_neg c1).trans ((if_neg c2).trans ((if_neg c3).trans ((if_neg c4).trans ((if_neg c5).trans ((if_neg c6).trans (if_pos c7))))))).symm)))
              · by_cases c8 : rule = 7
                · refine r_tabIn E 7 c8 356 dX6_rewrites_58 (by decide) (by rfl) (by decide) ?_
                  refine r_aload_n E (q := 357) 0 dX6_rewrites_356 rfl rfl rfl ?_
                  refine r_bipush E (q := 359) (v := 9) dX6_rewrites_357 (by decide) rfl ?_
                  refine r_iload E (q := 361) 7 dX6_rewrites_359 rfl rfl ?_
                  refine r_iload E (q := 363) 8 dX6_rewrites_361 rfl rfl ?_
                  refine rVi E (q := 366) cvX6_117 T.rr 0 wm_0 rfl [.int 9, .int (G 14 (ix (G 11 (ix x)))), .int (G 14 (ix x))] (c_X6_tell 9 (G 14 (ix (G 11 (ix x)))) (G 14 (ix x)) (by first | assumption | exact fun _ => (h7 (by assumption)).1 | exact fun _ => (h7 (by assumption)).2.1 | exact (h7 (by assumption)).2.2 | exact hr2 (by subst_vars; decide) | exact hr3 (by subst_vars; decide) | exact (hr1 (by first | (intro h; subst_vars; revert h; decide) | (intro h; rcases h with h | h | h | h | h | h | h <;> exact absurd h (by assumption))))) (by first | assumption | exact fun _ => (h7 (by assumption)).1 | exact fun _ => (h7 (by assumption)).2.1 | exact (h7 (by assumption)).2.2 | exact hr2 (by subst_vars; decide) | exact hr3 (by subst_vars; decide) | exact (hr1 (by first | (intro h; subst_vars; revert h; decide) | (intro h; rcases h with h | h | h | h | h | h | h <;> exact absurd h (by assumption))))) (by first | assumption | exact fun _ => (h7 (by assumption)).1 | exact fun _ => (h7 (by assumption)).2.1 | exact (h7 (by assumption)).2.2 | exact hr2 (by subst_vars; decide) | exact hr3 (by subst_vars; decide) | exact (hr1 (by first | (intro h; subst_vars; revert h; decide) | (intro h; rcases h with h | h | h | h | h | h | h <;> exact absurd h (by assumption)))))) (by decide) rfl rfl (Nat.le_of_ble_eq_true rfl) ⟨(Nat.le_of_ble_eq_true rfl), (Nat.le_of_ble_eq_true rfl)⟩ dX6_rewrites_363 rfl ?_
                  refine r_istore E (q := 368) (lv' := [(0, .ref (ad 0)), (1, .int x), (2, .int rule), (3, .int (G 11 (ix x))), (4, .int (G 11 (ix (G 11 (ix x))))), (5, .int (G 12 (ix (G 11 (ix x))))), (6, .int (G 13 (ix (G 11 (ix x))))), (7, .int (G 14 (ix (G 11 (ix x))))), (8, .int (G 14 (ix x))), (9, .int (fX6_tell G (upd V 2 ((V 2) + 1)) 9 (G 14 (ix (G 11 (ix x)))) (G 14 (ix x))))]) [1, 2, 3, 4, 5, 6, 7, 8, 9, 0] dX6_rewrites_366 (by rw [hz]; decide) rfl rfl ?_
                  refine r_aload_n E (q := 369) 0 dX6_rewrites_368 rfl rfl rfl ?_
                  refine r_iload_n E (q := 370) 1 dX6_rewrites_369 rfl rfl rfl ?_
                  refine r_iconst E (q := 371) (v := 1) dX6_rewrites_370 (by decide) rfl ?_
                  refine r_iload E (q := 373) 4 dX6_rewrites_371 rfl rfl ?_
                  refine r_iconst E (q := 374) (v := 0) dX6_rewrites_373 (by decide) rfl ?_
                  refine r_iconst E (q := 375) (v := 0) dX6_rewrites_374 (by decide) rfl ?_
                  refine r_iload E (q := 377) 9 dX6_rewrites_375 rfl rfl ?_
                  refine rVv E (q := 380) cvX6_136 T.rr 0 wm_0 rfl [.int x, .int 1, .int (G 11 (ix (G 11 (ix x)))), .int 0, .int 0, .int (fX6_tell G (upd V 2 ((V 2) + 1)) 9 (G 14 (ix (G 11 (ix x)))) (G 14 (ix x)))] (c_X6_put x 1 (G 11 (ix (G 11 (ix x)))) 0 0 (fX6_tell G (upd V 2 ((V 2) + 1)) 9 (G 14 (ix (G 11 (ix x)))) (G 14 (ix x))) (by first | assumption | exact fun _ => (h7 (by assumption)).1 | exact fun _ => (h7 (by assumption)).2.1 | exact (h7 (by assumption)).2.2 | exact hr2 (by subst_vars; decide) | exact hr3 (by subst_vars; decide) | exact (hr1 (by first | (intro h; subst_vars; revert h; decide) | (intro h; rcases h with h | h | h | h | h | h | h <;> exact absurd h (by assumption)))))) (by decide) rfl rfl (Nat.le_of_ble_eq_true rfl) ⟨(Nat.le_of_ble_eq_true rfl), (Nat.le_of_ble_eq_true rfl)⟩ dX6_rewrites_377 rfl ?_
                  refine r_goto E 682 dX6_rewrites_380 (by decide) ?_
                  exact r_vret E T dX6_rewrites_682 (eqV.mk (cgM (by unfold fX6_rewrites_G; exact ((if_neg c1).trans ((if_neg c2).trans ((if_neg c3).trans ((if_neg c4).trans ((if_neg c5).trans ((if_neg c6).trans ((if_neg c7).trans (if_pos c8)))))))).symm) (by unfold fX6_rewrites_V; exact ((if_neg c1).trans ((if_neg c2).trans ((if_neg c3).trans ((if_neg c4).trans ((if_neg c5).trans ((if_neg c6).trans ((if_neg c7).trans (if_pos c8)))))))).symm)))
                · by_cases c9 : rule = 8
                  · refine r_tabIn E 8 c9 383 dX6_rewrites_58 (by decide) (by rfl) (by decide) ?_
                    refine r_aload_n E (q := 384) 0 dX6_rewrites_383 rfl rfl rfl ?_
                    refine r_iload_n E (q := 385) 1 dX6_rewrites_384 rfl rfl rfl ?_
                    refine r_iconst E (q := 386) (v := 2) dX6_rewrites_385 (by decide) rfl ?_
                    refine r_iload E (q := 388) 4 dX6_rewrites_386 rfl rfl ?_
                    refine r_iconst E (q := 389) (v := 0) dX6_rewrites_388 (by decide) rfl ?_
                    refine r_iload E (q := 391) 6 dX6_rewrites_389 rfl rfl ?_
                    refine r_iload E (q := 393) 8 dX6_rewrites_391 rfl rfl ?_
                    refine rVv E (q := 396) cvX6_136 T.rr 0 wm_0 rfl [.int x, .int 2, .int (G 11 (ix (G 11 (ix x)))), .int 0, .int (G 13 (ix (G 11 (ix x)))), .int (G 14 (ix x))] (c_X6_put x 2 (G 11 (ix (G 11 (ix x)))) 0 (G 13 (ix (G 11 (ix x)))) (G 14 (ix x)) (by first | assumption | exact fun _ => (h7 (by assumption)).1 | exact fun _ => (h7 (by assumption)).2.1 | exact (h7 (by assumption)).2.2 | exact hr2 (by subst_vars; decide) | exact hr3 (by subst_vars; decide) | exact (hr1 (by first | (intro h; subst_vars; revert h; decide) | (intro h; rcases h with h | h | h | h | h | h | h <;> exact absurd h (by assumption)))))) (by decide) rfl rfl (Nat.le_of_ble_eq_true rfl) ⟨(Nat.le_of_ble_eq_true rfl), (Nat.le_of_ble_eq_true rfl)⟩ dX6_rewrites_393 rfl ?_
                    refine r_goto E 682 dX6_rewrites_396 (by decide) ?_
                    exact r_vret E T dX6_rewrites_682 (eqV.mk (cgM (by unfold fX6_rewrites_G; exact ((if_neg c1).trans ((if_neg c2).trans ((if_neg c3).trans ((if_neg c4).trans ((if_neg c5).trans ((if_neg c6).trans ((if_neg c7).trans ((if_neg c8).trans (if_pos c9))))))))).symm) (by unfold fX6_rewrites_V; exact ((if_neg c1).trans ((if_neg c2).trans ((if_neg c3).trans ((if_neg c4).trans ((if_neg c5).trans ((if_neg c6).trans ((if_neg c7).trans ((if_neg c8).trans (if_pos c9))))))))).symm)))
                  · by_cases c10 : rule = 9
                    · refine r_tabIn E 9 c10 399 dX6_rewrites_58 (by decide) (by rfl) (by decide) ?_
                      refine r_aload_n E (q := 400) 0 dX6_rewrites_399 rfl rfl rfl ?_
                      refine r_iload_n E (q := 401) 1 dX6_rewrites_400 rfl rfl rfl ?_
                      refine r_iconst E (q := 402) (v := 3) dX6_rewrites_401 (by decide) rfl ?_
                      refine r_iload E (q := 404) 4 dX6_rewrites_402 rfl rfl ?_
                      refine r_iconst E (q := 405) (v := 0) dX6_rewrites_404 (by decide) rfl ?_
                      refine r_iconst E (q := 406) (v := 0) dX6_rewrites_405 (by decide) rfl ?_
                      refine r_iload E (q := 408) 7 dX6_rewrites_406 rfl rfl ?_
                      refine r_iload E (q := 410) 8 dX6_rewrites_408 rfl rfl ?_
                      refine r_iand E (q := 411) dX6_rewrites_410 rfl ?_
                      refine rVv E (q := 414) cvX6_136 T.rr 0 wm_0 rfl [.int x, .int 3, .int (G 11 (ix (G 11 (ix x)))), .int 0, .int 0, .int ((G 14 (ix (G 11 (ix x)))) &&& (G 14 (ix x)))] (c_X6_put x 3 (G 11 (ix (G 11 (ix x)))) 0 0 ((G 14 (ix (G 11 (ix x)))) &&& (G 14 (ix x))) (by first | assumption | exact fun _ => (h7 (by assumption)).1 | exact fun _ => (h7 (by assumption)).2.1 | exact (h7 (by assumption)).2.2 | exact hr2 (by subst_vars; decide) | exact hr3 (by subst_vars; decide) | exact (hr1 (by first | (intro h; subst_vars; revert h; decide) | (intro h; rcases h with h | h | h | h | h | h | h <;> exact absurd h (by assumption)))))) (by decide) rfl rfl (Nat.le_of_ble_eq_true rfl) ⟨(Nat.le_of_ble_eq_true rfl), (Nat.le_of_ble_eq_true rfl)⟩ dX6_rewrites_411 rfl ?_
                      refine r_goto E 682 dX6_rewrites_414 (by decide) ?_
                      exact r_vret E T dX6_rewrites_682 (eqV.mk (cgM (by unfold fX6_rewrites_G; exact ((if_neg c1).trans ((if_neg c2).trans ((if_neg c3).trans ((if_neg c4).trans ((if_neg c5).trans ((if_neg c6).trans ((if_neg c7).trans ((if_neg c8).trans ((if_neg c9).trans (if_pos c10)))))))))).symm) (by unfold fX6_rewrites_V; exact ((if_neg c1).trans ((if_neg c2).trans ((if_neg c3).trans ((if_neg c4).trans ((if_neg c5).trans ((if_neg c6).trans ((if_neg c7).trans ((if_neg c8).trans ((if_neg c9).trans (if_pos c10)))))))))).symm)))
                    · by_cases c11 : rule = 10
                      · refine r_tabIn E 10 c11 417 dX6_rewrites_58 (by decide) (by rfl) (by decide) ?_
                        refine r_aload_n E (q := 418) 0 dX6_rewrites_417 rfl rfl rfl ?_
                        refine r_iload_n E (q := 419) 1 dX6_rewrites_418 rfl rfl rfl ?_
                        refine r_iconst E (q := 420) (v := 3) dX6_rewrites_419 (by decide) rfl ?_
                        refine r_iload E (q := 422) 4 dX6_rewrites_420 rfl rfl ?_
                        refine r_iconst E (q := 423) (v := 0) dX6_rewrites_422 (by decide) rfl ?_
                        refine r_iconst E (q := 424) (v := 0) dX6_rewrites_423 (by decide) rfl ?_
                        refine r_iload E (q := 426) 8 dX6_rewrites_424 rfl rfl ?_
                        refine rVv E (q := 429) cvX6_136 T.rr 0 wm_0 rfl [.int x, .int 3, .int (G 11 (ix (G 11 (ix x)))), .int 0, .int 0, .int (G 14 (ix x))] (c_X6_put x 3 (G 11 (ix (G 11 (ix x)))) 0 0 (G 14 (ix x)) (by first | assumption | exact fun _ => (h7 (by assumption)).1 | exact fun _ => (h7 (by assumption)).2.1 | exact (h7 (by assumption)).2.2 | exact hr2 (by subst_vars; decide) | exact hr3 (by subst_vars; decide) | exact (hr1 (by first | (intro h; subst_vars; revert h; decide) | (intro h; rcases h with h | h | h | h | h | h | h <;> exact absurd h (by assumption)))))) (by decide) rfl rfl (Nat.le_of_ble_eq_true rfl) ⟨(Nat.le_of_ble_eq_true rfl), (Nat.le_of_ble_eq_true rfl)⟩ dX6_rewrites_426 rfl ?_
                        refine r_goto E 682 dX6_rewrites_429 (by decide) ?_
                        exact r_vret E T dX6_rewrites_682 (eqV.mk (cgM (by unfold fX6_rewrites_G; exact ((if_neg c1).trans ((if_neg c2).trans ((if_neg c3).trans ((if_neg c4).trans ((if_neg c5).trans ((if_neg c6).trans ((if_neg c7).trans ((if_neg c8).trans ((if_neg c9).trans ((if_neg c10).trans (if_pos c11))))))))))).symm) (by unfold fX6_rewrites_V; exact ((if_neg c1).trans ((if_neg c2).trans ((if_neg c3).trans ((if_neg c4).trans ((if_neg c5).trans ((if_neg c6).trans ((if_neg c7).trans ((if_neg c8).trans ((if_neg c9).trans ((if_neg c10).trans (if_pos c11))))))))))).symm)))
                      · by_cases c12 : rule = 11
                        · refine r_tabIn E 11 c12 432 dX6_rewrites_58 (by decide) (by rfl) (by decide) ?_
                          refine r_aload_n E (q := 433) 0 dX6_rewrites_432 rfl rfl rfl ?_
                          refine r_iconst E (q := 434) (v := 3) dX6_rewrites_433 (by decide) rfl ?_
                          refine r_iload E (q := 436) 4 dX6_rewrites_434 rfl rfl ?_
                          refine r_iconst E (q := 437) (v := 0) dX6_rewrites_436 (by decide) rfl ?_
                          refine r_iconst E (q := 438) (v := 0) dX6_rewrites_437 (by decide) rfl ?_
                          refine r_iload E (q := 440) 8 dX6_rewrites_438 rfl rfl ?_
                          refine rVi E (q := 443) cvX6_155 T.rr 0 wm_0 rfl [.int 3, .int (G 11 (ix (G 11 (ix x)))), .int 0, .int 0, .int (G 14 (ix x))] (c_X6_lay 3 (G 11 (ix (G 11 (ix x)))) 0 0 (G 14 (ix x)) (by first | assumption | exact fun _ => (h7 (by assumption)).1 | exact fun _ => (h7 (by assumption)).2.1 | exact (h7 (by assumption)).2.2 | exact hr2 (by subst_vars; decide) | exact hr3 (by subst_vars; decide) | exact (hr1 (by first | (intro h; subst_vars; revert h; decide) | (intro h; rcases h with h | h | h | h | h | h | h <;> exact absurd h (by assumption)))))) (by decide) rfl rfl (Nat.le_of_ble_eq_true rfl) ⟨(Nat.le_of_ble_eq_true rfl), (Nat.le_of_ble_eq_true rfl)⟩ dX6_rewrites_440 rfl ?_
                          refine r_istore E (q := 445) (lv' := [(0, .ref (ad 0)), (1, .int x), (2, .int rule), (3, .int (G 11 (ix x))), (4, .int (G 11 (ix (G 11 (ix x))))), (5, .int (G 12 (ix (G 11 (ix x))))), (6, .int (G 13 (ix (G 11 (ix x))))), (7, .int (G 14 (ix (G 11 (ix x))))), (8, .int (G 14 (ix x))), (9, .int (fX6_lay G (upd V 2 ((V 2) + 1)) 3 (G 11 (ix (G 11 (ix x)))) 0 0 (G 14 (ix x))))]) [1, 2, 3, 4, 5, 6, 7, 8, 9, 0] dX6_rewrites_443 (by rw [hz]; decide) rfl rfl ?_
                          refine r_aload_n E (q := 446) 0 dX6_rewrites_445 rfl rfl rfl ?_
                          refine r_iconst E (q := 447) (v := 3) dX6_rewrites_446 (by decide) rfl ?_
                          refine r_iload E (q := 449) 5 dX6_rewrites_447 rfl rfl ?_
                          refine r_iconst E (q := 450) (v := 0) dX6_rewrites_449 (by decide) rfl ?_
                          refine r_iconst E (q := 451) (v := 0) dX6_rewrites_450 (by decide) rfl ?_
                          refine r_iload E (q := 453) 8 dX6_rewrites_451 rfl rfl ?_
                          refine rVi E (q := 456) cvX6_155 T.rr 0 wm_0 rfl [.int 3, .int (G 12 (ix (G 11 (ix x)))), .int 0, .int 0, .int (G 14 (ix x))] (c_X6_lay 3 (G 12 (ix (G 11 (ix x)))) 0 0 (G 14 (ix x)) (by first | assumption | exact fun _ => (h7 (by assumption)).1 | exact fun _ => (h7 (by assumption)).2.1 | exact (h7 (by assumption)).2.2 | exact hr2 (by subst_vars; decide) | exact hr3 (by subst_vars; decide) | exact (hr1 (by first | (intro h; subst_vars; revert h; decide) | (intro h; rcases h with h | h | h | h | h | h | h <;> exact absurd h (by assumption)))))) (by decide) rfl rfl (Nat.le_of_ble_eq_true rfl) ⟨(Nat.le_of_ble_eq_true rfl), (Nat.le_of_ble_eq_true rfl)⟩ dX6_rewrites_453 rfl ?_
                          refine r_istore E (q := 458) (lv' := [(0, .ref (ad 0)), (1, .int x), (2, .int rule), (3, .int (G 11 (ix x))), (4, .int (G 11 (ix (G 11 (ix x))))), (5, .int (G 12 (ix (G 11 (ix x))))), (6, .int (G 13 (ix (G 11 (ix x))))), (7, .int (G 14 (ix (G 11 (ix x))))), (8, .int (G 14 (ix x))), (9, .int (fX6_lay G (upd V 2 ((V 2) + 1)) 3 (G 11 (ix (G 11 (ix x)))) 0 0 (G 14 (ix x)))), (10, .int (fX6_lay (fX6_lay_G G (upd V 2 ((V 2) + 1)) 3 (G 11 (ix (G 11 (ix x)))) 0 0 (G 14 (ix x))) (fX6_lay_V G (upd V 2 ((V 2) + 1)) 3 (G 11 (ix (G 11 (ix x)))) 0 0 (G 14 (ix x))) 3 (G 12 (ix (G 11 (ix x)))) 0 0 (G 14 (ix x))))]) [1, 2, 3, 4, 5, 6, 7, 8, 9, 10, 0] dX6_rewrites_456 (by rw [hz]; decide) rfl rfl ?_
                          refine r_aload_n E (q := 459) 0 dX6_rewrites_458 rfl rfl rfl ?_
                          refine r_iload_n E (q := 460) 1 dX6_rewrites_459 rfl rfl rfl ?_
                          refine r_iconst E (q := 461) (v := 5) dX6_rewrites_460 (by decide) rfl ?_
                          refine r_iload E (q := 463) 9 dX6_rewrites_461 rfl rfl ?_
                          refine r_iload E (q := 465) 10 dX6_rewrites_463 rfl rfl ?_
                          refine r_iconst E (q := 466) (v := 0) dX6_rewrites_465 (by decide) rfl ?_
                          refine r_iconst E (q := 467) (v := 0) dX6_rewrites_466 (by decide) rfl ?_
                          refine rVv E (q := 470) cvX6_136 T.rr 0 wm_0 rfl [.int x, .int 5, .int (fX6_lay G (upd V 2 ((V 2) + 1)) 3 (G 11 (ix (G 11 (ix x)))) 0 0 (G 14 (ix x))), .int (fX6_lay (fX6_lay_G G (upd V 2 ((V 2) + 1)) 3 (G 11 (ix (G 11 (ix x)))) 0 0 (G 14 (ix x))) (fX6_lay_V G (upd V 2 ((V 2) + 1)) 3 (G 11 (ix (G 11 (ix x)))) 0 0 (G 14 (ix x))) 3 (G 12 (ix (G 11 (ix x)))) 0 0 (G 14 (ix x))), .int 0, .int 0] (c_X6_put x 5 (fX6_lay G (upd V 2 ((V 2) + 1)) 3 (G 11 (ix (G 11 (ix x)))) 0 0 (G 14 (ix x))) (fX6_lay (fX6_lay_G G (upd V 2 ((V 2) + 1)) 3 (G 11 (ix (G 11 (ix x)))) 0 0 (G 14 (ix x))) (fX6_lay_V G (upd V 2 ((V 2) + 1)) 3 (G 11 (ix (G 11 (ix x)))) 0 0 (G 14 (ix x))) 3 (G 12 (ix (G 11 (ix x)))) 0 0 (G 14 (ix x))) 0 0 (by first | assumption | exact fun _ => (h7 (by assumption)).1 | exact fun _ => (h7 (by assumption)).2.1 | exact (h7 (by assumption)).2.2 | exact hr2 (by subst_vars; decide) | exact hr3 (by subst_vars; decide) | exact (hr1 (by first | (intro h; subst_vars; revert h; decide) | (intro h; rcases h with h | h | h | h | h | h | h <;> exact absurd h (by assumption)))))) (by decide) rfl rfl (Nat.le_of_ble_eq_true rfl) ⟨(Nat.le_of_ble_eq_true rfl), (Nat.le_of_ble_eq_true rfl)⟩ dX6_rewrites_467 rfl ?_
                          refine r_goto E 682 dX6_rewrites_470 (by decide) ?_
                          exact r_vret E T dX6_rewrites_682 (eqV.mk (cgM (by unfold fX6_rewrites_G; exact ((if_neg c1).trans ((if_neg c2).trans ((if_neg c3).trans ((if_neg c4).trans ((if_neg c5).trans ((if_neg c6).trans ((if_neg c7).trans ((if_neg c8).trans ((if_neg c9).trans ((if_neg c10).trans ((if_neg c11).trans (if_pos c12)))))))))))).symm) (by unfold fX6_rewrites_V; exact ((if_neg c1).trans ((if_neg c2).trans ((if_neg c3).trans ((if_neg c4).trans ((if_neg c5).trans ((if_neg c6).trans ((if_neg c7).trans ((if_neg c8).trans ((if_neg c9).trans ((if_neg c10).trans ((if_neg c11).trans (if_pos c12)))))))))))).symm)))
                        · by_cases c13 : rule = 12
                          · refine r_tabIn E 12 c13 473 dX6_rewrites_58 (by decide) (by rfl) (by decide) ?_
                            refine r_aload_n E (q := 474) 0 dX6_rewrites_473 rfl rfl rfl ?_
                            refine r_bipush E (q := 476) (v := 6) dX6_rewrites_474 (by decide) rfl ?_
                            refine r_iload E (q := 478) 4 dX6_rewrites_476 rfl rfl ?_
                            refine r_iconst E (q := 479) (v := 0) dX6_rewrites_478 (by decide) rfl ?_
                            refine r_aload_n E (q := 480) 0 dX6_rewrites_479 rfl rfl rfl ?_
                            refine r_get E (q := 483) fX6_47 0 wm_0 rfl dX6_rewrites_480 rfl ?_
                            refine r_iload_n E (q := 484) 1 dX6_rewrites_483 rfl rfl rfl ?_
                            refine r_iald E (q := 485) 13 wm_13 (by assumption) dX6_rewrites_484 rfl ?_
                            refine r_iload E (q := 487) 8 dX6_rewrites_485 rfl rfl ?_
                            refine rVi E (q := 490) cvX6_155 T.rr 0 wm_0 rfl [.int 6, .int (G 11 (ix (G 11 (ix x)))), .int 0, .int (G 13 (ix x)), .int (G 14 (ix x))] (c_X6_lay 6 (G 11 (ix (G 11 (ix x)))) 0 (G 13 (ix x)) (G 14 (ix x)) (by first | assumption | exact fun _ => (h7 (by assumption)).1 | exact fun _ => (h7 (by assumption)).2.1 | exact (h7 (by assumption)).2.2 | exact hr2 (by subst_vars; decide) | exact hr3 (by subst_vars; decide) | exact (hr1 (by first | (intro h; subst_vars; revert h; decide) | (intro h; rcases h with h | h | h | h | h | h | h <;> exact absurd h (by assumption)))))) (by decide) rfl rfl (Nat.le_of_ble_eq_true rfl) ⟨(Nat.le_of_ble_eq_true rfl), (Nat.le_of_ble_eq_true rfl)⟩ dX6_rewrites_487 rfl ?_
                            refine r_istore E (q := 492) (lv' := [(0, .ref (ad 0)), (1, .int x), (2, .int rule), (3, .int (G 11 (ix x))), (4, .int (G 11 (ix (G 11 (ix x))))), (5, .int (G 12 (ix (G 11 (ix x))))), (6, .int (G 13 (ix (G 11 (ix x))))), (7, .int (G 14 (ix (G 11 (ix x))))), (8, .int (G 14 (ix x))), (9, .int (fX6_lay G (upd V 2 ((V 2) + 1)) 6 (G 11 (ix (G 11 (ix x)))) 0 (G 13 (ix x)) (G 14 (ix x))))]) [1, 2, 3, 4, 5, 6, 7, 8, 9, 0] dX6_rewrites_490 (by rw [hz]; decide) rfl rfl ?_
                            refine r_aload_n E (q := 493) 0 dX6_rewrites_492 rfl rfl rfl ?_
                            refine r_bipush E (q := 495) (v := 6) dX6_rewrites_493 (by decide) rfl ?_
                            refine r_iload E (q := 497) 5 dX6_rewrites_495 rfl rfl ?_
                            refine r_iconst E (q := 498) (v := 0) dX6_rewrites_497 (by decide) rfl ?_
                            refine r_aload_n E (q := 499) 0 dX6_rewrites_498 rfl rfl rfl ?_
                            refine r_get E (q := 502) fX6_47 0 wm_0 rfl dX6_rewrites_499 rfl ?_
                            refine r_iload_n E (q := 503) 1 dX6_rewrites_502 rfl rfl rfl ?_
                            refine r_iald E (q := 504) 13 wm_13 (by assumption) dX6_rewrites_503 rfl ?_
                            refine r_iload E (q := 506) 8 dX6_rewrites_504 rfl rfl ?_
                            refine rVi E (q := 509) cvX6_155 T.rr 0 wm_0 rfl [.int 6, .int (G 12 (ix (G 11 (ix x)))), .int 0, .int ((fX6_lay_G G (upd V 2 ((V 2) + 1)) 6 (G 11 (ix (G 11 (ix x)))) 0 (G 13 (ix x)) (G 14 (ix x))) 13 (ix x)), .int (G 14 (ix x))] (c_X6_lay 6 (G 12 (ix (G 11 (ix x)))) 0 ((fX6_lay_G G (upd V 2 ((V 2) + 1)) 6 (G 11 (ix (G 11 (ix x)))) 0 (G 13 (ix x)) (G 14 (ix x))) 13 (ix x)) (G 14 (ix x)) (by first | assumption | exact fun _ => (h7 (by assumption)).1 | exact fun _ => (h7 (by assumption)).2.1 | exact (h7 (by assumption)).2.2 | exact hr2 (by subst_vars; decide) | exact hr3 (by subst_vars; decide) | exact (hr1 (by first | (intro h; subst_vars; revert h; decide) | (intro h; rcases h with h | h | h | h | h | h | h <;> exact absurd h (by assumption)))))) (by decide) rfl rfl (Nat.le_of_ble_eq_true rfl) ⟨(Nat.le_of_ble_eq_true rfl), (Nat.le_of_ble_eq_true rfl)⟩ dX6_rewrites_506 rfl ?_
                            refine r_istore E (q := 511) (lv' := [(0, .ref (ad 0)), (1, .int x), (2, .int rule), (3, .int (G 11 (ix x))), (4, .int (G 11 (ix (G 11 (ix x))))), (5, .int (G 12 (ix (G 11 (ix x))))), (6, .int (G 13 (ix (G 11 (ix x))))), (7, .int (G 14 (ix (G 11 (ix x))))), (8, .int (G 14 (ix x))), (9, .int (fX6_lay G (upd V 2 ((V 2) + 1)) 6 (G 11 (ix (G 11 (ix x)))) 0 (G 13 (ix x)) (G 14 (ix x)))), (10, .int (fX6_lay (fX6_lay_G G (upd V 2 ((V 2) + 1)) 6 (G 11 (ix (G 11 (ix x)))) 0 (G 13 (ix x)) (G 14 (ix x))) (fX6_lay_V G (upd V 2 ((V 2) + 1)) 6 (G 11 (ix (G 11 (ix x)))) 0 (G 13 (ix x)) (G 14 (ix x))) 6 (G 12 (ix (G 11 (ix x)))) 0 ((fX6_lay_G G (upd V 2 ((V 2) + 1)) 6 (G 11 (ix (G 11 (ix x)))) 0 (G 13 (ix x)) (G 14 (ix x))) 13 (ix x)) (G 14 (ix x))))]) [1, 2, 3, 4, 5, 6, 7, 8, 9, 10, 0] dX6_rewrites_509 (by rw [hz]; decide) rfl rfl ?_
                            refine r_aload_n E (q := 512) 0 dX6_rewrites_511 rfl rfl rfl ?_
                            refine r_iload_n E (q := 513) 1 dX6_rewrites_512 rfl rfl rfl ?_
                            refine r_bipush E (q := 515) (v := 6) dX6_rewrites_513 (by decide) rfl ?_
                            refine r_aload_n E (q := 516) 0 dX6_rewrites_515 rfl rfl rfl ?_
                            refine r_iconst E (q := 517) (v := 5) dX6_rewrites_516 (by decide) rfl ?_
                            refine r_iload E (q := 519) 9 dX6_rewrites_517 rfl rfl ?_
                            refine r_iload E (q := 521) 10 dX6_rewrites_519 rfl rfl ?_
                            refine r_iconst E (q := 522) (v := 0) dX6_rewrites_521 (by decide) rfl ?_
                            refine r_iconst E (q := 523) (v := 0) dX6_rewrites_522 (by decide) rfl ?_
                            refine rVi E (q := 526) cvX6_155 T.rr 0 wm_0 rfl [.int 5, .int (fX6_lay G (upd V 2 ((V 2) + 1)) 6 (G 11 (ix (G 11 (ix x)))) 0 (G 13 (ix x)) (G 14 (ix x))), .int (fX6_lay (fX6_lay_G G (upd V 2 ((V 2) + 1)) 6 (G 11 (ix (G 11 (ix x)))) 0 (G 13 (ix x)) (G 14 (ix x))) (fX6_lay_V G (upd V 2 ((V 2) + 1)) 6 (G 11 (ix (G 11 (ix x)))) 0 (G 13 (ix x)) (G 14 (ix x))) 6 (G 12 (ix (G 11 (ix x)))) 0 ((fX6_lay_G G (upd V 2 ((V 2) + 1)) 6 (G 11 (ix (G 11 (ix x)))) 0 (G 13 (ix x)) (G 14 (ix x))) 13 (ix x)) (G 14 (ix x))), .int 0, .int 0] (c_X6_lay 5 (fX6_lay G (upd V 2 ((V 2) + 1)) 6 (G 11 (ix (G 11 (ix x)))) 0 (G 13 (ix x)) (G 14 (ix x))) (fX6_lay (fX6_lay_G G (upd V 2 ((V 2) + 1)) 6 (G 11 (ix (G 11 (ix x)))) 0 (G 13 (ix x)) (G 14 (ix x))) (fX6_lay_V G (upd V 2 ((V 2) + 1)) 6 (G 11 (ix (G 11 (ix x)))) 0 (G 13 (ix x)) (G 14 (ix x))) 6 (G 12 (ix (G 11 (ix x)))) 0 ((fX6_lay_G G (upd V 2 ((V 2) + 1)) 6 (G 11 (ix (G 11 (ix x)))) 0 (G 13 (ix x)) (G 14 (ix x))) 13 (ix x)) (G 14 (ix x))) 0 0 (by first | assumption | exact fun _ => (h7 (by assumption)).1 | exact fun _ => (h7 (by assumption)).2.1 | exact (h7 (by assumption)).2.2 | exact hr2 (by subst_vars; decide) | exact hr3 (by subst_vars; decide) | exact (hr1 (by first | (intro h; subst_vars; revert h; decide) | (intro h; rcases h with h | h | h | h | h | h | h <;> exact absurd h (by assumption)))))) (by decide) rfl rfl (Nat.le_of_ble_eq_true rfl) ⟨(Nat.le_of_ble_eq_true rfl), (Nat.le_of_ble_eq_true rfl)⟩ dX6_rewrites_523 rfl ?_
                            refine r_iconst E (q := 527) (v := 0) dX6_rewrites_526 (by decide) rfl ?_
                            refine r_aload_n E (q := 528) 0 dX6_rewrites_527 rfl rfl rfl ?_
                            refine r_get E (q := 531) fX6_47 0 wm_0 rfl dX6_rewrites_528 rfl ?_
                            refine r_iload_n E (q := 532) 1 dX6_rewrites_531 rfl rfl rfl ?_
                            refine r_iald E (q := 533) 13 wm_13 (by assumption) dX6_rewrites_532 rfl ?_
                            refine r_iload E (q := 535) 8 dX6_rewrites_533 rfl rfl ?_
                            refine rVv E (q := 538) cvX6_136 T.rr 0 wm_0 rfl [.int x, .int 6, .int (fX6_lay (fX6_lay_G (fX6_lay_G G (upd V 2 ((V 2) + 1)) 6 (G 11 (ix (G 11 (ix x)))) 0 (G 13 (ix x)) (G 14 (ix x))) (fX6_lay_V G (upd V 2 ((V 2) + 1)) 6 (G 11 (ix (G 11 (ix x)))) 0 (G 13 (ix x)) (G 14 (ix x))) 6 (G 12 (ix (G 11 (ix x)))) 0 ((fX6_lay_G G (upd V 2 ((V 2) + 1)) 6 (G 11 (ix (G 11 (ix x)))) 0 (G 13 (ix x)) (G 14 (ix x))) 13 (ix x)) (G 14 (ix x))) (fX6_lay_V (fX6_lay_G G (upd V 2 ((V 2) + 1)) 6 (G 11 (ix (G 11 (ix x)))) 0 (G 13 (ix x)) (G 14 (ix x))) (fX6_lay_V G (upd V 2 ((V 2) + 1)) 6 (G 11 (ix (G 11 (ix x)))) 0 (G 13 (ix x)) (G 14 (ix x))) 6 (G 12 (ix (G 11 (ix x)))) 0 ((fX6_lay_G G (upd V 2 ((V 2) + 1)) 6 (G 11 (ix (G 11 (ix x)))) 0 (G 13 (ix x)) (G 14 (ix x))) 13 (ix x)) (G 14 (ix x))) 5 (fX6_lay G (upd V 2 ((V 2) + 1)) 6 (G 11 (ix (G 11 (ix x)))) 0 (G 13 (ix x)) (G 14 (ix x))) (fX6_lay (fX6_lay_G G (upd V 2 ((V 2) + 1)) 6 (G 11 (ix (G 11 (ix x)))) 0 (G 13 (ix x)) (G 14 (ix x))) (fX6_lay_V G (upd V 2 ((V 2) + 1)) 6 (G 11 (ix (G 11 (ix x)))) 0 (G 13 (ix x)) (G 14 (ix x))) 6 (G 12 (ix (G 11 (ix x)))) 0 ((fX6_lay_G G (upd V 2 ((V 2) + 1)) 6 (G 11 (ix (G 11 (ix x)))) 0 (G 13 (ix x)) (G 14 (ix x))) 13 (ix x)) (G 14 (ix x))) 0 0), .int 0, .int ((fX6_lay_G (fX6_lay_G (fX6_lay_G G (upd V 2 ((V 2) + 1)) 6 (G 11 (ix (G 11 (ix x)))) 0 (G 13 (ix x)) (G 14 (ix x))) (fX6_lay_V G (upd V 2 ((V 2) + 1)) 6 (G 11 (ix (G 11 (ix x)))) 0 (G 13 (ix x)) (G 14 (ix x))) 6 (G 12 (ix (G 11 (ix x)))) 0 ((fX6_lay_G G (upd V 2 ((V 2) + 1)) 6 (G 11 (ix (G 11 (ix x)))) 0 (G 13 (ix x)) (G 14 (ix x))) 13 (ix x)) (G 14 (ix x))) (fX6_lay_V (fX6_lay_G G (upd V 2 ((V 2) + 1)) 6 (G 11 (ix (G 11 (ix x)))) 0 (G 13 (ix x)) (G 14 (ix x))) (fX6_lay_V G (upd V 2 ((V 2) + 1)) 6 (G 11 (ix (G 11 (ix x)))) 0 (G 13 (ix x)) (G 14 (ix x))) 6 (G 12 (ix (G 11 (ix x)))) 0 ((fX6_lay_G G (upd V 2 ((V 2) + 1)) 6 (G 11 (ix (G 11 (ix x)))) 0 (G 13 (ix x)) (G 14 (ix x))) 13 (ix x)) (G 14 (ix x))) 5 (fX6_lay G (upd V 2 ((V 2) + 1)) 6 (G 11 (ix (G 11 (ix x)))) 0 (G 13 (ix x)) (G 14 (ix x))) (fX6_lay (fX6_lay_G G (upd V 2 ((V 2) + 1)) 6 (G 11 (ix (G 11 (ix x)))) 0 (G 13 (ix x)) (G 14 (ix x))) (fX6_lay_V G (upd V 2 ((V 2) + 1)) 6 (G 11 (ix (G 11 (ix x)))) 0 (G 13 (ix x)) (G 14 (ix x))) 6 (G 12 (ix (G 11 (ix x)))) 0 ((fX6_lay_G G (upd V 2 ((V 2) + 1)) 6 (G 11 (ix (G 11 (ix x)))) 0 (G 13 (ix x)) (G 14 (ix x))) 13 (ix x)) (G 14 (ix x))) 0 0) 13 (ix x)), .int (G 14 (ix x))] (c_X6_put x 6 (fX6_lay (fX6_lay_G (fX6_lay_G G (upd V 2 ((V 2) + 1)) 6 (G 11 (ix (G 11 (ix x)))) 0 (G 13 (ix x)) (G 14 (ix x))) (fX6_lay_V G (upd V 2 ((V 2) + 1)) 6 (G 11 (ix (G 11 (ix x)))) 0 (G 13 (ix x)) (G 14 (ix x))) 6 (G 12 (ix (G 11 (ix x)))) 0 ((fX6_lay_G G (upd V 2 ((V 2) + 1)) 6 (G 11 (ix (G 11 (ix x)))) 0 (G 13 (ix x)) (G 14 (ix x))) 13 (ix x)) (G 14 (ix x))) (fX6_lay_V (fX6_lay_G G (upd V 2 ((V 2) + 1)) 6 (G 11 (ix (G 11 (ix x)))) 0 (G 13 (ix x)) (G 14 (ix x))) (fX6_lay_V G (upd V 2 ((V 2) + 1)) 6 (G 11 (ix (G 11 (ix x)))) 0 (G 13 (ix x)) (G 14 (ix x))) 6 (G 12 (ix (G 11 (ix x)))) 0 ((fX6_lay_G G (upd V 2 ((V 2) + 1)) 6 (G 11 (ix (G 11 (ix x)))) 0 (G 13 (ix x)) (G 14 (ix x))) 13 (ix x)) (G 14 (ix x))) 5 (fX6_lay G (upd V 2 ((V 2) + 1)) 6 (G 11 (ix (G 11 (ix x)))) 0 (G 13 (ix x)) (G 14 (ix x))) (fX6_lay (fX6_lay_G G (upd V 2 ((V 2) + 1)) 6 (G 11 (ix (G 11 (ix x)))) 0 (G 13 (ix x)) (G 14 (ix x))) (fX6_lay_V G (upd V 2 ((V 2) + 1)) 6 (G 11 (ix (G 11 (ix x)))) 0 (G 13 (ix x)) (G 14 (ix x))) 6 (G 12 (ix (G 11 (ix x)))) 0 ((fX6_lay_G G (upd V 2 ((V 2) + 1)) 6 (G 11 (ix (G 11 (ix x)))) 0 (G 13 (ix x)) (G 14 (ix x))) 13 (ix x)) (G 14 (ix x))) 0 0) 0 ((fX6_lay_G (fX6_lay_G (fX6_lay_G G (upd V 2 ((V 2) + 1)) 6 (G 11 (ix (G 11 (ix x)))) 0 (G 13 (ix x)) (G 14 (ix x))) (fX6_lay_V G (upd V 2 ((V 2) + 1)) 6 (G 11 (ix (G 11 (ix x)))) 0 (G 13 (ix x)) (G 14 (ix x))) 6 (G 12 (ix (G 11 (ix x)))) 0 ((fX6_lay_G G (upd V 2 ((V 2) + 1)) 6 (G 11 (ix (G 11 (ix x)))) 0 (G 13 (ix x)) (G 14 (ix x))) 13 (ix x)) (G 14 (ix x))) (fX6_lay_V (fX6_lay_G G (upd V 2 ((V 2) + 1)) 6 (G 11 (ix (G 11 (ix x)))) 0 (G 13 (ix x)) (G 14 (ix x))) (fX6_lay_V G (upd V 2 ((V 2) + 1)) 6 (G 11 (ix (G 11 (ix x)))) 0 (G 13 (ix x)) (G 14 (ix x))) 6 (G 12 (ix (G 11 (ix x)))) 0 ((fX6_lay_G G (upd V 2 ((V 2) + 1)) 6 (G 11 (ix (G 11 (ix x)))) 0 (G 13 (ix x)) (G 14 (ix x))) 13 (ix x)) (G 14 (ix x))) 5 (fX6_lay G (upd V 2 ((V 2) + 1)) 6 (G 11 (ix (G 11 (ix x)))) 0 (G 13 (ix x)) (G 14 (ix x))) (fX6_lay (fX6_lay_G G (upd V 2 ((V 2) + 1)) 6 (G 11 (ix (G 11 (ix x)))) 0 (G 13 (ix x)) (G 14 (ix x))) (fX6_lay_V G (upd V 2 ((V 2) + 1)) 6 (G 11 (ix (G 11 (ix x)))) 0 (G 13 (ix x)) (G 14 (ix x))) 6 (G 12 (ix (G 11 (ix x)))) 0 ((fX6_lay_G G (upd V 2 ((V 2) + 1)) 6 (G 11 (ix (G 11 (ix x)))) 0 (G 13 (ix x)) (G 14 (ix x))) 13 (ix x)) (G 14 (ix x))) 0 0) 13 (ix x)) (G 14 (ix x)) (by first | assumption | exact fun _ => (h7 (by assumption)).1 | exact fun _ => (h7 (by assumption)).2.1 | exact (h7 (by assumption)).2.2 | exact hr2 (by subst_vars; decide) | exact hr3 (by subst_vars; decide) | exact (hr1 (by first | (intro h; subst_vars; revert h; decide) | (intro h; rcases h with h | h | h | h | h | h | h <;> exact absurd h (by assumption)))))) (by decide) rfl rfl (Nat.le_of_ble_eq_true rfl) ⟨(Nat.le_of_ble_eq_true rfl), (Nat.le_of_ble_eq_true rfl)⟩ dX6_rewrites_535 rfl ?_
                            refine r_goto E 682 dX6_rewrites_538 (by decide) ?_
                            exact r_vret E T dX6_rewrites_682 (eqV.mk (cgM (by unfold fX6_rewrites_G; exact ((if_neg c1).trans ((if_neg c2).trans ((if_neg c3).trans ((if_neg c4).trans ((if_neg c5).trans ((if_neg c6).trans ((if_neg c7).trans ((if_neg c8).trans ((if_neg c9).trans ((if_neg c10).trans ((if_neg c11).trans ((if_neg c12).trans (if_pos c13))))))))))))).symm) (by unfold fX6_rewrites_V; exact ((if_neg c1).trans ((if_neg c2).trans ((if_neg c3).trans ((if_neg c4).trans ((if_neg c5).trans ((if_neg c6).trans ((if_neg c7).trans ((if_neg c8).trans ((if_neg c9).trans ((if_neg c10).trans ((if_neg c11).trans ((if_neg c12).trans (if_pos c13))))))))))))).symm)))
                          · by_cases c14 : rule = 13
                            · refine r_tabIn E 13 c14 541 dX6_rewrites_58 (by decide) (by rfl) (by decide) ?_
                              refine r_aload_n E (q := 542) 0 dX6_rewrites_541 rfl rfl rfl ?_
                              refine r_iload_n E (q := 543) 1 dX6_rewrites_542 rfl rfl rfl ?_
                              refine r_bipush E (q := 545) (v := 6) dX6_rewrites_543 (by decide) rfl ?_
                              refine r_iload E (q := 547) 4 dX6_rewrites_545 rfl rfl ?_
                              refine r_iconst E (q := 548) (v := 0) dX6_rewrites_547 (by decide) rfl ?_
                              refine r_aload_n E (q := 549) 0 dX6_rewrites_548 rfl rfl rfl ?_
                              refine r_get E (q := 552) fX6_47 0 wm_0 rfl dX6_rewrites_549 rfl ?_
                              refine r_iload_n E (q := 553) 1 dX6_rewrites_552 rfl rfl rfl ?_
                              refine r_iald E (q := 554) 13 wm_13 (by assumption) dX6_rewrites_553 rfl ?_
                              refine r_iload E (q := 556) 8 dX6_rewrites_554 rfl rfl ?_
                              refine rVv E (q := 559) cvX6_136 T.rr 0 wm_0 rfl [.int x, .int 6, .int (G 11 (ix (G 11 (ix x)))), .int 0, .int (G 13 (ix x)), .int (G 14 (ix x))] (c_X6_put x 6 (G 11 (ix (G 11 (ix x)))) 0 (G 13 (ix x)) (G 14 (ix x)) (by first | assumption | exact fun _ => (h7 (by assumption)).1 | exact fun _ => (h7 (by assumption)).2.1 | exact (h7 (by assumption)).2.2 | exact hr2 (by subst_vars; decide) | exact hr3 (by subst_vars; decide) | exact (hr1 (by first | (intro h; subst_vars; revert h; decide) | (intro h; rcases h with h | h | h | h | h | h | h <;> exact absurd h (by assumption)))))) (by decide) rfl rfl (Nat.le_of_ble_eq_true rfl) ⟨(Nat.le_of_ble_eq_true rfl), (Nat.le_of_ble_eq_true rfl)⟩ dX6_rewrites_556 rfl ?_
                              refine r_goto E 682 dX6_rewrites_559 (by decide) ?_
                              exact r_vret E T dX6_rewrites_682 (eqV.mk (cgM (by unfold fX6_rewrites_G; exact ((if_neg c1).trans ((if_neg c2).trans ((if_neg c3).trans ((if_neg c4).trans ((if_neg c5).trans ((if_neg c6).trans ((if_neg c7).trans ((if_neg c8).trans ((if_neg c9).trans ((if_neg c10).trans ((if_neg c11).trans ((if_neg c12).trans ((if_neg c13).trans (if_pos c14)))))))))))))).symm) (by unfold fX6_rewrites_V; exact ((if_neg c1).trans ((if_neg c2).trans ((if_neg c3).trans ((if_neg c4).trans ((if_neg c5).trans ((if_neg c6).trans ((if_neg c7).trans ((if_neg c8).trans ((if_neg c9).trans ((if_neg c10).trans ((if_neg c11).trans ((if_neg c12).trans ((if_neg c13).trans (if_pos c14)))))))))))))).symm)))
                            · by_cases c15 : rule = 14
                              · refine r_tabIn E 14 c15 562 dX6_rewrites_58 (by decide) (by rfl) (by decide) ?_
                                refine r_aload_n E (q := 563) 0 dX6_rewrites_562 rfl rfl rfl ?_
                                refine r_iload_n E (q := 564) 1 dX6_rewrites_563 rfl rfl rfl ?_
                                refine r_bipush E (q := 566) (v := 7) dX6_rewrites_564 (by decide) rfl ?_
                                refine r_iload E (q := 568) 4 dX6_rewrites_566 rfl rfl ?_
                                refine r_iconst E (q := 569) (v := 0) dX6_rewrites_568 (by decide) rfl ?_
                                refine r_iconst E (q := 570) (v := 0) dX6_rewrites_569 (by decide) rfl ?_
                                refine r_iconst E (q := 571) (v := 0) dX6_rewrites_570 (by decide) rfl ?_
                                refine rVv E (q := 574) cvX6_136 T.rr 0 wm_0 rfl [.int x, .int 7, .int (G 11 (ix (G 11 (ix x)))), .int 0, .int 0, .int 0] (c_X6_put x 7 (G 11 (ix (G 11 (ix x)))) 0 0 0 (by first | assumption | exact fun _ => (h7 (by assumption)).1 | exact fun _ => (h7 (by assumption)).2.1 | exact (h7 (by assumption)).2.2 | exact hr2 (by subst_vars; decide) | exact hr3 (by subst_vars; decide) | exact (hr1 (by first | (intro h; subst_vars; revert h; decide) | (intro h; rcases h with h | h | h | h | h | h | h <;> exact absurd h (by assumption)))))) (by decide) rfl rfl (Nat.le_of_ble_eq_true rfl) ⟨(Nat.le_of_ble_eq_true rfl), (Nat.le_of_ble_eq_true rfl)⟩ dX6_rewrites_571 rfl ?_
                                refine r_goto E 682 dX6_rewrites_574 (by decide) ?_
                                exact r_vret E T dX6_rewrites_682 (eqV.mk (cgM (by unfold fX6_rewrites_G; exact ((if_neg c1).trans ((if_neg c2).trans ((if_neg c3).trans ((if_neg c4).trans ((if_neg c5).trans ((if_neg c6).trans ((if_neg c7).trans ((if_neg c8).trans ((if_neg c9).trans ((if_neg c10).trans ((if_neg c11).trans ((if_neg c12).trans ((if_neg c13).trans ((if_neg c14).trans (if_pos c15))))))))))))))).symm) (by unfold fX6_rewrites_V; exact ((if_neg c1).trans ((if_neg c2).trans ((if_neg c3).trans ((if_neg c4).trans ((if_neg c5).trans ((if_neg c6).trans ((if_neg c7).trans ((if_neg c8).trans ((if_neg c9).trans ((if_neg c10).trans ((if_neg c11).trans ((if_neg c12).trans ((if_neg c13).trans ((if_neg c14).trans (if_pos c15))))))))))))))).symm)))
                              · by_cases c16 : rule = 15
                                · refine r_tabIn E 15 c16 577 dX6_rewrites_58 (by decide) (by rfl) (by decide) ?_
                                  refine r_aload_n E (q := 578) 0 dX6_rewrites_577 rfl rfl rfl ?_
                                  refine r_iload_n E (q := 579) 1 dX6_rewrites_578 rfl rfl rfl ?_
                                  refine r_bipush E (q := 581) (v := 8) dX6_rewrites_579 (by decide) rfl ?_
                                  refine r_iload E (q := 583) 4 dX6_rewrites_581 rfl rfl ?_
                                  refine r_iconst E (q := 584) (v := 0) dX6_rewrites_583 (by decide) rfl ?_
                                  refine r_iconst E (q := 585) (v := 0) dX6_rewrites_584 (by decide) rfl ?_
                                  refine r_iload E (q := 587) 7 dX6_rewrites_585 rfl rfl ?_
                                  refine r_iload E (q := 589) 8 dX6_rewrites_587 rfl rfl ?_
                                  refine r_join 599 (if G 14 (ix x) ≤ G 14 (ix (G 11 (ix x))) then (G 14 (ix x)) else (G 14 (ix (G 11 (ix x))))) (rest := [.int 0, .int 0, .int (G 11 (ix (G 11 (ix x)))), .int 8, .int x, .ref (ad 0)]) ?_ (fun hj1 => ?_)
                                  · refine rVv E (q := 602) cvX6_136 T.rr 0 wm_0 rfl [.int x, .int 8, .int (G 11 (ix (G 11 (ix x)))), .int 0, .int 0, .int (if G 14 (ix x) ≤ G 14 (ix (G 11 (ix x))) then (G 14 (ix x)) else (G 14 (ix (G 11 (ix x)))))] (c_X6_put x 8 (G 11 (ix (G 11 (ix x)))) 0 0 (if G 14 (ix x) ≤ G 14 (ix (G 11 (ix x))) then (G 14 (ix x)) else (G 14 (ix (G 11 (ix x))))) (by first | assumption | exact fun _ => (h7 (by assumption)).1 | exact fun _ => (h7 (by assumption)).2.1 | exact (h7 (by assumption)).2.2 | exact hr2 (by subst_vars; decide) | exact hr3 (by subst_vars; decide) | exact (hr1 (by first | (intro h; subst_vars; revert h; decide) | (intro h; rcases h with h | h | h | h | h | h | h <;> exact absurd h (by assumption)))))) (by decide) rfl rfl (Nat.le_of_ble_eq_true rfl) ⟨(Nat.le_of_ble_eq_true rfl), (Nat.le_of_ble_eq_true rfl)⟩ dX6_rewrites_599 rfl ?_
                                    refine r_goto E 682 dX6_rewrites_602 (by decide) ?_
                                    exact r_vret E T dX6_rewrites_682 (eqV.mk (cgM (by unfold fX6_rewrites_G; exact ((if_neg c1).trans ((if_neg c2).trans ((if_neg c3).trans ((if_neg c4).trans ((if_neg c5).trans ((if_neg c6).trans ((if_neg c7).trans ((if_neg c8).trans ((if_neg c9).trans ((if_neg c10).trans ((if_neg c11).trans ((if_neg c12).trans ((if_neg c13).trans ((if_neg c14).trans ((if_neg c15).trans (if_pos c16)))))))))))))))).symm) (by unfold fX6_rewrites_V; exact ((if_neg c1).trans ((if_neg c2).trans ((if_neg c3).trans ((if_neg c4).trans ((if_neg c5).trans ((if_neg c6).trans ((if_neg c7).trans ((if_neg c8).trans ((if_neg c9).trans ((if_neg c10).trans ((if_neg c11).trans ((if_neg c12).trans ((if_neg c13).trans ((if_neg c14).trans ((if_neg c15).trans (if_pos c16)))))))))))))))).symm)))
                                  · refine r_icmp_ge E (q := 592) 597 dX6_rewrites_589 (by decide) rfl (fun c17 => ?_) (fun c17 => ?_)
                                    · refine r_iload E (q := 599) 8 dX6_rewrites_597 rfl rfl ?_
                                      exact hj1 _ (if_pos c17).symm
                                    · refine r_iload E (q := 594) 7 dX6_rewrites_592 rfl rfl ?_
                                      refine r_goto E 599 dX6_rewrites_594 (by decide) ?_
                                      exact hj1 _ (if_neg c17).symm
                                · by_cases c18 : rule = 16
                                  · refine r_tabIn E 16 c18 605 dX6_rewrites_58 (by decide) (by rfl) (by decide) ?_
                                    refine r_aload_n E (q := 606) 0 dX6_rewrites_605 rfl rfl rfl ?_
                                    refine r_bipush E (q := 608) (v := 7) dX6_rewrites_606 (by decide) rfl ?_
                                    refine r_iload E (q := 610) 4 dX6_rewrites_608 rfl rfl ?_
                                    refine r_iconst E (q := 611) (v := 0) dX6_rewrites_610 (by decide) rfl ?_
                                    refine r_iconst E (q := 612) (v := 0) dX6_rewrites_611 (by decide) rfl ?_
                                    refine r_iconst E (q := 613) (v := 0) dX6_rewrites_612 (by decide) rfl ?_
                                    refine rVi E (q := 616) cvX6_155 T.rr 0 wm_0 rfl [.int 7, .int (G 11 (ix (G 11 (ix x)))), .int 0, .int 0, .int 0] (c_X6_lay 7 (G 11 (ix (G 11 (ix x)))) 0 0 0 (by first | assumption | exact fun _ => (h7 (by assumption)).1 | exact fun _ => (h7 (by assumption)).2.1 | exact (h7 (by assumption)).2.2 | exact hr2 (by subst_vars; decide) | exact hr3 (by subst_vars; decide) | exact (hr1 (by first | (intro h; subst_vars; revert h; decide) | (intro h; rcases h with h | h | h | h | h | h | h <;> exact absurd h (by assumption)))))) (by decide) rfl rfl (Nat.le_of_ble_eq_true rfl) ⟨(Nat.le_of_ble_eq_true rfl), (Nat.le_of_ble_eq_true rfl)⟩ dX6_rewrites_613 rfl ?_
                                    refine r_istore E (q := 618) (lv' := [(0, .ref (ad 0)), (1, .int x), (2, .int rule), (3, .int (G 11 (ix x))), (4, .int (G 11 (ix (G 11 (ix x))))), (5, .int (G 12 (ix (G 11 (ix x))))), (6, .int (G 13 (ix (G 11 (ix x))))), (7, .int (G 14 (ix (G 11 (ix x))))), (8, .int (G 14 (ix x))), (9, .int (fX6_lay G (upd V 2 ((V 2) + 1)) 7 (G 11 (ix (G 11 (ix x)))) 0 0 0))]) [1, 2, 3, 4, 5, 6, 7, 8, 9, 0] dX6_rewrites_616 (by rw [hz]; decide) rfl rfl ?_
                                    refine r_aload_n E (q := 619) 0 dX6_rewrites_618 rfl rfl rfl ?_
                                    refine r_bipush E (q := 621) (v := 7) dX6_rewrites_619 (by decide) rfl ?_
                                    refine r_iload E (q := 623) 5 dX6_rewrites_621 rfl rfl ?_
                                    refine r_iconst E (q := 624) (v := 0) dX6_rewrites_623 (by decide) rfl ?_
                                    refine r_iconst E (q := 625) (v := 0) dX6_rewrites_624 (by decide) rfl ?_
                                    refine r_iconst E (q := 626) (v := 0) dX6_rewrites_625 (by decide) rfl ?_
                                    refine rVi E (q := 629) cvX6_155 T.rr 0 wm_0 rfl [.int 7, .int (G 12 (ix (G 11 (ix x)))), .int 0, .int 0, .int 0] (c_X6_lay 7 (G 12 (ix (G 11 (ix x)))) 0 0 0 (by first | assumption | exact fun _ => (h7 (by assumption)).1 | exact fun _ => (h7 (by assumption)).2.1 | exact (h7 (by assumption)).2.2 | exact hr2 (by subst_vars; decide) | exact hr3 (by subst_vars; decide) | exact (hr1 (by first | (intro h; subst_vars; revert h; decide) | (intro h; rcases h with h | h | h | h | h | h | h <;> exact absurd h (by assumption)))))) (by decide) rfl rfl (Nat.le_of_ble_eq_true rfl) ⟨(Nat.le_of_ble_eq_true rfl), (Nat.le_of_ble_eq_true rfl)⟩ dX6_rewrites_626 rfl ?_
                                    refine r_istore E (q := 631) (lv' := [(0, .ref (ad 0)), (1, .int x), (2, .int rule), (3, .int (G 11 (ix x))), (4, .int (G 11 (ix (G 11 (ix x))))), (5, .int (G 12 (ix (G 11 (ix x))))), (6, .int (G 13 (ix (G 11 (ix x))))), (7, .int (G 14 (ix (G 11 (ix x))))), (8, .int (G 14 (ix x))), (9, .int (fX6_lay G (upd V 2 ((V 2) + 1)) 7 (G 11 (ix (G 11 (ix x)))) 0 0 0)), (10, .int (fX6_lay (fX6_lay_G G (upd V 2 ((V 2) + 1)) 7 (G 11 (ix (G 11 (ix x)))) 0 0 0) (fX6_lay_V G (upd V 2 ((V 2) + 1)) 7 (G 11 (ix (G 11 (ix x)))) 0 0 0) 7 (G 12 (ix (G 11 (ix x)))) 0 0 0))]) [1, 2, 3, 4, 5, 6, 7, 8, 9, 10, 0] dX6_rewrites_629 (by rw [hz]; decide) rfl rfl ?_
                                    refine r_aload_n E (q := 632) 0 dX6_rewrites_631 rfl rfl rfl ?_
                                    refine r_iload_n E (q := 633) 1 dX6_rewrites_632 rfl rfl rfl ?_
                                    refine r_bipush E (q := 635) (v := 7) dX6_rewrites_633 (by decide) rfl ?_
                                    refine r_aload_n E (q := 636) 0 dX6_rewrites_635 rfl rfl rfl ?_
                                    refine r_iconst E (q := 637) (v := 5) dX6_rewrites_636 (by decide) rfl ?_
                                    refine r_iload E (q := 639) 9 dX6_rewrites_637 rfl rfl ?_
                                    refine r_iload E (q := 641) 10 dX6_rewrites_639 rfl rfl ?_
                                    refine r_iconst E (q := 642) (v := 0) dX6_rewrites_641 (by decide) rfl ?_
                                    refine r_iconst E (q := 643) (v := 0) dX6_rewrites_642 (by decide) rfl ?_
                                    refine rVi E (q := 646) cvX6_155 T.rr 0 wm_0 rfl [.int 5, .int (fX6_lay G (upd V 2 ((V 2) + 1)) 7 (G 11 (ix (G 11 (ix x)))) 0 0 0), .int (fX6_lay (fX6_lay_G G (upd V 2 ((V 2) + 1)) 7 (G 11 (ix (G 11 (ix x)))) 0 0 0) (fX6_lay_V G (upd V 2 ((V 2) + 1)) 7 (G 11 (ix (G 11 (ix x)))) 0 0 0) 7 (G 12 (ix (G 11 (ix x)))) 0 0 0), .int 0, .int 0] (c_X6_lay 5 (fX6_lay G (upd V 2 ((V 2) + 1)) 7 (G 11 (ix (G 11 (ix x)))) 0 0 0) (fX6_lay (fX6_lay_G G (upd V 2 ((V 2) + 1)) 7 (G 11 (ix (G 11 (ix x)))) 0 0 0) (fX6_lay_V G (upd V 2 ((V 2) + 1)) 7 (G 11 (ix (G 11 (ix x)))) 0 0 0) 7 (G 12 (ix (G 11 (ix x)))) 0 0 0) 0 0 (by first | assumption | exact fun _ => (h7 (by assumption)).1 | exact fun _ => (h7 (by assumption)).2.1 | exact (h7 (by assumption)).2.2 | exact hr2 (by subst_vars; decide) | exact hr3 (by subst_vars; decide) | exact (hr1 (by first | (intro h; subst_vars; revert h; decide) | (intro h; rcases h with h | h | h | h | h | h | h <;> exact absurd h (by assumption)))))) (by decide) rfl rfl (Nat.le_of_ble_eq_true rfl) ⟨(Nat.le_of_ble_eq_true rfl), (Nat.le_of_ble_eq_true rfl)⟩ dX6_rewrites_643 rfl ?_
                                    refine r_iconst E (q := 647) (v := 0) dX6_rewrites_646 (by decide) rfl ?_
                                    refine r_iconst E (q := 648) (v := 0) dX6_rewrites_647 (by decide) rfl ?_
                                    refine r_iconst E (q := 649) (v := 0) dX6_rewrites_648 (by decide) rfl ?_
                                    refine rVv E (q := 652) cvX6_136 T.rr 0 wm_0 rfl [.int x, .int 7, .int (fX6_lay (fX6_lay_G (fX6_lay_G G (upd V 2 ((V 2) + 1)) 7 (G 11 (ix (G 11 (ix x)))) 0 0 0) (fX6_lay_V G (upd V 2 ((V 2) + 1)) 7 (G 11 (ix (G 11 (ix x)))) 0 0 0) 7 (G 12 (ix (G 11 (ix x)))) 0 0 0) (fX6_lay_V (fX6_lay_G G (upd V 2 ((V 2) + 1)) 7 (G 11 (ix (G 11 (ix x)))) 0 0 0) (fX6_lay_V G (upd V 2 ((V 2) + 1)) 7 (G 11 (ix (G 11 (ix x)))) 0 0 0) 7 (G 12 (ix (G 11 (ix x)))) 0 0 0) 5 (fX6_lay G (upd V 2 ((V 2) + 1)) 7 (G 11 (ix (G 11 (ix x)))) 0 0 0) (fX6_lay (fX6_lay_G G (upd V 2 ((V 2) + 1)) 7 (G 11 (ix (G 11 (ix x)))) 0 0 0) (fX6_lay_V G (upd V 2 ((V 2) + 1)) 7 (G 11 (ix (G 11 (ix x)))) 0 0 0) 7 (G 12 (ix (G 11 (ix x)))) 0 0 0) 0 0), .int 0, .int 0, .int 0] (c_X6_put x 7 (fX6_lay (fX6_lay_G (fX6_lay_G G (upd V 2 ((V 2) + 1)) 7 (G 11 (ix (G 11 (ix x)))) 0 0 0) (fX6_lay_V G (upd V 2 ((V 2) + 1)) 7 (G 11 (ix (G 11 (ix x)))) 0 0 0) 7 (G 12 (ix (G 11 (ix x)))) 0 0 0) (fX6_lay_V (fX6_lay_G G (upd V 2 ((V 2) + 1)) 7 (G 11 (ix (G 11 (ix x)))) 0 0 0) (fX6_lay_V G (upd V 2 ((V 2) + 1)) 7 (G 11 (ix (G 11 (ix x)))) 0 0 0) 7 (G 12 (ix (G 11 (ix x)))) 0 0 0) 5 (fX6_lay G (upd V 2 ((V 2) + 1)) 7 (G 11 (ix (G 11 (ix x)))) 0 0 0) (fX6_lay (fX6_lay_G G (upd V 2 ((V 2) + 1)) 7 (G 11 (ix (G 11 (ix x)))) 0 0 0) (fX6_lay_V G (upd V 2 ((V 2) + 1)) 7 (G 11 (ix (G 11 (ix x)))) 0 0 0) 7 (G 12 (ix (G 11 (ix x)))) 0 0 0) 0 0) 0 0 0 (by first | assumption | exact fun _ => (h7 (by assumption)).1 | exact fun _ => (h7 (by assumption)).2.1 | exact (h7 (by assumption)).2.2 | exact hr2 (by subst_vars; decide) | exact hr3 (by subst_vars; decide) | exact (hr1 (by first | (intro h; subst_vars; revert h; decide) | (intro h; rcases h with h | h | h | h | h | h | h <;> exact absurd h (by assumption)))))) (by decide) rfl rfl (Nat.le_of_ble_eq_true rfl) ⟨(Nat.le_of_ble_eq_true rfl), (Nat.le_of_ble_eq_true rfl)⟩ dX6_rewrites_649 rfl ?_
                                    refine r_goto E 682 dX6_rewrites_652 (by decide) ?_
                                    exact r_vret E T dX6_rewrites_682 (eqV.mk (cgM (by unfold fX6_rewrites_G; exact ((if_neg c1).trans ((if_neg c2).trans ((if_neg c3).trans ((if_neg c4).trans ((if_neg c5).trans ((if_neg c6).trans ((if_neg c7).trans ((if_neg c8).trans ((if_neg c9).trans ((if_neg c10).trans ((if_neg c11).trans ((if_neg c12).trans ((if_neg c13).trans ((if_neg c14).trans ((if_neg c15).trans ((if_neg c16).trans (if_pos c18))))))))))))))))).symm) (by unfold fX6_rewrites_V; exact ((if_neg c1).trans ((if_neg c2).trans ((if_neg c3).trans ((if_neg c4).trans ((if_neg c5).trans ((if_neg c6).trans ((if_neg c7).trans ((if_neg c8).trans ((if_neg c9).trans ((if_neg c10).trans ((if_neg c11).trans ((if_neg c12).trans ((if_neg c13).trans ((if_neg c14).trans ((if_neg c15).trans ((if_neg c16).trans (if_pos c18))))))))))))))))).symm)))
                                  · refine r_tabOut E 655 dX6_rewrites_58 (sw_out (fun j hj e => by match j with | 0 => exact c1 (e.trans (by decide)) | 1 => exact c2 (e.trans (by decide)) | 2 => exact c3 (e.trans (by decide)) | 3 => exact c4 (e.trans (by decide)) | 4 => exact c5 (e.trans (by decide)) | 5 => exact c6 (e.trans (by decide)) | 6 => exact c7 (e.trans (by decide)) | 7 => exact c8 (e.trans (by decide)) | 8 => exact c9 (e.trans (by decide)) | 9 => exact c10 (e.trans (by decide)) | 10 => exact c11 (e.trans (by decide)) | 11 => exact c12 (e.trans (by decide)) | 12 => exact c13 (e.trans (by decide)) | 13 => exact c14 (e.trans (by decide)) | 14 => exact c15 (e.trans (by decide)) | 15 => exact c16 (e.trans (by decide)) | 16 => exact c18 (e.trans (by decide)) | j + 17 => omega)) (by decide) ?_
                                    refine r_aload_n E (q := 656) 0 dX6_rewrites_655 rfl rfl rfl ?_
                                    refine r_bipush E (q := 658) (v := 8) dX6_rewrites_656 (by decide) rfl ?_
                                    refine r_iload E (q := 660) 4 dX6_rewrites_658 rfl rfl ?_
                                    refine r_iconst E (q := 661) (v := 0) dX6_rewrites_660 (by decide) rfl ?_
                                    refine r_iconst E (q := 662) (v := 0) dX6_rewrites_661 (by decide) rfl ?_
                                    refine r_iload E (q := 664) 8 dX6_rewrites_662 rfl rfl ?_
                                    refine rVi E (q := 667) cvX6_155 T.rr 0 wm_0 rfl [.int 8, .int (G 11 (ix (G 11 (ix x)))), .int 0, .int 0, .int (G 14 (ix x))] (c_X6_lay 8 (G 11 (ix (G 11 (ix x)))) 0 0 (G 14 (ix x)) (by first | assumption | exact fun _ => (h7 (by assumption)).1 | exact fun _ => (h7 (by assumption)).2.1 | exact (h7 (by assumption)).2.2 | exact hr2 (by subst_vars; decide) | exact hr3 (by subst_vars; decide) | exact (hr1 (by first | (intro h; subst_vars; revert h; decide) | (intro h; rcases h with h | h | h | h | h | h | h <;> exact absurd h (by assumption)))))) (by decide) rfl rfl (Nat.le_of_ble_eq_true rfl) ⟨(Nat.le_of_ble_eq_true rfl), (Nat.le_of_ble_eq_true rfl)⟩ dX6_rewrites_664 rfl ?_
                                    refine r_istore E (q := 669) (lv' := [(0, .ref (ad 0)), (1, .int x), (2, .int rule), (3, .int (G 11 (ix x))), (4, .int (G 11 (ix (G 11 (ix x))))), (5, .int (G 12 (ix (G 11 (ix x))))), (6, .int (G 13 (ix (G 11 (ix x))))), (7, .int (G 14 (ix (G 11 (ix x))))), (8, .int (G 14 (ix x))), (9, .int (fX6_lay G (upd V 2 ((V 2) + 1)) 8 (G 11 (ix (G 11 (ix x)))) 0 0 (G 14 (ix x))))]) [1, 2, 3, 4, 5, 6, 7, 8, 9, 0] dX6_rewrites_667 (by rw [hz]; decide) rfl rfl ?_
                                    refine r_aload_n E (q := 670) 0 dX6_rewrites_669 rfl rfl rfl ?_
                                    refine r_iload_n E (q := 671) 1 dX6_rewrites_670 rfl rfl rfl ?_
                                    refine r_iconst E (q := 672) (v := 2) dX6_rewrites_671 (by decide) rfl ?_
                                    refine r_iload E (q := 674) 9 dX6_rewrites_672 rfl rfl ?_
                                    refine r_iconst E (q := 675) (v := 0) dX6_rewrites_674 (by decide) rfl ?_
                                    refine r_iload E (q := 677) 6 dX6_rewrites_675 rfl rfl ?_
                                    refine r_iload E (q := 679) 7 dX6_rewrites_677 rfl rfl ?_
                                    refine rVv E (q := 682) cvX6_136 T.rr 0 wm_0 rfl [.int x, .int 2, .int (fX6_lay G (upd V 2 ((V 2) + 1)) 8 (G 11 (ix (G 11 (ix x)))) 0 0 (G 14 (ix x))), .int 0, .int (G 13 (ix (G 11 (ix x)))), .int (G 14 (ix (G 11 (ix x))))] (c_X6_put x 2 (fX6_lay G (upd V 2 ((V 2) + 1)) 8 (G 11 (ix (G 11 (ix x)))) 0 0 (G 14 (ix x))) 0 (G 13 (ix (G 11 (ix x)))) (G 14 (ix (G 11 (ix x)))) (by first | assumption | exact fun _ => (h7 (by assumption)).1 | exact fun _ => (h7 (by assumption)).2.1 | exact (h7 (by assumption)).2.2 | exact hr2 (by subst_vars; decide) | exact hr3 (by subst_vars; decide) | exact (hr1 (by first | (intro h; subst_vars; revert h; decide) | (intro h; rcases h with h | h | h | h | h | h | h <;> exact absurd h (by assumption)))))) (by decide) rfl rfl (Nat.le_of_ble_eq_true rfl) ⟨(Nat.le_of_ble_eq_true rfl), (Nat.le_of_ble_eq_true rfl)⟩ dX6_rewrites_679 rfl ?_
                                    exact r_vret E T dX6_rewrites_682 (eqV.mk (cgM (by unfold fX6_rewrites_G; exact ((if_neg c1).trans ((if_neg c2).trans ((if_neg c3).trans ((if_neg c4).trans ((if_neg c5).trans ((if_neg c6).trans ((if_neg c7).trans ((if_neg c8).trans ((if_neg c9).trans ((if_neg c10).trans ((if_neg c11).trans ((if_neg c12).trans ((if_neg c13).trans ((if_neg c14).trans ((if_neg c15).trans ((if_neg c16).trans (if_neg c18))))))))))))))))).symm) (by unfold fX6_rewrites_V; exact ((if_neg c1).trans ((if_neg c2).trans ((if_neg c3).trans ((if_neg c4).trans ((if_neg c5).trans ((if_neg c6).trans ((if_neg c7).trans ((if_neg c8).trans ((if_neg c9).trans ((if_neg c10).trans ((if_neg c11).trans ((if_neg c12).trans ((if_neg c13).trans ((if_neg c14).trans ((if_neg c15).trans ((if_neg c16).trans (if_neg c18))))))))))))))))).symm)))
