def fX6_in (v : Int64) (low : Int64) (high : Int64) : Int32 := if lg_cmp v low < 0 then 0 else (if 0 < lg_cmp v high then 0 else 1)
theorem b_X6_in (v : Int64) (low : Int64) (high : Int64) : fX6_in v low high = 0 ∨ fX6_in v low high = 1 := (b01 (Or.inl rfl) (b01 (Or.inl rfl) (Or.inr rfl)))
set_option maxRecDepth 100000 in
set_option maxHeartbeats 800000 in
theorem c_X6_in {l : Launch} {k : Kt} {ad : Nat → Nat} {G : Nat → Nat → Int32} {V : Nat → Int32} (v : Int64) (low : Int64) (high : Int64) : CT l k yX6_in cX6_in 6 (some .boolean) 0 [.long v, .long low, .long high] (WM k ad G V) (eqI (fX6_in v low high) (WM k ad G V)) 0 0 := by
  refine ct_of (own := RX6) (lv0 := [(0, .long v), (2, .long low), (4, .long high)]) (by decide) rfl (Nat.le_of_ble_eq_true rfl) rfl ?_
  rintro z rfl rfl hz - E T
  refine r_lload_n E (q := 1) 0 dX6_in_0 rfl rfl rfl ?_
  refine r_lload_n E (q := 2) 1 dX6_in_1 rfl rfl rfl ?_
  refine r_lcmp E (q := 3) dX6_in_2 rfl ?_
  refine r_join 18 (if lg_cmp v low < 0 then 0 else (if 0 < lg_cmp v high then 0 else 1)) (rest := []) ?_ (fun hj1 => ?_)
  · exact r_zret E T (b01 (Or.inl rfl) (b01 (Or.inl rfl) (Or.inr rfl))) dX6_in_18 (eqI.mk (by unfold fX6_in; exact rfl) rfl)
  · refine r_if_lt E (q := 6) 17 dX6_in_3 (by decide) rfl (fun c1 => ?_) (fun c1 => ?_)
    · refine r_iconst E (q := 18) (v := 0) dX6_in_17 (by decide) rfl ?_
      exact hj1 _ (if_pos c1).symm
    · refine r_lload_n E (q := 7) 0 dX6_in_6 rfl rfl rfl ?_
      refine r_lload E (q := 9) 2 dX6_in_7 rfl rfl ?_
      refine r_lcmp E (q := 10) dX6_in_9 rfl ?_
      refine r_if_gt E (q := 13) 17 dX6_in_10 (by decide) rfl (fun c2 => ?_) (fun c2 => ?_)
      · refine r_iconst E (q := 18) (v := 0) dX6_in_17 (by decide) rfl ?_
        exact hj1 _ ((if_neg c1).trans (if_pos c2)).symm
      · refine r_iconst E (q := 14) (v := 1) dX6_in_13 (by decide) rfl ?_
        refine r_goto E 18 dX6_in_14 (by decide) ?_
        exact hj1 _ ((if_neg c1).trans (if_neg c2)).symm
theorem lg_lt {x y : Int64} : lg_cmp x y < 0 ↔ x.toInt < y.toInt := by
  unfold lg_cmp
  by_cases h1 : x > y
  · rw [if_pos h1]; have h1 := Int64.lt_iff_toInt_lt.mp h1
    exact ⟨fun h => absurd h (by decide), fun h => by omega⟩
  · rw [if_neg h1]; have h1 : ¬ y.toInt < x.toInt := fun h => h1 (Int64.lt_iff_toInt_lt.mpr h)
    by_cases h2 : x = y
    · rw [if_pos h2]; subst h2; exact ⟨fun h => absurd h (by decide), fun h => by omega⟩
    · rw [if_neg h2]; have h2 : x.toInt ≠ y.toInt := fun h => h2 (Int64.toInt_inj.mp h)
      exact ⟨fun _ => by omega, fun _ => by decide⟩
theorem lg_gt {x y : Int64} : 0 < lg_cmp x y ↔ y.toInt < x.toInt := by
  unfold lg_cmp
  by_cases h1 : x > y
  · rw [if_pos h1]; have h1 := Int64.lt_iff_toInt_lt.mp h1
    exact ⟨fun _ => h1, fun _ => by decide⟩
  · rw [if_neg h1]; have h1 : ¬ y.toInt < x.toInt := fun h => h1 (Int64.lt_iff_toInt_lt.mpr h)
    refine ⟨fun h => ?_, fun h => absurd h h1⟩
    by_cases h2 : x = y
    · rw [if_pos h2] at h; exact absurd h (by decide)
    · rw [if_neg h2] at h; exact absurd h (by decide)
/-- in(x, 0, m) of an int -/
theorem in_iff {x : Int32} {m : Nat} (hm : m < 2 ^ 31) : fX6_in x.toInt64 0 (Int64.ofNat m) = (if x < 0 then 0 else if nI m < x then 0 else 1) := by
  have e0 : (0 : Int64).toInt = 0 := rfl
  have em : (Int64.ofNat m).toInt = (m : Int) := pk_lT (by omega)
  have ex : x.toInt64.toInt = x.toInt := Int32.toInt_toInt64 x
  unfold fX6_in
  simp only [lg_lt, lg_gt]
  simp only [Int32.lt_iff_toInt_lt, e0, em, ex, nI_toInt hm, Int32.toInt_zero]
theorem in_of {x : Int32} {m : Nat} (hm : m < 2 ^ 31 - 1) (h : ¬ fX6_in x.toInt64 0 (Int64.ofNat m) = 0) : vp_in x (m + 1) := by
  rw [in_iff (by omega)] at h
  by_cases c1 : x < 0
  · rw [if_pos c1] at h; exact absurd rfl h
  · rw [if_neg c1] at h
    by_cases c2 : nI m < x
    · rw [if_pos c2] at h; exact absurd rfl h
    · rw [Int32.lt_iff_toInt_lt, nI_toInt (by omega)] at c2
      rw [Int32.lt_iff_toInt_lt, Int32.toInt_zero] at c1
      exact vp_in_iff.mpr ⟨by omega, by omega⟩
/-- in(x, 0, y - 1), y a count -/
theorem in_cnt {x y : Int32} {j : Nat} (hj : j < 2 ^ 31) (hy : y = nI j) : fX6_in x.toInt64 0 (y - 1).toInt64 = (if x < 0 then 0 else if nI j ≤ x then 0 else 1) := by
  have e0 : (0 : Int64).toInt = 0 := rfl
  have ex : x.toInt64.toInt = x.toInt := Int32.toInt_toInt64 x
  have ey : (y - 1).toInt64.toInt = (j : Int) - 1 := by
    rw [Int32.toInt_toInt64, hy]
    rcases Nat.eq_zero_or_pos j with rfl | hp
    · rfl
    · obtain ⟨i, rfl⟩ : ∃ i, j = i + 1 := ⟨j - 1, by omega⟩
      rw [nI_pred, nI_toInt (by omega)]; omega
  unfold fX6_in
  simp only [lg_lt, lg_gt]
  simp only [Int32.lt_iff_toInt_lt, Int32.le_iff_toInt_le, e0, ex, ey, nI_toInt hj, Int32.toInt_zero]
  by_cases c : x.toInt < 0
  · simp [c]
  · rw [if_neg c, if_neg c]
    by_cases c2 : (j : Int) ≤ x.toInt
    · rw [if_pos (by omega), if_pos c2]
    · rw [if_neg (by omega), if_neg c2]
theorem in_cnt_of {x y : Int32} {j m : Nat} (hy : y = nI j) (hj : j ≤ m) (hm : m < 2 ^ 31) (h : ¬ fX6_in x.toInt64 0 (y - 1).toInt64 = 0) : vp_in x m := by
  rw [in_cnt (by omega) hy] at h
  by_cases c1 : x < 0
  · rw [if_pos c1] at h; exact absurd rfl h
  · rw [if_neg c1] at h
    by_cases c2 : nI j ≤ x
    · rw [if_pos c2] at h; exact absurd rfl h
    · rw [Int32.le_iff_toInt_le, nI_toInt (by omega)] at c2
      rw [Int32.lt_iff_toInt_lt, Int32.toInt_zero] at c1
      exact vp_in_iff.mpr ⟨by omega, by omega⟩
theorem ref_at {source y : Int32} {d : Nat} (hd : d < 3) (hs : vp_in source 4) (hy : ∃ j : Nat, j ≤ 6 ∧ y = nI j) (h6 : ¬ y = 6) : vp_in (18 * source + 3 * y + nI d) 72 := by
  obtain ⟨i, hi, rfl⟩ := vp_in_of hs (by decide)
  obtain ⟨j, hj, rfl⟩ := hy
  have h : j ≠ 6 := fun h => h6 (by rw [h]; rfl)
  rw [show (18 : Int32) = nI 18 from rfl, show (3 : Int32) = nI 3 from rfl, pk_mul, pk_mul, nI_add, nI_add]
  exact vp_in_nI (by omega) (by omega)
theorem ref_at0 {source y : Int32} (hs : vp_in source 4) (hy : ∃ j : Nat, j ≤ 6 ∧ y = nI j) (h6 : ¬ y = 6) : vp_in ((18 * source) + (3 * y)) 72 := by
  have h := ref_at (d := 0) (by omega) hs hy h6
  rwa [nI_0, Int32.add_zero] at h
theorem ref_at1 {source y : Int32} (hs : vp_in source 4) (hy : ∃ j : Nat, j ≤ 6 ∧ y = nI j) (h6 : ¬ y = 6) : vp_in (((18 * source) + (3 * y)) + 1) 72 := by
  rw [show (1 : Int32) = nI 1 from rfl]; exact ref_at (by omega) hs hy h6
theorem ref_at2 {source y : Int32} (hs : vp_in source 4) (hy : ∃ j : Nat, j ≤ 6 ∧ y = nI j) (h6 : ¬ y = 6) : vp_in (((18 * source) + (3 * y)) + 2) 72 := by
  rw [show (2 : Int32) = nI 2 from rfl]; exact ref_at (by omega) hs hy h6
theorem ix_lt {x : Int32} {n : Nat} (h : vp_in x n) : ix x < n := Nat.not_le.mp fun q => h (Or.inr q)
def fX6_row (G : Nat → Nat → Int32) (source : Int32) (a : Int32) (b : Int32) (c : Int32) : Int32 := if fX6_in source.toInt64 0 3 = 0 then (-1) else (if G 1 (ix source) = 6 then (-2) else ((ug (ug (ug (ug G 2 (ix ((18 * source) + (3 * (G 1 (ix source))))) a) 2 (ix (((18 * source) + (3 * (G 1 (ix source)))) + 1)) b) 2 (ix (((18 * source) + (3 * (G 1 (ix source)))) + 2)) c) 1 (ix source) (((ug (ug (ug G 2 (ix ((18 * source) + (3 * (G 1 (ix source))))) a) 2 (ix (((18 * source) + (3 * (G 1 (ix source)))) + 1)) b) 2 (ix (((18 * source) + (3 * (G 1 (ix source)))) + 2)) c) 1 (ix source)) + 1)) 1 (ix source)))
def fX6_row_G (G : Nat → Nat → Int32) (source : Int32) (a : Int32) (b : Int32) (c : Int32) : Nat → Nat → Int32 := if fX6_in source.toInt64 0 3 = 0 then G else (if G 1 (ix source) = 6 then G else (ug (ug (ug (ug G 2 (ix ((18 * source) + (3 * (G 1 (ix source))))) a) 2 (ix (((18 * source) + (3 * (G 1 (ix source)))) + 1)) b) 2 (ix (((18 * source) + (3 * (G 1 (ix source)))) + 2)) c) 1 (ix source) (((ug (ug (ug G 2 (ix ((18 * source) + (3 * (G 1 (ix source))))) a) 2 (ix (((18 * source) + (3 * (G 1 (ix source)))) + 1)) b) 2 (ix (((18 * source) + (3 * (G 1 (ix source)))) + 2)) c) 1 (ix source)) + 1)))
set_option maxRecDepth 100000 in
set_option maxHeartbeats 800000 in
theorem c_X6_row {l : Launch} {k : Kt} {ad : Nat → Nat} {G : Nat → Nat → Int32} {V : Nat → Int32} (source : Int32) (a : Int32) (b : Int32) (c : Int32) (hy : ∀ i : Nat, i < 4 → ∃ j : Nat, j ≤ 6 ∧ G 1 i = nI j) : CT l k yX6_row cX6_row 6 (some .int) 1 [.ref (ad 0), .int source, .int a, .int b, .int c] (WM k ad G V) (eqI (fX6_row G source a b c) (WM k ad (fX6_row_G G source a b c) V)) 0 0 := by
  refine ct_of (own := RX6) (lv0 := [(0, .ref (ad 0)), (1, .int source), (2, .int a), (3, .int b), (4, .int c)]) (by decide) rfl (Nat.le_of_ble_eq_true rfl) rfl ?_
  rintro z rfl rfl hz - E T
  refine r_iload_n E (q := 1) 1 dX6_row_0 rfl rfl rfl ?_
  refine r_i2l E (q := 2) dX6_row_1 rfl ?_
  refine r_lconst E (q := 3) (v := 0) dX6_row_2 (by decide) rfl ?_
  refine r_ldc2 E (q := 6) kX6_88 dX6_row_3 rfl ?_
  refine rSi E (q := 9) csX6_90 T.rr [.long source.toInt64, .long 0, .long 3] (c_X6_in source.toInt64 0 3) (by decide) rfl rfl (Nat.le_of_ble_eq_true rfl) ⟨(Nat.le_of_ble_eq_true rfl), (Nat.le_of_ble_eq_true rfl)⟩ dX6_row_6 rfl ?_
  refine r_if_ne E (q := 12) 14 dX6_row_9 (by decide) rfl (fun c1 => ?_) (fun c1 => ?_)
  · refine r_aload_n E (q := 15) 0 dX6_row_14 rfl rfl rfl ?_
    refine r_get E (q := 18) fX6_7 0 wm_0 rfl dX6_row_15 rfl ?_
    refine r_iload_n E (q := 19) 1 dX6_row_18 rfl rfl rfl ?_
    refine r_iald E (q := 20) 1 wm_1 (in_of (m := 3) (by omega) (by assumption)) dX6_row_19 rfl ?_
    refine r_bipush E (q := 22) (v := 6) dX6_row_20 (by decide) rfl ?_
    refine r_icmp_ne E (q := 25) 28 dX6_row_22 (by decide) rfl (fun c2 => ?_) (fun c2 => ?_)
    · refine r_bipush E (q := 30) (v := 18) dX6_row_28 (by decide) rfl ?_
      refine r_iload_n E (q := 31) 1 dX6_row_30 rfl rfl rfl ?_
      refine r_imul E (q := 32) dX6_row_31 rfl ?_
      refine r_iconst E (q := 33) (v := 3) dX6_row_32 (by decide) rfl ?_
      refine r_aload_n E (q := 34) 0 dX6_row_33 rfl rfl rfl ?_
      refine r_get E (q := 37) fX6_7 0 wm_0 rfl dX6_row_34 rfl ?_
      refine r_iload_n E (q := 38) 1 dX6_row_37 rfl rfl rfl ?_
      refine r_iald E (q := 39) 1 wm_1 (in_of (m := 3) (by omega) (by assumption)) dX6_row_38 rfl ?_
      refine r_imul E (q := 40) dX6_row_39 rfl ?_
      refine r_iadd E (q := 41) dX6_row_40 rfl ?_
      refine r_istore E (q := 43) (lv' := [(0, .ref (ad 0)), (1, .int source), (2, .int a), (3, .int b), (4, .int c), (5, .int ((18 * source) + (3 * (G 1 (ix source)))))]) [1, 2, 3, 4, 5, 0] dX6_row_41 (by rw [hz]; decide) rfl rfl ?_
      refine r_aload_n E (q := 44) 0 dX6_row_43 rfl rfl rfl ?_
      refine r_get E (q := 47) fX6_13 0 wm_0 rfl dX6_row_44 rfl ?_
      refine r_iload E (q := 49) 5 dX6_row_47 rfl rfl ?_
      refine r_iload_n E (q := 50) 2 dX6_row_49 rfl rfl rfl ?_
      refine r_iast E (q := 51) 2 wm_2 (ref_at0 (in_of (m := 3) (by omega) (by assumption)) (hy _ (ix_lt (in_of (m := 3) (by omega) (by assumption)))) (by assumption)) wmu_2 dX6_row_50 rfl ?_
      refine r_aload_n E (q := 52) 0 dX6_row_51 rfl rfl rfl ?_
      refine r_get E (q := 55) fX6_13 0 wm_0 rfl dX6_row_52 rfl ?_
      refine r_iload E (q := 57) 5 dX6_row_55 rfl rfl ?_
      refine r_iconst E (q := 58) (v := 1) dX6_row_57 (by decide) rfl ?_
      refine r_iadd E (q := 59) dX6_row_58 rfl ?_
      refine r_iload_n E (q := 60) 3 dX6_row_59 rfl rfl rfl ?_
      refine r_iast E (q := 61) 2 wm_2 (ref_at1 (in_of (m := 3) (by omega) (by assumption)) (hy _ (ix_lt (in_of (m := 3) (by omega) (by assumption)))) (by assumption)) wmu_2 dX6_row_60 rfl ?_
      refine r_aload_n E (q := 62) 0 dX6_row_61 rfl rfl rfl ?_
      refine r_get E (q := 65) fX6_13 0 wm_0 rfl dX6_row_62 rfl ?_
      refine r_iload E (q := 67) 5 dX6_row_65 rfl rfl ?_
      refine r_iconst E (q := 68) (v := 2) dX6_row_67 (by decide) rfl ?_
      refine r_iadd E (q := 69) dX6_row_68 rfl ?_
      refine r_iload E (q := 71) 4 dX6_row_69 rfl rfl ?_
      refine r_iast E (q := 72) 2 wm_2 (ref_at2 (in_of (m := 3) (by omega) (by assumption)) (hy _ (ix_lt (in_of (m := 3) (by omega) (by assumption)))) (by assumption)) wmu_2 dX6_row_71 rfl ?_
      refine r_aload_n E (q := 73) 0 dX6_row_72 rfl rfl rfl ?_
      refine r_get E (q := 76) fX6_7 0 wm_0 rfl dX6_row_73 rfl ?_
      refine r_iload_n E (q := 77) 1 dX6_row_76 rfl rfl rfl ?_
      refine r_dup2 E (q := 78) dX6_row_77 rfl rfl rfl ?_
      refine r_iald E (q := 79) 1 wm_1 (in_of (m := 3) (by omega) (by assumption)) dX6_row_78 rfl ?_
      refine r_iconst E (q := 80) (v := 1) dX6_row_79 (by decide) rfl ?_
      refine r_iadd E (q := 81) dX6_row_80 rfl ?_
      refine r_iast E (q := 82) 1 wm_1 (in_of (m := 3) (by omega) (by assumption)) wmu_1 dX6_row_81 rfl ?_
      refine r_aload_n E (q := 83) 0 dX6_row_82 rfl rfl rfl ?_
      refine r_get E (q := 86) fX6_7 0 wm_0 rfl dX6_row_83 rfl ?_
      refine r_iload_n E (q := 87) 1 dX6_row_86 rfl rfl rfl ?_
      refine r_iald E (q := 88) 1 wm_1 (in_of (m := 3) (by omega) (by assumption)) dX6_row_87 rfl ?_
      exact r_iret E T dX6_row_88 (eqI.mk (by unfold fX6_row; exact ((if_neg c1).trans (if_neg c2)).symm) (cgM (by unfold fX6_row_G; exact ((if_neg c1).trans (if_neg c2)).symm) rfl))
    · refine r_bipush E (q := 27) (v := (-2)) dX6_row_25 (by decide) rfl ?_
      exact r_iret E T dX6_row_27 (eqI.mk (by unfold fX6_row; exact ((if_neg c1).trans (if_pos c2)).symm) (cgM (by unfold fX6_row_G; exact ((if_neg c1).trans (if_pos c2)).symm) rfl))
  · refine r_iconst E (q := 13) (v := (-1)) dX6_row_12 (by decide) rfl ?_
    exact r_iret E T dX6_row_13 (eqI.mk (by unfold fX6_row; exact (if_pos c1).symm) (cgM (by unfold fX6_row_G; exact (if_pos c1).symm) rfl))
def fX6_clear (G : Nat → Nat → Int32) (source : Int32) : Int32 := if fX6_in source.toInt64 0 3 = 0 then (-1) else (G 1 (ix source))
def fX6_clear_G (G : Nat → Nat → Int32) (source : Int32) : Nat → Nat → Int32 := if fX6_in source.toInt64 0 3 = 0 then G else (ug G 1 (ix source) 0)
set_option maxRecDepth 100000 in
set_option maxHeartbeats 800000 in
theorem c_X6_clear {l : Launch} {k : Kt} {ad : Nat → Nat} {G : Nat → Nat → Int32} {V : Nat → Int32} (source : Int32) : CT l k yX6_clear cX6_clear 3 (some .int) 1 [.ref (ad 0), .int source] (WM k ad G V) (eqI (fX6_clear G source) (WM k ad (fX6_clear_G G source) V)) 0 0 := by
  refine ct_of (own := RX6) (lv0 := [(0, .ref (ad 0)), (1, .int source)]) (by decide) rfl (Nat.le_of_ble_eq_true rfl) rfl ?_
  rintro z rfl rfl hz - E T
  refine r_iload_n E (q := 1) 1 dX6_clear_0 rfl rfl rfl ?_
  refine r_i2l E (q := 2) dX6_clear_1 rfl ?_
  refine r_lconst E (q := 3) (v := 0) dX6_clear_2 (by decide) rfl ?_
  refine r_ldc2 E (q := 6) kX6_88 dX6_clear_3 rfl ?_
  refine rSi E (q := 9) csX6_90 T.rr [.long source.toInt64, .long 0, .long 3] (c_X6_in source.toInt64 0 3) (by decide) rfl rfl (Nat.le_of_ble_eq_true rfl) ⟨(Nat.le_of_ble_eq_true rfl), (Nat.le_of_ble_eq_true rfl)⟩ dX6_clear_6 rfl ?_
  refine r_if_ne E (q := 12) 14 dX6_clear_9 (by decide) rfl (fun c1 => ?_) (fun c1 => ?_)
  · refine r_aload_n E (q := 15) 0 dX6_clear_14 rfl rfl rfl ?_
    refine r_get E (q := 18) fX6_7 0 wm_0 rfl dX6_clear_15 rfl ?_
    refine r_iload_n E (q := 19) 1 dX6_clear_18 rfl rfl rfl ?_
    refine r_iald E (q := 20) 1 wm_1 (in_of (m := 3) (by omega) (by assumption)) dX6_clear_19 rfl ?_
    refine r_istore_n E (q := 21) (lv' := [(0, .ref (ad 0)), (1, .int source), (2, .int (G 1 (ix source)))]) [1, 2, 0] dX6_clear_20 rfl (by rw [hz]; decide) rfl rfl ?_
    refine r_aload_n E (q := 22) 0 dX6_clear_21 rfl rfl rfl ?_
    refine r_get E (q := 25) fX6_7 0 wm_0 rfl dX6_clear_22 rfl ?_
    refine r_iload_n E (q := 26) 1 dX6_clear_25 rfl rfl rfl ?_
    refine r_iconst E (q := 27) (v := 0) dX6_clear_26 (by decide) rfl ?_
    refine r_iast E (q := 28) 1 wm_1 (in_of (m := 3) (by omega) (by assumption)) wmu_1 dX6_clear_27 rfl ?_
    refine r_iload_n E (q := 29) 2 dX6_clear_28 rfl rfl rfl ?_
    exact r_iret E T dX6_clear_29 (eqI.mk (by unfold fX6_clear; exact (if_neg c1).symm) (cgM (by unfold fX6_clear_G; exact (if_neg c1).symm) rfl))
  · refine r_iconst E (q := 13) (v := (-1)) dX6_clear_12 (by decide) rfl ?_
    exact r_iret E T dX6_clear_13 (eqI.mk (by unfold fX6_clear; exact (if_pos c1).symm) (cgM (by unfold fX6_clear_G; exact (if_pos c1).symm) rfl))
def fX6_table (G : Nat → Nat → Int32) (i : Int32) (v : Int32) : Int32 := if fX6_in i.toInt64 0 7 = 0 then (-1) else 1
def fX6_table_G (G : Nat → Nat → Int32) (i : Int32) (v : Int32) : Nat → Nat → Int32 := if fX6_in i.toInt64 0 7 = 0 then G else (ug G 3 (ix i) v)
set_option maxRecDepth 100000 in
set_option maxHeartbeats 800000 in
theorem c_X6_table {l : Launch} {k : Kt} {ad : Nat → Nat} {G : Nat → Nat → Int32} {V : Nat → Int32} (i : Int32) (v : Int32) : CT l k yX6_table cX6_table 3 (some .int) 1 [.ref (ad 0), .int i, .int v] (WM k ad G V) (eqI (fX6_table G i v) (WM k ad (fX6_table_G G i v) V)) 0 0 := by
  refine ct_of (own := RX6) (lv0 := [(0, .ref (ad 0)), (1, .int i), (2, .int v)]) (by decide) rfl (Nat.le_of_ble_eq_true rfl) rfl ?_
  rintro z rfl rfl hz - E T
  refine r_iload_n E (q := 1) 1 dX6_table_0 rfl rfl rfl ?_
  refine r_i2l E (q := 2) dX6_table_1 rfl ?_
  refine r_lconst E (q := 3) (v := 0) dX6_table_2 (by decide) rfl ?_
  refine r_ldc2 E (q := 6) kX6_94 dX6_table_3 rfl ?_
  refine rSi E (q := 9) csX6_90 T.rr [.long i.toInt64, .long 0, .long 7] (c_X6_in i.toInt64 0 7) (by decide) rfl rfl (Nat.le_of_ble_eq_true rfl) ⟨(Nat.le_of_ble_eq_true rfl), (Nat.le_of_ble_eq_true rfl)⟩ dX6_table_6 rfl ?_
  refine r_if_ne E (q := 12) 14 dX6_table_9 (by decide) rfl (fun c1 => ?_) (fun c1 => ?_)
  · refine r_aload_n E (q := 15) 0 dX6_table_14 rfl rfl rfl ?_
    refine r_get E (q := 18) fX6_16 0 wm_0 rfl dX6_table_15 rfl ?_
    refine r_iload_n E (q := 19) 1 dX6_table_18 rfl rfl rfl ?_
    refine r_iload_n E (q := 20) 2 dX6_table_19 rfl rfl rfl ?_
    refine r_iast E (q := 21) 3 wm_3 (in_of (m := 7) (by omega) (by assumption)) wmu_3 dX6_table_20 rfl ?_
    refine r_iconst E (q := 22) (v := 1) dX6_table_21 (by decide) rfl ?_
    exact r_iret E T dX6_table_22 (eqI.mk (by unfold fX6_table; exact (if_neg c1).symm) (cgM (by unfold fX6_table_G; exact (if_neg c1).symm) rfl))
  · refine r_iconst E (q := 13) (v := (-1)) dX6_table_12 (by decide) rfl ?_
    exact r_iret E T dX6_table_13 (eqI.mk (by unfold fX6_table; exact (if_pos c1).symm) (cgM (by unfold fX6_table_G; exact (if_pos c1).symm) rfl))
def fX6_isFormula (V : Nat → Int32) (f : Int32) : Int32 := fX6_in f.toInt64 0 (((V 0) - 1).toInt64)
theorem b_X6_isFormula (V : Nat → Int32) (f : Int32) : fX6_isFormula V f = 0 ∨ fX6_isFormula V f = 1 := (b_X6_in _ _ _)
set_option maxRecDepth 100000 in
set_option maxHeartbeats 800000 in
theorem c_X6_isFormula {l : Launch} {k : Kt} {ad : Nat → Nat} {G : Nat → Nat → Int32} {V : Nat → Int32} (f : Int32) : CT l k yX6_isFormula cX6_isFormula 2 (some .boolean) 1 [.ref (ad 0), .int f] (WM k ad G V) (eqI (fX6_isFormula V f) (WM k ad G V)) 0 0 := by
  refine ct_of (own := RX6) (lv0 := [(0, .ref (ad 0)), (1, .int f)]) (by decide) rfl (Nat.le_of_ble_eq_true rfl) rfl ?_
  rintro z rfl rfl hz - E T
  refine r_iload_n E (q := 1) 1 dX6_isFormula_0 rfl rfl rfl ?_
  refine r_i2l E (q := 2) dX6_isFormula_1 rfl ?_
  refine r_lconst E (q := 3) (v := 0) dX6_isFormula_2 (by decide) rfl ?_
  refine r_aload_n E (q := 4) 0 dX6_isFormula_3 rfl rfl rfl ?_
  refine r_get E (q := 7) fX6_96 0 wm_0 rfl dX6_isFormula_4 rfl ?_
  refine r_iconst E (q := 8) (v := 1) dX6_isFormula_7 (by decide) rfl ?_
  refine r_isub E (q := 9) dX6_isFormula_8 rfl ?_
  refine r_i2l E (q := 10) dX6_isFormula_9 rfl ?_
  refine rSi E (q := 13) csX6_90 T.rr [.long f.toInt64, .long 0, .long (((V 0) - 1).toInt64)] (c_X6_in f.toInt64 0 (((V 0) - 1).toInt64)) (by decide) rfl rfl (Nat.le_of_ble_eq_true rfl) ⟨(Nat.le_of_ble_eq_true rfl), (Nat.le_of_ble_eq_true rfl)⟩ dX6_isFormula_10 rfl ?_
  exact r_zret E T (b_X6_in _ _ _) dX6_isFormula_13 (eqI.mk (by unfold fX6_isFormula; exact rfl) rfl)
def fX6_hasTwo (x : Int32) : Int32 := if x ≤ 1 then 0 else (if x = 6 then 0 else (if x = 11 then 0 else 1))
theorem b_X6_hasTwo (x : Int32) : fX6_hasTwo x = 0 ∨ fX6_hasTwo x = 1 := (b01 (Or.inl rfl) (b01 (Or.inl rfl) (b01 (Or.inl rfl) (Or.inr rfl))))
set_option maxRecDepth 100000 in
set_option maxHeartbeats 800000 in
theorem c_X6_hasTwo {l : Launch} {k : Kt} {ad : Nat → Nat} {G : Nat → Nat → Int32} {V : Nat → Int32} (x : Int32) : CT l k yX6_hasTwo cX6_hasTwo 1 (some .boolean) 0 [.int x] (WM k ad G V) (eqI (fX6_hasTwo x) (WM k ad G V)) 0 0 := by
  refine ct_of (own := RX6) (lv0 := [(0, .int x)]) (by decide) rfl (Nat.le_of_ble_eq_true rfl) rfl ?_
  rintro z rfl rfl hz - E T
  refine r_iload_n E (q := 1) 0 dX6_hasTwo_0 rfl rfl rfl ?_
  refine r_iconst E (q := 2) (v := 1) dX6_hasTwo_1 (by decide) rfl ?_
  refine r_join 22 (if x ≤ 1 then 0 else (if x = 6 then 0 else (if x = 11 then 0 else 1))) (rest := []) ?_ (fun hj1 => ?_)
  · exact r_zret E T (b01 (Or.inl rfl) (b01 (Or.inl rfl) (b01 (Or.inl rfl) (Or.inr rfl)))) dX6_hasTwo_22 (eqI.mk (by unfold fX6_hasTwo; exact rfl) rfl)
  · refine r_icmp_le E (q := 5) 21 dX6_hasTwo_2 (by decide) rfl (fun c1 => ?_) (fun c1 => ?_)
    · refine r_iconst E (q := 22) (v := 0) dX6_hasTwo_21 (by decide) rfl ?_
      exact hj1 _ (if_pos c1).symm
    · refine r_iload_n E (q := 6) 0 dX6_hasTwo_5 rfl rfl rfl ?_
      refine r_bipush E (q := 8) (v := 6) dX6_hasTwo_6 (by decide) rfl ?_
      refine r_icmp_eq E (q := 11) 21 dX6_hasTwo_8 (by decide) rfl (fun c2 => ?_) (fun c2 => ?_)
      · refine r_iconst E (q := 22) (v := 0) dX6_hasTwo_21 (by decide) rfl ?_
        exact hj1 _ ((if_neg c1).trans (if_pos c2)).symm
      · refine r_iload_n E (q := 12) 0 dX6_hasTwo_11 rfl rfl rfl ?_
        refine r_bipush E (q := 14) (v := 11) dX6_hasTwo_12 (by decide) rfl ?_
        refine r_icmp_eq E (q := 17) 21 dX6_hasTwo_14 (by decide) rfl (fun c3 => ?_) (fun c3 => ?_)
        · refine r_iconst E (q := 22) (v := 0) dX6_hasTwo_21 (by decide) rfl ?_
          exact hj1 _ ((if_neg c1).trans ((if_neg c2).trans (if_pos c3))).symm
        · refine r_iconst E (q := 18) (v := 1) dX6_hasTwo_17 (by decide) rfl ?_
          refine r_goto E 22 dX6_hasTwo_18 (by decide) ?_
          exact hj1 _ ((if_neg c1).trans ((if_neg c2).trans (if_neg c3))).symm
def fX6_hasOne (x : Int32) : Int32 := if x ≤ 1 then 0 else 1
theorem b_X6_hasOne (x : Int32) : fX6_hasOne x = 0 ∨ fX6_hasOne x = 1 := (b01 (Or.inl rfl) (Or.inr rfl))
set_option maxRecDepth 100000 in
set_option maxHeartbeats 800000 in
theorem c_X6_hasOne {l : Launch} {k : Kt} {ad : Nat → Nat} {G : Nat → Nat → Int32} {V : Nat → Int32} (x : Int32) : CT l k yX6_hasOne cX6_hasOne 1 (some .boolean) 0 [.int x] (WM k ad G V) (eqI (fX6_hasOne x) (WM k ad G V)) 0 0 := by
  refine ct_of (own := RX6) (lv0 := [(0, .int x)]) (by decide) rfl (Nat.le_of_ble_eq_true rfl) rfl ?_
  rintro z rfl rfl hz - E T
  refine r_iload_n E (q := 1) 0 dX6_hasOne_0 rfl rfl rfl ?_
  refine r_iconst E (q := 2) (v := 1) dX6_hasOne_1 (by decide) rfl ?_
  refine r_join 10 (if x ≤ 1 then 0 else 1) (rest := []) ?_ (fun hj1 => ?_)
  · exact r_zret E T (b01 (Or.inl rfl) (Or.inr rfl)) dX6_hasOne_10 (eqI.mk (by unfold fX6_hasOne; exact rfl) rfl)
  · refine r_icmp_le E (q := 5) 9 dX6_hasOne_2 (by decide) rfl (fun c1 => ?_) (fun c1 => ?_)
    · refine r_iconst E (q := 10) (v := 0) dX6_hasOne_9 (by decide) rfl ?_
      exact hj1 _ (if_pos c1).symm
    · refine r_iconst E (q := 6) (v := 1) dX6_hasOne_5 (by decide) rfl ?_
      refine r_goto E 10 dX6_hasOne_6 (by decide) ?_
      exact hj1 _ (if_neg c1).symm
def fX6_sizeOf (G : Nat → Nat → Int32) (x : Int32) (a : Int32) (b : Int32) : Int32 := (1 + (if fX6_hasOne x = 0 then 0 else (G 9 (ix a)))) + (if fX6_hasTwo x = 0 then 0 else (G 9 (ix b)))
set_option maxRecDepth 100000 in
set_option maxHeartbeats 800000 in
theorem c_X6_sizeOf {l : Launch} {k : Kt} {ad : Nat → Nat} {G : Nat → Nat → Int32} {V : Nat → Int32} (x : Int32) (a : Int32) (b : Int32) (ha : ¬ fX6_hasOne x = 0 → vp_in a 40) (hb : ¬ fX6_hasTwo x = 0 → vp_in b 40) : CT l k yX6_sizeOf cX6_sizeOf 4 (some .int) 1 [.ref (ad 0), .int x, .int a, .int b] (WM k ad G V) (eqI (fX6_sizeOf G x a b) (WM k ad G V)) 0 0 := by
  refine ct_of (own := RX6) (lv0 := [(0, .ref (ad 0)), (1, .int x), (2, .int a), (3, .int b)]) (by decide) rfl (Nat.le_of_ble_eq_true rfl) rfl ?_
  rintro z rfl rfl hz - E T
  refine r_iconst E (q := 1) (v := 1) dX6_sizeOf_0 (by decide) rfl ?_
  refine r_iload_n E (q := 2) 1 dX6_sizeOf_1 rfl rfl rfl ?_
  refine rSi E (q := 5) csX6_99 T.rr [.int x] (c_X6_hasOne x) (by decide) rfl rfl (Nat.le_of_ble_eq_true rfl) ⟨(Nat.le_of_ble_eq_true rfl), (Nat.le_of_ble_eq_true rfl)⟩ dX6_sizeOf_2 rfl ?_
  refine r_join 18 (if fX6_hasOne x = 0 then 0 else (G 9 (ix a))) (rest := [.int 1]) ?_ (fun hj1 => ?_)
  · refine r_iadd E (q := 19) dX6_sizeOf_18 rfl ?_
    refine r_iload_n E (q := 20) 1 dX6_sizeOf_19 rfl rfl rfl ?_
    refine rSi E (q := 23) csX6_103 T.rr [.int x] (c_X6_hasTwo x) (by decide) rfl rfl (Nat.le_of_ble_eq_true rfl) ⟨(Nat.le_of_ble_eq_true rfl), (Nat.le_of_ble_eq_true rfl)⟩ dX6_sizeOf_20 rfl ?_
    refine r_join 36 (if fX6_hasTwo x = 0 then 0 else (G 9 (ix b))) (rest := [.int (1 + (if fX6_hasOne x = 0 then 0 else (G 9 (ix a))))]) ?_ (fun hj2 => ?_)
    · refine r_iadd E (q := 37) dX6_sizeOf_36 rfl ?_
      exact r_iret E T dX6_sizeOf_37 (eqI.mk (by unfold fX6_sizeOf; exact rfl) rfl)
    · refine r_if_eq E (q := 26) 35 dX6_sizeOf_23 (by decide) rfl (fun c2 => ?_) (fun c2 => ?_)
      · refine r_iconst E (q := 36) (v := 0) dX6_sizeOf_35 (by decide) rfl ?_
        exact hj2 _ (if_pos c2).symm
      · refine r_aload_n E (q := 27) 0 dX6_sizeOf_26 rfl rfl rfl ?_
        refine r_get E (q := 30) fX6_35 0 wm_0 rfl dX6_sizeOf_27 rfl ?_
        refine r_iload_n E (q := 31) 3 dX6_sizeOf_30 rfl rfl rfl ?_
        refine r_iald E (q := 32) 9 wm_9 (by first | exact ha (by assumption) | exact hb (by assumption)) dX6_sizeOf_31 rfl ?_
        refine r_goto E 36 dX6_sizeOf_32 (by decide) ?_
        exact hj2 _ (if_neg c2).symm
  · refine r_if_eq E (q := 8) 17 dX6_sizeOf_5 (by decide) rfl (fun c1 => ?_) (fun c1 => ?_)
    · refine r_iconst E (q := 18) (v := 0) dX6_sizeOf_17 (by decide) rfl ?_
      exact hj1 _ (if_pos c1).symm
    · refine r_aload_n E (q := 9) 0 dX6_sizeOf_8 rfl rfl rfl ?_
      refine r_get E (q := 12) fX6_35 0 wm_0 rfl dX6_sizeOf_9 rfl ?_
      refine r_iload_n E (q := 13) 2 dX6_sizeOf_12 rfl rfl rfl ?_
      refine r_iald E (q := 14) 9 wm_9 (by first | exact ha (by assumption) | exact hb (by assumption)) dX6_sizeOf_13 rfl ?_
      refine r_goto E 18 dX6_sizeOf_14 (by decide) ?_
      exact hj1 _ (if_neg c1).symm
def fX6_tell (G : Nat → Nat → Int32) (V : Nat → Int32) (x : Int32) (a : Int32) (b : Int32) : Int32 := if fX6_hasOne x = 0 then (if fX6_hasTwo x = 0 then (V 0) else (V 0)) else (if fX6_hasTwo x = 0 then (V 0) else (V 0))
def fX6_tell_G (G : Nat → Nat → Int32) (V : Nat → Int32) (x : Int32) (a : Int32) (b : Int32) : Nat → Nat → Int32 := if fX6_hasOne x = 0 then (if fX6_hasTwo x = 0 then (ug (ug (ug (ug (ug (ug G 9 (ix (V 0)) (fX6_sizeOf G x a b)) 4 (ix (V 0)) x) 5 (ix (V 0)) a) 6 (ix (V 0)) b) 7 (ix (V 0)) (if x = 0 then (1 <<< (a &&& 31)) else 0)) 8 (ix (V 0)) (if x = 5 then 1 else (if x = 6 then 1 else 0))) else (ug (ug (ug (ug (ug (ug (ug (ug G 9 (ix (V 0)) (fX6_sizeOf G x a b)) 4 (ix (V 0)) x) 5 (ix (V 0)) a) 6 (ix (V 0)) b) 7 (ix (V 0)) (if x = 0 then (1 <<< (a &&& 31)) else 0)) 8 (ix (V 0)) (if x = 5 then 1 else (if x = 6 then 1 else 0))) 7 (ix (V 0)) (((ug (ug (ug (ug (ug (ug G 9 (ix (V 0)) (fX6_sizeOf G x a b)) 4 (ix (V 0)) x) 5 (ix (V 0)) a) 6 (ix (V 0)) b) 7 (ix (V 0)) (if x = 0 then (1 <<< (a &&& 31)) else 0)) 8 (ix (V 0)) (if x = 5 then 1 else (if x = 6 then 1 else 0))) 7 (ix (V 0))) ||| ((ug (ug (ug (ug (ug (ug G 9 (ix (V 0)) (fX6_sizeOf G x a b)) 4 (ix (V 0)) x) 5 (ix (V 0)) a) 6 (ix (V 0)) b) 7 (ix (V 0)) (if x = 0 then (1 <<< (a &&& 31)) else 0)) 8 (ix (V 0)) (if x = 5 then 1 else (if x = 6 then 1 else 0))) 7 (ix b)))) 8 (ix (V 0)) (if (ug (ug (ug (ug (ug (ug (ug G 9 (ix (V 0)) (fX6_sizeOf G x a b)) 4 (ix (V 0)) x) 5 (ix (V 0)) a) 6 (ix (V 0)) b) 7 (ix (V 0)) (if x = 0 then (1 <<< (a &&& 31)) else 0)) 8 (ix (V 0)) (if x = 5 then 1 else (if x = 6 then 1 else 0))) 7 (ix (V 0)) (((ug (ug (ug (ug (ug (ug G 9 (ix (V 0)) (fX6_sizeOf G x a b)) 4 (ix (V 0)) x) 5 (ix (V 0)) a) 6 (ix (V 0)) b) 7 (ix (V 0)) (if x = 0 then (1 <<< (a &&& 31)) else 0)) 8 (ix (V 0)) (if x = 5 then 1 else (if x = 6 then 1 else 0))) 7 (ix (V 0))) ||| ((ug (ug (ug (ug (ug (ug G 9 (ix (V 0)) (fX6_sizeOf G x a b)) 4 (ix (V 0)) x) 5 (ix (V 0)) a) 6 (ix (V 0)) b) 7 (ix (V 0)) (if x = 0 then (1 <<< (a &&& 31)) else 0)) 8 (ix (V 0)) (if x = 5 then 1 else (if x = 6 then 1 else 0))) 7 (ix b)))) 8 (ix (V 0)) = 0 then (if (ug (ug (ug (ug (ug (ug (ug G 9 (ix (V 0)) (fX6_sizeOf G x a b)) 4 (ix (V 0)) x) 5 (ix (V 0)) a) 6 (ix (V 0)) b) 7 (ix (V 0)) (if x = 0 then (1 <<< (a &&& 31)) else 0)) 8 (ix (V 0)) (if x = 5 then 1 else (if x = 6 then 1 else 0))) 7 (ix (V 0)) (((ug (ug (ug (ug (ug (ug G 9 (ix (V 0)) (fX6_sizeOf G x a b)) 4 (ix (V 0)) x) 5 (ix (V 0)) a) 6 (ix (V 0)) b) 7 (ix (V 0)) (if x = 0 then (1 <<< (a &&& 31)) else 0)) 8 (ix (V 0)) (if x = 5 then 1 else (if x = 6 then 1 else 0))) 7 (ix (V 0))) ||| ((ug (ug (ug (ug (ug (ug G 9 (ix (V 0)) (fX6_sizeOf G x a b)) 4 (ix (V 0)) x) 5 (ix (V 0)) a) 6 (ix (V 0)) b) 7 (ix (V 0)) (if x = 0 then (1 <<< (a &&& 31)) else 0)) 8 (ix (V 0)) (if x = 5 then 1 else (if x = 6 then 1 else 0))) 7 (ix b)))) 8 (ix b) = 0 then 0 else 1) else 1))) else (if fX6_hasTwo x = 0 then (ug (ug (ug (ug (ug (ug (ug (ug G 9 (ix (V 0)) (fX6_sizeOf G x a b)) 4 (ix (V 0)) x) 5 (ix (V 0)) a) 6 (ix (V 0)) b) 7 (ix (V 0)) (if x = 0 then (1 <<< (a &&& 31)) else 0)) 8 (ix (V 0)) (if x = 5 then 1 else (if x = 6 then 1 else 0))) 7 (ix (V 0)) (((ug (ug (ug (ug (ug (ug G 9 (ix (V 0)) (fX6_sizeOf G x a b)) 4 (ix (V 0)) x) 5 (ix (V 0)) a) 6 (ix (V 0)) b) 7 (ix (V 0)) (if x = 0 then (1 <<< (a &&& 31)) else 0)) 8 (ix (V 0)) (if x = 5 then 1 else (if x = 6 then 1 else 0))) 7 (ix (V 0))) ||| ((ug (ug (ug (ug (ug (ug G 9 (ix (V 0)) (fX6_sizeOf G x a b)) 4 (ix (V 0)) x) 5 (ix (V 0)) a) 6 (ix (V 0)) b) 7 (ix (V 0)) (if x = 0 then (1 <<< (a &&& 31)) else 0)) 8 (ix (V 0)) (if x = 5 then 1 else (if x = 6 then 1 else 0))) 7 (ix a)))) 8 (ix (V 0)) (if (ug (ug (ug (ug (ug (ug (ug G 9 (ix (V 0)) (fX6_sizeOf G x a b)) 4 (ix (V 0)) x) 5 (ix (V 0)) a) 6 (ix (V 0)) b) 7 (ix (V 0)) (if x = 0 then (1 <<< (a &&& 31)) else 0)) 8 (ix (V 0)) (if x = 5 then 1 else (if x = 6 then 1 else 0))) 7 (ix (V 0)) (((ug (ug (ug (ug (ug (ug G 9 (ix (V 0)) (fX6_sizeOf G x a b)) 4 (ix (V 0)) x) 5 (ix (V 0)) a) 6 (ix (V 0)) b) 7 (ix (V 0)) (if x = 0 then (1 <<< (a &&& 31)) else 0)) 8 (ix (V 0)) (if x = 5 then 1 else (if x = 6 then 1 else 0))) 7 (ix (V 0))) ||| ((ug (ug (ug (ug (ug (ug G 9 (ix (V 0)) (fX6_sizeOf G x a b)) 4 (ix (V 0)) x) 5 (ix (V 0)) a) 6 (ix (V 0)) b) 7 (ix (V 0)) (if x = 0 then (1 <<< (a &&& 31)) else 0)) 8 (ix (V 0)) (if x = 5 then 1 else (if x = 6 then 1 else 0))) 7 (ix a)))) 8 (ix (V 0)) = 0 then (if (ug (ug (ug (ug (ug (ug (ug G 9 (ix (V 0)) (fX6_sizeOf G x a b)) 4 (ix (V 0)) x) 5 (ix (V 0)) a) 6 (ix (V 0)) b) 7 (ix (V 0)) (if x = 0 then (1 <<< (a &&& 31)) else 0)) 8 (ix (V 0)) (if x = 5 then 1 else (if x = 6 then 1 else 0))) 7 (ix (V 0)) (((ug (ug (ug (ug (ug (ug G 9 (ix (V 0)) (fX6_sizeOf G x a b)) 4 (ix (V 0)) x) 5 (ix (V 0)) a) 6 (ix (V 0)) b) 7 (ix (V 0)) (if x = 0 then (1 <<< (a &&& 31)) else 0)) 8 (ix (V 0)) (if x = 5 then 1 else (if x = 6 then 1 else 0))) 7 (ix (V 0))) ||| ((ug (ug (ug (ug (ug (ug G 9 (ix (V 0)) (fX6_sizeOf G x a b)) 4 (ix (V 0)) x) 5 (ix (V 0)) a) 6 (ix (V 0)) b) 7 (ix (V 0)) (if x = 0 then (1 <<< (a &&& 31)) else 0)) 8 (ix (V 0)) (if x = 5 then 1 else (if x = 6 then 1 else 0))) 7 (ix a)))) 8 (ix a) = 0 then 0 else 1) else 1)) else (ug (ug (ug (ug (ug (ug (ug (ug (ug (ug G 9 (ix (V 0)) (fX6_sizeOf G x a b)) 4 (ix (V 0)) x) 5 (ix (V 0)) a) 6 (ix (V 0)) b) 7 (ix (V 0)) (if x = 0 then (1 <<< (a &&& 31)) else 0)) 8 (ix (V 0)) (if x = 5 then 1 else (if x = 6 then 1 else 0))) 7 (ix (V 0)) (((ug (ug (ug (ug (ug (ug G 9 (ix (V 0)) (fX6_sizeOf G x a b)) 4 (ix (V 0)) x) 5 (ix (V 0)) a) 6 (ix (V 0)) b) 7 (ix (V 0)) (if x = 0 then (1 <<< (a &&& 31)) else 0)) 8 (ix (V 0)) (if x = 5 then 1 else (if x = 6 then 1 else 0))) 7 (ix (V 0))) ||| ((ug (ug (ug (ug (ug (ug G 9 (ix (V 0)) (fX6_sizeOf G x a b)) 4 (ix (V 0)) x) 5 (ix (V 0)) a) 6 (ix (V 0)) b) 7 (ix (V 0)) (if x = 0 then (1 <<< (a &&& 31)) else 0)) 8 (ix (V 0)) (if x = 5 then 1 else (if x = 6 then 1 else 0))) 7 (ix a)))) 8 (ix (V 0)) (if (ug (ug (ug (ug (ug (ug (ug G 9 (ix (V 0)) (fX6_sizeOf G x a b)) 4 (ix (V 0)) x) 5 (ix (V 0)) a) 6 (ix (V 0)) b) 7 (ix (V 0)) (if x = 0 then (1 <<< (a &&& 31)) else 0)) 8 (ix (V 0)) (if x = 5 then 1 else (if x = 6 then 1 else 0))) 7 (ix (V 0)) (((ug (ug (ug (ug (ug (ug G 9 (ix (V 0)) (fX6_sizeOf G x a b)) 4 (ix (V 0)) x) 5 (ix (V 0)) a) 6 (ix (V 0)) b) 7 (ix (V 0)) (if x = 0 then (1 <<< (a &&& 31)) else 0)) 8 (ix (V 0)) (if x = 5 then 1 else (if x = 6 then 1 else 0))) 7 (ix (V 0))) ||| ((ug (ug (ug (ug (ug (ug G 9 (ix (V 0)) (fX6_sizeOf G x a b)) 4 (ix (V 0)) x) 5 (ix (V 0)) a) 6 (ix (V 0)) b) 7 (ix (V 0)) (if x = 0 then (1 <<< (a &&& 31)) else 0)) 8 (ix (V 0)) (if x = 5 then 1 else (if x = 6 then 1 else 0))) 7 (ix a)))) 8 (ix (V 0)) = 0 then (if (ug (ug (ug (ug (ug (ug (ug G 9 (ix (V 0)) (fX6_sizeOf G x a b)) 4 (ix (V 0)) x) 5 (ix (V 0)) a) 6 (ix (V 0)) b) 7 (ix (V 0)) (if x = 0 then (1 <<< (a &&& 31)) else 0)) 8 (ix (V 0)) (if x = 5 then 1 else (if x = 6 then 1 else 0))) 7 (ix (V 0)) (((ug (ug (ug (ug (ug (ug G 9 (ix (V 0)) (fX6_sizeOf G x a b)) 4 (ix (V 0)) x) 5 (ix (V 0)) a) 6 (ix (V 0)) b) 7 (ix (V 0)) (if x = 0 then (1 <<< (a &&& 31)) else 0)) 8 (ix (V 0)) (if x = 5 then 1 else (if x = 6 then 1 else 0))) 7 (ix (V 0))) ||| ((ug (ug (ug (ug (ug (ug G 9 (ix (V 0)) (fX6_sizeOf G x a b)) 4 (ix (V 0)) x) 5 (ix (V 0)) a) 6 (ix (V 0)) b) 7 (ix (V 0)) (if x = 0 then (1 <<< (a &&& 31)) else 0)) 8 (ix (V 0)) (if x = 5 then 1 else (if x = 6 then 1 else 0))) 7 (ix a)))) 8 (ix a) = 0 then 0 else 1) else 1)) 7 (ix (V 0)) (((ug (ug (ug (ug (ug (ug (ug (ug G 9 (ix (V 0)) (fX6_sizeOf G x a b)) 4 (ix (V 0)) x) 5 (ix (V 0)) a) 6 (ix (V 0)) b) 7 (ix (V 0)) (if x = 0 then (1 <<< (a &&& 31)) else 0)) 8 (ix (V 0)) (if x = 5 then 1 else (if x = 6 then 1 else 0))) 7 (ix (V 0)) (((ug (ug (ug (ug (ug (ug G 9 (ix (V 0)) (fX6_sizeOf G x a b)) 4 (ix (V 0)) x) 5 (ix (V 0)) a) 6 (ix (V 0)) b) 7 (ix (V 0)) (if x = 0 then (1 <<< (a &&& 31)) else 0)) 8 (ix (V 0)) (if x = 5 then 1 else (if x = 6 then 1 else 0))) 7 (ix (V 0))) ||| ((ug (ug (ug (ug (ug (ug G 9 (ix (V 0)) (fX6_sizeOf G x a b)) 4 (ix (V 0)) x) 5 (ix (V 0)) a) 6 (ix (V 0)) b) 7 (ix (V 0)) (if x = 0 then (1 <<< (a &&& 31)) else 0)) 8 (ix (V 0)) (if x = 5 then 1 else (if x = 6 then 1 else 0))) 7 (ix a)))) 8 (ix (V 0)) (if (ug (ug (ug (ug (ug (ug (ug G 9 (ix (V 0)) (fX6_sizeOf G x a b)) 4 (ix (V 0)) x) 5 (ix (V 0)) a) 6 (ix (V 0)) b) 7 (ix (V 0)) (if x = 0 then (1 <<< (a &&& 31)) else 0)) 8 (ix (V 0)) (if x = 5 then 1 else (if x = 6 then 1 else 0))) 7 (ix (V 0)) (((ug (ug (ug (ug (ug (ug G 9 (ix (V 0)) (fX6_sizeOf G x a b)) 4 (ix (V 0)) x) 5 (ix (V 0)) a) 6 (ix (V 0)) b) 7 (ix (V 0)) (if x = 0 then (1 <<< (a &&& 31)) else 0)) 8 (ix (V 0)) (if x = 5 then 1 else (if x = 6 then 1 else 0))) 7 (ix (V 0))) ||| ((ug (ug (ug (ug (ug (ug G 9 (ix (V 0)) (fX6_sizeOf G x a b)) 4 (ix (V 0)) x) 5 (ix (V 0)) a) 6 (ix (V 0)) b) 7 (ix (V 0)) (if x = 0 then (1 <<< (a &&& 31)) else 0)) 8 (ix (V 0)) (if x = 5 then 1 else (if x = 6 then 1 else 0))) 7 (ix a)))) 8 (ix (V 0)) = 0 then (if (ug (ug (ug (ug (ug (ug (ug G 9 (ix (V 0)) (fX6_sizeOf G x a b)) 4 (ix (V 0)) x) 5 (ix (V 0)) a) 6 (ix (V 0)) b) 7 (ix (V 0)) (if x = 0 then (1 <<< (a &&& 31)) else 0)) 8 (ix (V 0)) (if x = 5 then 1 else (if x = 6 then 1 else 0))) 7 (ix (V 0)) (((ug (ug (ug (ug (ug (ug G 9 (ix (V 0)) (fX6_sizeOf G x a b)) 4 (ix (V 0)) x) 5 (ix (V 0)) a) 6 (ix (V 0)) b) 7 (ix (V 0)) (if x = 0 then (1 <<< (a &&& 31)) else 0)) 8 (ix (V 0)) (if x = 5 then 1 else (if x = 6 then 1 else 0))) 7 (ix (V 0))) ||| ((ug (ug (ug (ug (ug (ug G 9 (ix (V 0)) (fX6_sizeOf G x a b)) 4 (ix (V 0)) x) 5 (ix (V 0)) a) 6 (ix (V 0)) b) 7 (ix (V 0)) (if x = 0 then (1 <<< (a &&& 31)) else 0)) 8 (ix (V 0)) (if x = 5 then 1 else (if x = 6 then 1 else 0))) 7 (ix a)))) 8 (ix a) = 0 then 0 else 1) else 1)) 7 (ix (V 0))) ||| ((ug (ug (ug (ug (ug (ug (ug (ug G 9 (ix (V 0)) (fX6_sizeOf G x a b)) 4 (ix (V 0)) x) 5 (ix (V 0)) a) 6 (ix (V 0)) b) 7 (ix (V 0)) (if x = 0 then (1 <<< (a &&& 31)) else 0)) 8 (ix (V 0)) (if x = 5 then 1 else (if x = 6 then 1 else 0))) 7 (ix (V 0)) (((ug (ug (ug (ug (ug (ug G 9 (ix (V 0)) (fX6_sizeOf G x a b)) 4 (ix (V 0)) x) 5 (ix (V 0)) a) 6 (ix (V 0)) b) 7 (ix (V 0)) (if x = 0 then (1 <<< (a &&& 31)) else 0)) 8 (ix (V 0)) (if x = 5 then 1 else (if x = 6 then 1 else 0))) 7 (ix (V 0))) ||| ((ug (ug (ug (ug (ug (ug G 9 (ix (V 0)) (fX6_sizeOf G x a b)) 4 (ix (V 0)) x) 5 (ix (V 0)) a) 6 (ix (V 0)) b) 7 (ix (V 0)) (if x = 0 then (1 <<< (a &&& 31)) else 0)) 8 (ix (V 0)) (if x = 5 then 1 else (if x = 6 then 1 else 0))) 7 (ix a)))) 8 (ix (V 0)) (if (ug (ug (ug (ug (ug (ug (ug G 9 (ix (V 0)) (fX6_sizeOf G x a b)) 4 (ix (V 0)) x) 5 (ix (V 0)) a) 6 (ix (V 0)) b) 7 (ix (V 0)) (if x = 0 then (1 <<< (a &&& 31)) else 0)) 8 (ix (V 0)) (if x = 5 then 1 else (if x = 6 then 1 else 0))) 7 (ix (V 0)) (((ug (ug (ug (ug (ug (ug G 9 (ix (V 0)) (fX6_sizeOf G x a b)) 4 (ix (V 0)) x) 5 (ix (V 0)) a) 6 (ix (V 0)) b) 7 (ix (V 0)) (if x = 0 then (1 <<< (a &&& 31)) else 0)) 8 (ix (V 0)) (if x = 5 then 1 else (if x = 6 then 1 else 0))) 7 (ix (V 0))) ||| ((ug (ug (ug (ug (ug (ug G 9 (ix (V 0)) (fX6_sizeOf G x a b)) 4 (ix (V 0)) x) 5 (ix (V 0)) a) 6 (ix (V 0)) b) 7 (ix (V 0)) (if x = 0 then (1 <<< (a &&& 31)) else 0)) 8 (ix (V 0)) (if x = 5 then 1 else (if x = 6 then 1 else 0))) 7 (ix a)))) 8 (ix (V 0)) = 0 then (if (ug (ug (ug (ug (ug (ug (ug G 9 (ix (V 0)) (fX6_sizeOf G x a b)) 4 (ix (V 0)) x) 5 (ix (V 0)) a) 6 (ix (V 0)) b) 7 (ix (V 0)) (if x = 0 then (1 <<< (a &&& 31)) else 0)) 8 (ix (V 0)) (if x = 5 then 1 else (if x = 6 then 1 else 0))) 7 (ix (V 0)) (((ug (ug (ug (ug (ug (ug G 9 (ix (V 0)) (fX6_sizeOf G x a b)) 4 (ix (V 0)) x) 5 (ix (V 0)) a) 6 (ix (V 0)) b) 7 (ix (V 0)) (if x = 0 then (1 <<< (a &&& 31)) else 0)) 8 (ix (V 0)) (if x = 5 then 1 else (if x = 6 then 1 else 0))) 7 (ix (V 0))) ||| ((ug (ug (ug (ug (ug (ug G 9 (ix (V 0)) (fX6_sizeOf G x a b)) 4 (ix (V 0)) x) 5 (ix (V 0)) a) 6 (ix (V 0)) b) 7 (ix (V 0)) (if x = 0 then (1 <<< (a &&& 31)) else 0)) 8 (ix (V 0)) (if x = 5 then 1 else (if x = 6 then 1 else 0))) 7 (ix a)))) 8 (ix a) = 0 then 0 else 1) else 1)) 7 (ix b)))) 8 (ix (V 0)) (if (ug (ug (ug (ug (ug (ug (ug (ug (ug G 9 (ix (V 0)) (fX6_sizeOf G x a b)) 4 (ix (V 0)) x) 5 (ix (V 0)) a) 6 (ix (V 0)) b) 7 (ix (V 0)) (if x = 0 then (1 <<< (a &&& 31)) else 0)) 8 (ix (V 0)) (if x = 5 then 1 else (if x = 6 then 1 else 0))) 7 (ix (V 0)) (((ug (ug (ug (ug (ug (ug G 9 (ix (V 0)) (fX6_sizeOf G x a b)) 4 (ix (V 0)) x) 5 (ix (V 0)) a) 6 (ix (V 0)) b) 7 (ix (V 0)) (if x = 0 then (1 <<< (a &&& 31)) else 0)) 8 (ix (V 0)) (if x = 5 then 1 else (if x = 6 then 1 else 0))) 7 (ix (V 0))) ||| ((ug (ug (ug (ug (ug (ug G 9 (ix (V 0)) (fX6_sizeOf G x a b)) 4 (ix (V 0)) x) 5 (ix (V 0)) a) 6 (ix (V 0)) b) 7 (ix (V 0)) (if x = 0 then (1 <<< (a &&& 31)) else 0)) 8 (ix (V 0)) (if x = 5 then 1 else (if x = 6 then 1 else 0))) 7 (ix a)))) 8 (ix (V 0)) (if (ug (ug (ug (ug (ug (ug (ug G 9 (ix (V 0)) (fX6_sizeOf G x a b)) 4 (ix (V 0)) x) 5 (ix (V 0)) a) 6 (ix (V 0)) b) 7 (ix (V 0)) (if x = 0 then (1 <<< (a &&& 31)) else 0)) 8 (ix (V 0)) (if x = 5 then 1 else (if x = 6 then 1 else 0))) 7 (ix (V 0)) (((ug (ug (ug (ug (ug (ug G 9 (ix (V 0)) (fX6_sizeOf G x a b)) 4 (ix (V 0)) x) 5 (ix (V 0)) a) 6 (ix (V 0)) b) 7 (ix (V 0)) (if x = 0 then (1 <<< (a &&& 31)) else 0)) 8 (ix (V 0)) (if x = 5 then 1 else (if x = 6 then 1 else 0))) 7 (ix (V 0))) ||| ((ug (ug (ug (ug (ug (ug G 9 (ix (V 0)) (fX6_sizeOf G x a b)) 4 (ix (V 0)) x) 5 (ix (V 0)) a) 6 (ix (V 0)) b) 7 (ix (V 0)) (if x = 0 then (1 <<< (a &&& 31)) else 0)) 8 (ix (V 0)) (if x = 5 then 1 else (if x = 6 then 1 else 0))) 7 (ix a)))) 8 (ix (V 0)) = 0 then (if (ug (ug (ug (ug (ug (ug (ug G 9 (ix (V 0)) (fX6_sizeOf G x a b)) 4 (ix (V 0)) x) 5 (ix (V 0)) a) 6 (ix (V 0)) b) 7 (ix (V 0)) (if x = 0 then (1 <<< (a &&& 31)) else 0)) 8 (ix (V 0)) (if x = 5 then 1 else (if x = 6 then 1 else 0))) 7 (ix (V 0)) (((ug (ug (ug (ug (ug (ug G 9 (ix (V 0)) (fX6_sizeOf G x a b)) 4 (ix (V 0)) x) 5 (ix (V 0)) a) 6 (ix (V 0)) b) 7 (ix (V 0)) (if x = 0 then (1 <<< (a &&& 31)) else 0)) 8 (ix (V 0)) (if x = 5 then 1 else (if x = 6 then 1 else 0))) 7 (ix (V 0))) ||| ((ug (ug (ug (ug (ug (ug G 9 (ix (V 0)) (fX6_sizeOf G x a b)) 4 (ix (V 0)) x) 5 (ix (V 0)) a) 6 (ix (V 0)) b) 7 (ix (V 0)) (if x = 0 then (1 <<< (a &&& 31)) else 0)) 8 (ix (V 0)) (if x = 5 then 1 else (if x = 6 then 1 else 0))) 7 (ix a)))) 8 (ix a) = 0 then 0 else 1) else 1)) 7 (ix (V 0)) (((ug (ug (ug (ug (ug (ug (ug (ug G 9 (ix (V 0)) (fX6_sizeOf G x a b)) 4 (ix (V 0)) x) 5 (ix (V 0)) a) 6 (ix (V 0)) b) 7 (ix (V 0)) (if x = 0 then (1 <<< (a &&& 31)) else 0)) 8 (ix (V 0)) (if x = 5 then 1 else (if x = 6 then 1 else 0))) 7 (ix (V 0)) (((ug (ug (ug (ug (ug (ug G 9 (ix (V 0)) (fX6_sizeOf G x a b)) 4 (ix (V 0)) x) 5 (ix (V 0)) a) 6 (ix (V 0)) b) 7 (ix (V 0)) (if x = 0 then (1 <<< (a &&& 31)) else 0)) 8 (ix (V 0)) (if x = 5 then 1 else (if x = 6 then 1 else 0))) 7 (ix (V 0))) ||| ((ug (ug (ug (ug (ug (ug G 9 (ix (V 0)) (fX6_sizeOf G x a b)) 4 (ix (V 0)) x) 5 (ix (V 0)) a) 6 (ix (V 0)) b) 7 (ix (V 0)) (if x = 0 then (1 <<< (a &&& 31)) else 0)) 8 (ix (V 0)) (if x = 5 then 1 else (if x = 6 then 1 else 0))) 7 (ix a)))) 8 (ix (V 0)) (if (ug (ug (ug (ug (ug (ug (ug G 9 (ix (V 0)) (fX6_sizeOf G x a b)) 4 (ix (V 0)) x) 5 (ix (V 0)) a) 6 (ix (V 0)) b) 7 (ix (V 0)) (if x = 0 then (1 <<< (a &&& 31)) else 0)) 8 (ix (V 0)) (if x = 5 then 1 else (if x = 6 then 1 else 0))) 7 (ix (V 0)) (((ug (ug (ug (ug (ug (ug G 9 (ix (V 0)) (fX6_sizeOf G x a b)) 4 (ix (V 0)) x) 5 (ix (V 0)) a) 6 (ix (V 0)) b) 7 (ix (V 0)) (if x = 0 then (1 <<< (a &&& 31)) else 0)) 8 (ix (V 0)) (if x = 5 then 1 else (if x = 6 then 1 else 0))) 7 (ix (V 0))) ||| ((ug (ug (ug (ug (ug (ug G 9 (ix (V 0)) (fX6_sizeOf G x a b)) 4 (ix (V 0)) x) 5 (ix (V 0)) a) 6 (ix (V 0)) b) 7 (ix (V 0)) (if x = 0 then (1 <<< (a &&& 31)) else 0)) 8 (ix (V 0)) (if x = 5 then 1 else (if x = 6 then 1 else 0))) 7 (ix a)))) 8 (ix (V 0)) = 0 then (if (ug (ug (ug (ug (ug (ug (ug G 9 (ix (V 0)) (fX6_sizeOf G x a b)) 4 (ix (V 0)) x) 5 (ix (V 0)) a) 6 (ix (V 0)) b) 7 (ix (V 0)) (if x = 0 then (1 <<< (a &&& 31)) else 0)) 8 (ix (V 0)) (if x = 5 then 1 else (if x = 6 then 1 else 0))) 7 (ix (V 0)) (((ug (ug (ug (ug (ug (ug G 9 (ix (V 0)) (fX6_sizeOf G x a b)) 4 (ix (V 0)) x) 5 (ix (V 0)) a) 6 (ix (V 0)) b) 7 (ix (V 0)) (if x = 0 then (1 <<< (a &&& 31)) else 0)) 8 (ix (V 0)) (if x = 5 then 1 else (if x = 6 then 1 else 0))) 7 (ix (V 0))) ||| ((ug (ug (ug (ug (ug (ug G 9 (ix (V 0)) (fX6_sizeOf G x a b)) 4 (ix (V 0)) x) 5 (ix (V 0)) a) 6 (ix (V 0)) b) 7 (ix (V 0)) (if x = 0 then (1 <<< (a &&& 31)) else 0)) 8 (ix (V 0)) (if x = 5 then 1 else (if x = 6 then 1 else 0))) 7 (ix a)))) 8 (ix a) = 0 then 0 else 1) else 1)) 7 (ix (V 0))) ||| ((ug (ug (ug (ug (ug (ug (ug (ug G 9 (ix (V 0)) (fX6_sizeOf G x a b)) 4 (ix (V 0)) x) 5 (ix (V 0)) a) 6 (ix (V 0)) b) 7 (ix (V 0)) (if x = 0 then (1 <<< (a &&& 31)) else 0)) 8 (ix (V 0)) (if x = 5 then 1 else (if x = 6 then 1 else 0))) 7 (ix (V 0)) (((ug (ug (ug (ug (ug (ug G 9 (ix (V 0)) (fX6_sizeOf G x a b)) 4 (ix (V 0)) x) 5 (ix (V 0)) a) 6 (ix (V 0)) b) 7 (ix (V 0)) (if x = 0 then (1 <<< (a &&& 31)) else 0)) 8 (ix (V 0)) (if x = 5 then 1 else (if x = 6 then 1 else 0))) 7 (ix (V 0))) ||| ((ug (ug (ug (ug (ug (ug G 9 (ix (V 0)) (fX6_sizeOf G x a b)) 4 (ix (V 0)) x) 5 (ix (V 0)) a) 6 (ix (V 0)) b) 7 (ix (V 0)) (if x = 0 then (1 <<< (a &&& 31)) else 0)) 8 (ix (V 0)) (if x = 5 then 1 else (if x = 6 then 1 else 0))) 7 (ix a)))) 8 (ix (V 0)) (if (ug (ug (ug (ug (ug (ug (ug G 9 (ix (V 0)) (fX6_sizeOf G x a b)) 4 (ix (V 0)) x) 5 (ix (V 0)) a) 6 (ix (V 0)) b) 7 (ix (V 0)) (if x = 0 then (1 <<< (a &&& 31)) else 0)) 8 (ix (V 0)) (if x = 5 then 1 else (if x = 6 then 1 else 0))) 7 (ix (V 0)) (((ug (ug (ug (ug (ug (ug G 9 (ix (V 0)) (fX6_sizeOf G x a b)) 4 (ix (V 0)) x) 5 (ix (V 0)) a) 6 (ix (V 0)) b) 7 (ix (V 0)) (if x = 0 then (1 <<< (a &&& 31)) else 0)) 8 (ix (V 0)) (if x = 5 then 1 else (if x = 6 then 1 else 0))) 7 (ix (V 0))) ||| ((ug (ug (ug (ug (ug (ug G 9 (ix (V 0)) (fX6_sizeOf G x a b)) 4 (ix (V 0)) x) 5 (ix (V 0)) a) 6 (ix (V 0)) b) 7 (ix (V 0)) (if x = 0 then (1 <<< (a &&& 31)) else 0)) 8 (ix (V 0)) (if x = 5 then 1 else (if x = 6 then 1 else 0))) 7 (ix a)))) 8 (ix (V 0)) = 0 then (if (ug (ug (ug (ug (ug (ug (ug G 9 (ix (V 0)) (fX6_sizeOf G x a b)) 4 (ix (V 0)) x) 5 (ix (V 0)) a) 6 (ix (V 0)) b) 7 (ix (V 0)) (if x = 0 then (1 <<< (a &&& 31)) else 0)) 8 (ix (V 0)) (if x = 5 then 1 else (if x = 6 then 1 else 0))) 7 (ix (V 0)) (((ug (ug (ug (ug (ug (ug G 9 (ix (V 0)) (fX6_sizeOf G x a b)) 4 (ix (V 0)) x) 5 (ix (V 0)) a) 6 (ix (V 0)) b) 7 (ix (V 0)) (if x = 0 then (1 <<< (a &&& 31)) else 0)) 8 (ix (V 0)) (if x = 5 then 1 else (if x = 6 then 1 else 0))) 7 (ix (V 0))) ||| ((ug (ug (ug (ug (ug (ug G 9 (ix (V 0)) (fX6_sizeOf G x a b)) 4 (ix (V 0)) x) 5 (ix (V 0)) a) 6 (ix (V 0)) b) 7 (ix (V 0)) (if x = 0 then (1 <<< (a &&& 31)) else 0)) 8 (ix (V 0)) (if x = 5 then 1 else (if x = 6 then 1 else 0))) 7 (ix a)))) 8 (ix a) = 0 then 0 else 1) else 1)) 7 (ix b)))) 8 (ix (V 0)) = 0 then (if (ug (ug (ug (ug (ug (ug (ug (ug (ug G 9 (ix (V 0)) (fX6_sizeOf G x a b)) 4 (ix (V 0)) x) 5 (ix (V 0)) a) 6 (ix (V 0)) b) 7 (ix (V 0)) (if x = 0 then (1 <<< (a &&& 31)) else 0)) 8 (ix (V 0)) (if x = 5 then 1 else (if x = 6 then 1 else 0))) 7 (ix (V 0)) (((ug (ug (ug (ug (ug (ug G 9 (ix (V 0)) (fX6_sizeOf G x a b)) 4 (ix (V 0)) x) 5 (ix (V 0)) a) 6 (ix (V 0)) b) 7 (ix (V 0)) (if x = 0 then (1 <<< (a &&& 31)) else 0)) 8 (ix (V 0)) (if x = 5 then 1 else (if x = 6 then 1 else 0))) 7 (ix (V 0))) ||| ((ug (ug (ug (ug (ug (ug G 9 (ix (V 0)) (fX6_sizeOf G x a b)) 4 (ix (V 0)) x) 5 (ix (V 0)) a) 6 (ix (V 0)) b) 7 (ix (V 0)) (if x = 0 then (1 <<< (a &&& 31)) else 0)) 8 (ix (V 0)) (if x = 5 then 1 else (if x = 6 then 1 else 0))) 7 (ix a)))) 8 (ix (V 0)) (if (ug (ug (ug (ug (ug (ug (ug G 9 (ix (V 0)) (fX6_sizeOf G x a b)) 4 (ix (V 0)) x) 5 (ix (V 0)) a) 6 (ix (V 0)) b) 7 (ix (V 0)) (if x = 0 then (1 <<< (a &&& 31)) else 0)) 8 (ix (V 0)) (if x = 5 then 1 else (if x = 6 then 1 else 0))) 7 (ix (V 0)) (((ug (ug (ug (ug (ug (ug G 9 (ix (V 0)) (fX6_sizeOf G x a b)) 4 (ix (V 0)) x) 5 (ix (V 0)) a) 6 (ix (V 0)) b) 7 (ix (V 0)) (if x = 0 then (1 <<< (a &&& 31)) else 0)) 8 (ix (V 0)) (if x = 5 then 1 else (if x = 6 then 1 else 0))) 7 (ix (V 0))) ||| ((ug (ug (ug (ug (ug (ug G 9 (ix (V 0)) (fX6_sizeOf G x a b)) 4 (ix (V 0)) x) 5 (ix (V 0)) a) 6 (ix (V 0)) b) 7 (ix (V 0)) (if x = 0 then (1 <<< (a &&& 31)) else 0)) 8 (ix (V 0)) (if x = 5 then 1 else (if x = 6 then 1 else 0))) 7 (ix a)))) 8 (ix (V 0)) = 0 then (if (ug (ug (ug (ug (ug (ug (ug G 9 (ix (V 0)) (fX6_sizeOf G x a b)) 4 (ix (V 0)) x) 5 (ix (V 0)) a) 6 (ix (V 0)) b) 7 (ix (V 0)) (if x = 0 then (1 <<< (a &&& 31)) else 0)) 8 (ix (V 0)) (if x = 5 then 1 else (if x = 6 then 1 else 0))) 7 (ix (V 0)) (((ug (ug (ug (ug (ug (ug G 9 (ix (V 0)) (fX6_sizeOf G x a b)) 4 (ix (V 0)) x) 5 (ix (V 0)) a) 6 (ix (V 0)) b) 7 (ix (V 0)) (if x = 0 then (1 <<< (a &&& 31)) else 0)) 8 (ix (V 0)) (if x = 5 then 1 else (if x = 6 then 1 else 0))) 7 (ix (V 0))) ||| ((ug (ug (ug (ug (ug (ug G 9 (ix (V 0)) (fX6_sizeOf G x a b)) 4 (ix (V 0)) x) 5 (ix (V 0)) a) 6 (ix (V 0)) b) 7 (ix (V 0)) (if x = 0 then (1 <<< (a &&& 31)) else 0)) 8 (ix (V 0)) (if x = 5 then 1 else (if x = 6 then 1 else 0))) 7 (ix a)))) 8 (ix a) = 0 then 0 else 1) else 1)) 7 (ix (V 0)) (((ug (ug (ug (ug (ug (ug (ug (ug G 9 (ix (V 0)) (fX6_sizeOf G x a b)) 4 (ix (V 0)) x) 5 (ix (V 0)) a) 6 (ix (V 0)) b) 7 (ix (V 0)) (if x = 0 then (1 <<< (a &&& 31)) else 0)) 8 (ix (V 0)) (if x = 5 then 1 else (if x = 6 then 1 else 0))) 7 (ix (V 0)) (((ug (ug (ug (ug (ug (ug G 9 (ix (V 0)) (fX6_sizeOf G x a b)) 4 (ix (V 0)) x) 5 (ix (V 0)) a) 6 (ix (V 0)) b) 7 (ix (V 0)) (if x = 0 then (1 <<< (a &&& 31)) else 0)) 8 (ix (V 0)) (if x = 5 then 1 else (if x = 6 then 1 else 0))) 7 (ix (V 0))) ||| ((ug (ug (ug (ug (ug (ug G 9 (ix (V 0)) (fX6_sizeOf G x a b)) 4 (ix (V 0)) x) 5 (ix (V 0)) a) 6 (ix (V 0)) b) 7 (ix (V 0)) (if x = 0 then (1 <<< (a &&& 31)) else 0)) 8 (ix (V 0)) (if x = 5 then 1 else (if x = 6 then 1 else 0))) 7 (ix a)))) 8 (ix (V 0)) (if (ug (ug (ug (ug (ug (ug (ug G 9 (ix (V 0)) (fX6_sizeOf G x a b)) 4 (ix (V 0)) x) 5 (ix (V 0)) a) 6 (ix (V 0)) b) 7 (ix (V 0)) (if x = 0 then (1 <<< (a &&& 31)) else 0)) 8 (ix (V 0)) (if x = 5 then 1 else (if x = 6 then 1 else 0))) 7 (ix (V 0)) (((ug (ug (ug (ug (ug (ug G 9 (ix (V 0)) (fX6_sizeOf G x a b)) 4 (ix (V 0)) x) 5 (ix (V 0)) a) 6 (ix (V 0)) b) 7 (ix (V 0)) (if x = 0 then (1 <<< (a &&& 31)) else 0)) 8 (ix (V 0)) (if x = 5 then 1 else (if x = 6 then 1 else 0))) 7 (ix (V 0))) ||| ((ug (ug (ug (ug (ug (ug G 9 (ix (V 0)) (fX6_sizeOf G x a b)) 4 (ix (V 0)) x) 5 (ix (V 0)) a) 6 (ix (V 0)) b) 7 (ix (V 0)) (if x = 0 then (1 <<< (a &&& 31)) else 0)) 8 (ix (V 0)) (if x = 5 then 1 else (if x = 6 then 1 else 0))) 7 (ix a)))) 8 (ix (V 0)) = 0 then (if (ug (ug (ug (ug (ug (ug (ug G 9 (ix (V 0)) (fX6_sizeOf G x a b)) 4 (ix (V 0)) x) 5 (ix (V 0)) a) 6 (ix (V 0)) b) 7 (ix (V 0)) (if x = 0 then (1 <<< (a &&& 31)) else 0)) 8 (ix (V 0)) (if x = 5 then 1 else (if x = 6 then 1 else 0))) 7 (ix (V 0)) (((ug (ug (ug (ug (ug (ug G 9 (ix (V 0)) (fX6_sizeOf G x a b)) 4 (ix (V 0)) x) 5 (ix (V 0)) a) 6 (ix (V 0)) b) 7 (ix (V 0)) (if x = 0 then (1 <<< (a &&& 31)) else 0)) 8 (ix (V 0)) (if x = 5 then 1 else (if x = 6 then 1 else 0))) 7 (ix (V 0))) ||| ((ug (ug (ug (ug (ug (ug G 9 (ix (V 0)) (fX6_sizeOf G x a b)) 4 (ix (V 0)) x) 5 (ix (V 0)) a) 6 (ix (V 0)) b) 7 (ix (V 0)) (if x = 0 then (1 <<< (a &&& 31)) else 0)) 8 (ix (V 0)) (if x = 5 then 1 else (if x = 6 then 1 else 0))) 7 (ix a)))) 8 (ix a) = 0 then 0 else 1) else 1)) 7 (ix (V 0))) ||| ((ug (ug (ug (ug (ug (ug (ug (ug G 9 (ix (V 0)) (fX6_sizeOf G x a b)) 4 (ix (V 0)) x) 5 (ix (V 0)) a) 6 (ix (V 0)) b) 7 (ix (V 0)) (if x = 0 then (1 <<< (a &&& 31)) else 0)) 8 (ix (V 0)) (if x = 5 then 1 else (if x = 6 then 1 else 0))) 7 (ix (V 0)) (((ug (ug (ug (ug (ug (ug G 9 (ix (V 0)) (fX6_sizeOf G x a b)) 4 (ix (V 0)) x) 5 (ix (V 0)) a) 6 (ix (V 0)) b) 7 (ix (V 0)) (if x = 0 then (1 <<< (a &&& 31)) else 0)) 8 (ix (V 0)) (if x = 5 then 1 else (if x = 6 then 1 else 0))) 7 (ix (V 0))) ||| ((ug (ug (ug (ug (ug (ug G 9 (ix (V 0)) (fX6_sizeOf G x a b)) 4 (ix (V 0)) x) 5 (ix (V 0)) a) 6 (ix (V 0)) b) 7 (ix (V 0)) (if x = 0 then (1 <<< (a &&& 31)) else 0)) 8 (ix (V 0)) (if x = 5 then 1 else (if x = 6 then 1 else 0))) 7 (ix a)))) 8 (ix (V 0)) (if (ug (ug (ug (ug (ug (ug (ug G 9 (ix (V 0)) (fX6_sizeOf G x a b)) 4 (ix (V 0)) x) 5 (ix (V 0)) a) 6 (ix (V 0)) b) 7 (ix (V 0)) (if x = 0 then (1 <<< (a &&& 31)) else 0)) 8 (ix (V 0)) (if x = 5 then 1 else (if x = 6 then 1 else 0))) 7 (ix (V 0)) (((ug (ug (ug (ug (ug (ug G 9 (ix (V 0)) (fX6_sizeOf G x a b)) 4 (ix (V 0)) x) 5 (ix (V 0)) a) 6 (ix (V 0)) b) 7 (ix (V 0)) (if x = 0 then (1 <<< (a &&& 31)) else 0)) 8 (ix (V 0)) (if x = 5 then 1 else (if x = 6 then 1 else 0))) 7 (ix (V 0))) ||| ((ug (ug (ug (ug (ug (ug G 9 (ix (V 0)) (fX6_sizeOf G x a b)) 4 (ix (V 0)) x) 5 (ix (V 0)) a) 6 (ix (V 0)) b) 7 (ix (V 0)) (if x = 0 then (1 <<< (a &&& 31)) else 0)) 8 (ix (V 0)) (if x = 5 then 1 else (if x = 6 then 1 else 0))) 7 (ix a)))) 8 (ix (V 0)) = 0 then (if (ug (ug (ug (ug (ug (ug (ug G 9 (ix (V 0)) (fX6_sizeOf G x a b)) 4 (ix (V 0)) x) 5 (ix (V 0)) a) 6 (ix (V 0)) b) 7 (ix (V 0)) (if x = 0 then (1 <<< (a &&& 31)) else 0)) 8 (ix (V 0)) (if x = 5 then 1 else (if x = 6 then 1 else 0))) 7 (ix (V 0)) (((ug (ug (ug (ug (ug (ug G 9 (ix (V 0)) (fX6_sizeOf G x a b)) 4 (ix (V 0)) x) 5 (ix (V 0)) a) 6 (ix (V 0)) b) 7 (ix (V 0)) (if x = 0 then (1 <<< (a &&& 31)) else 0)) 8 (ix (V 0)) (if x = 5 then 1 else (if x = 6 then 1 else 0))) 7 (ix (V 0))) ||| ((ug (ug (ug (ug (ug (ug G 9 (ix (V 0)) (fX6_sizeOf G x a b)) 4 (ix (V 0)) x) 5 (ix (V 0)) a) 6 (ix (V 0)) b) 7 (ix (V 0)) (if x = 0 then (1 <<< (a &&& 31)) else 0)) 8 (ix (V 0)) (if x = 5 then 1 else (if x = 6 then 1 else 0))) 7 (ix a)))) 8 (ix a) = 0 then 0 else 1) else 1)) 7 (ix b)))) 8 (ix b) = 0 then 0 else 1) else 1)))
def fX6_tell_V (G : Nat → Nat → Int32) (V : Nat → Int32) (x : Int32) (a : Int32) (b : Int32) : Nat → Int32 := if fX6_hasOne x = 0 then (if fX6_hasTwo x = 0 then (upd V 0 ((V 0) + 1)) else (upd V 0 ((V 0) + 1))) else (if fX6_hasTwo x = 0 then (upd V 0 ((V 0) + 1)) else (upd V 0 ((V 0) + 1)))
set_option maxRecDepth 100000 in
set_option maxHeartbeats 800000 in
theorem c_X6_tell {l : Launch} {k : Kt} {ad : Nat → Nat} {G : Nat → Nat → Int32} {V : Nat → Int32} (x : Int32) (a : Int32) (b : Int32) (ha : ¬ fX6_hasOne x = 0 → vp_in a 40) (hb : ¬ fX6_hasTwo x = 0 → vp_in b 40) (hf : vp_in (V 0) 40) : CT l k yX6_tell cX6_tell 5 (some .int) 2 [.ref (ad 0), .int x, .int a, .int b] (WM k ad G V) (eqI (fX6_tell G V x a b) (WM k ad (fX6_tell_G G V x a b) (fX6_tell_V G V x a b))) 0 0 := by
  refine ct_of (own := RX6) (lv0 := [(0, .ref (ad 0)), (1, .int x), (2, .int a), (3, .int b)]) (by decide) rfl (Nat.le_of_ble_eq_true rfl) rfl ?_
  rintro z rfl rfl hz - E T
  refine r_aload_n E (q := 1) 0 dX6_tell_0 rfl rfl rfl ?_
  refine r_get E (q := 4) fX6_96 0 wm_0 rfl dX6_tell_1 rfl ?_
  refine r_istore E (q := 6) (lv' := [(0, .ref (ad 0)), (1, .int x), (2, .int a), (3, .int b), (4, .int (V 0))]) [1, 2, 3, 4, 0] dX6_tell_4 (by rw [hz]; decide) rfl rfl ?_
  refine r_aload_n E (q := 7) 0 dX6_tell_6 rfl rfl rfl ?_
  refine r_get E (q := 10) fX6_35 0 wm_0 rfl dX6_tell_7 rfl ?_
  refine r_iload E (q := 12) 4 dX6_tell_10 rfl rfl ?_
  refine r_aload_n E (q := 13) 0 dX6_tell_12 rfl rfl rfl ?_
  refine r_iload_n E (q := 14) 1 dX6_tell_13 rfl rfl rfl ?_
  refine r_iload_n E (q := 15) 2 dX6_tell_14 rfl rfl rfl ?_
  refine r_iload_n E (q := 16) 3 dX6_tell_15 rfl rfl rfl ?_
  refine rVi E (q := 19) cvX6_106 T.rr 0 wm_0 rfl [.int x, .int a, .int b] (c_X6_sizeOf x a b (by assumption) (by assumption)) (by decide) rfl rfl (Nat.le_of_ble_eq_true rfl) ⟨(Nat.le_of_ble_eq_true rfl), (Nat.le_of_ble_eq_true rfl)⟩ dX6_tell_16 rfl ?_
  refine r_iast E (q := 20) 9 wm_9 hf wmu_9 dX6_tell_19 rfl ?_
  refine r_aload_n E (q := 21) 0 dX6_tell_20 rfl rfl rfl ?_
  refine r_get E (q := 24) fX6_19 0 wm_0 rfl dX6_tell_21 rfl ?_
  refine r_iload E (q := 26) 4 dX6_tell_24 rfl rfl ?_
  refine r_iload_n E (q := 27) 1 dX6_tell_26 rfl rfl rfl ?_
  refine r_iast E (q := 28) 4 wm_4 hf wmu_4 dX6_tell_27 rfl ?_
  refine r_aload_n E (q := 29) 0 dX6_tell_28 rfl rfl rfl ?_
  refine r_get E (q := 32) fX6_22 0 wm_0 rfl dX6_tell_29 rfl ?_
  refine r_iload E (q := 34) 4 dX6_tell_32 rfl rfl ?_
  refine r_iload_n E (q := 35) 2 dX6_tell_34 rfl rfl rfl ?_
  refine r_iast E (q := 36) 5 wm_5 hf wmu_5 dX6_tell_35 rfl ?_
  refine r_aload_n E (q := 37) 0 dX6_tell_36 rfl rfl rfl ?_
  refine r_get E (q := 40) fX6_25 0 wm_0 rfl dX6_tell_37 rfl ?_
  refine r_iload E (q := 42) 4 dX6_tell_40 rfl rfl ?_
  refine r_iload_n E (q := 43) 3 dX6_tell_42 rfl rfl rfl ?_
  refine r_iast E (q := 44) 6 wm_6 hf wmu_6 dX6_tell_43 rfl ?_
  refine r_aload_n E (q := 45) 0 dX6_tell_44 rfl rfl rfl ?_
  refine r_get E (q := 48) fX6_28 0 wm_0 rfl dX6_tell_45 rfl ?_
  refine r_iload E (q := 50) 4 dX6_tell_48 rfl rfl ?_
  refine r_iload_n E (q := 51) 1 dX6_tell_50 rfl rfl rfl ?_
  refine r_join 61 (if x = 0 then (1 <<< (a &&& 31)) else 0) (rest := [.int (V 0), .ref (ad 7)]) ?_ (fun hj1 => ?_)
  · refine r_iast E (q := 62) 7 wm_7 hf wmu_7 dX6_tell_61 rfl ?_
    refine r_aload_n E (q := 63) 0 dX6_tell_62 rfl rfl rfl ?_
    refine r_get E (q := 66) fX6_31 0 wm_0 rfl dX6_tell_63 rfl ?_
    refine r_iload E (q := 68) 4 dX6_tell_66 rfl rfl ?_
    refine r_iload_n E (q := 69) 1 dX6_tell_68 rfl rfl rfl ?_
    refine r_iconst E (q := 70) (v := 5) dX6_tell_69 (by decide) rfl ?_
    refine r_join 84 (if x = 5 then 1 else (if x = 6 then 1 else 0)) (rest := [.int (V 0), .ref (ad 8)]) ?_ (fun hj2 => ?_)
    · refine r_zast E (q := 85) 8 wm_8 hf (nar_b (b01 (Or.inr rfl) (b01 (Or.inr rfl) (Or.inl rfl)))) wmu_8 dX6_tell_84 rfl ?_
      refine r_iload_n E (q := 86) 1 dX6_tell_85 rfl rfl rfl ?_
      refine rSi E (q := 89) csX6_99 T.rr [.int x] (c_X6_hasOne x) (by decide) rfl rfl (Nat.le_of_ble_eq_true rfl) ⟨(Nat.le_of_ble_eq_true rfl), (Nat.le_of_ble_eq_true rfl)⟩ dX6_tell_86 rfl ?_
      refine r_if_eq E (q := 92) 144 dX6_tell_89 (by decide) rfl (fun c4 => ?_) (fun c4 => ?_)
      · refine r_iload_n E (q := 145) 1 dX6_tell_144 rfl rfl rfl ?_
        refine rSi E (q := 148) csX6_103 T.rr [.int x] (c_X6_hasTwo x) (by decide) rfl rfl (Nat.le_of_ble_eq_true rfl) ⟨(Nat.le_of_ble_eq_true rfl), (Nat.le_of_ble_eq_true rfl)⟩ dX6_tell_145 rfl ?_
        refine r_if_eq E (q := 151) 203 dX6_tell_148 (by decide) rfl (fun c5 => ?_) (fun c5 => ?_)
        · refine r_aload_n E (q := 204) 0 dX6_tell_203 rfl rfl rfl ?_
          refine r_dup E (q := 205) dX6_tell_204 rfl rfl ?_
          refine r_get E (q := 208) fX6_96 0 wm_0 rfl dX6_tell_205 rfl ?_
          refine r_iconst E (q := 209) (v := 1) dX6_tell_208 (by decide) rfl ?_
          refine r_iadd E (q := 210) dX6_tell_209 rfl ?_
          refine r_put E (q := 213) pX6_96 rfl 0 wm_0 rfl rfl (Nat.le_of_ble_eq_true rfl) wmv_0 dX6_tell_210 rfl ?_
          refine r_iload E (q := 215) 4 dX6_tell_213 rfl rfl ?_
          exact r_iret E T dX6_tell_215 (eqI.mk (by unfold fX6_tell; exact ((if_pos c4).trans (if_pos c5)).symm) (cgM (by unfold fX6_tell_G; exact ((if_pos c4).trans (if_pos c5)).symm) (by unfold fX6_tell_V; exact ((if_pos c4).trans (if_pos c5)).symm)))
        · refine r_aload_n E (q := 152) 0 dX6_tell_151 rfl rfl rfl ?_
          refine r_get E (q := 155) fX6_28 0 wm_0 rfl dX6_tell_152 rfl ?_
          refine r_iload E (q := 157) 4 dX6_tell_155 rfl rfl ?_
          refine r_aload_n E (q := 158) 0 dX6_tell_157 rfl rfl rfl ?_
          refine r_get E (q := 161) fX6_28 0 wm_0 rfl dX6_tell_158 rfl ?_
          refine r_iload E (q := 163) 4 dX6_tell_161 rfl rfl ?_
          refine r_iald E (q := 164) 7 wm_7 hf dX6_tell_163 rfl ?_
          refine r_aload_n E (q := 165) 0 dX6_tell_164 rfl rfl rfl ?_
          refine r_get E (q := 168) fX6_28 0 wm_0 rfl dX6_tell_165 rfl ?_
          refine r_iload_n E (q := 169) 3 dX6_tell_168 rfl rfl rfl ?_
          refine r_iald E (q := 170) 7 wm_7 (by first | exact ha (by assumption) | exact hb (by assumption)) dX6_tell_169 rfl ?_
          refine r_ior E (q := 171) dX6_tell_170 rfl ?_
          refine r_iast E (q := 172) 7 wm_7 hf wmu_7 dX6_tell_171 rfl ?_
          refine r_aload_n E (q := 173) 0 dX6_tell_172 rfl rfl rfl ?_
          refine r_get E (q := 176) fX6_31 0 wm_0 rfl dX6_tell_173 rfl ?_
          refine r_iload E (q := 178) 4 dX6_tell_176 rfl rfl ?_
          refine r_aload_n E (q := 179) 0 dX6_tell_178 rfl rfl rfl ?_
          refine r_get E (q := 182) fX6_31 0 wm_0 rfl dX6_tell_179 rfl ?_
          refine r_iload E (q := 184) 4 dX6_tell_182 rfl rfl ?_
          refine r_zald E (q := 185) 8 wm_8 hf dX6_tell_184 rfl ?_
          refine r_join 202 (if (ug (ug (ug (ug (ug (ug (ug G 9 (ix (V 0)) (fX6_sizeOf G x a b)) 4 (ix (V 0)) x) 5 (ix (V 0)) a) 6 (ix (V 0)) b) 7 (ix (V 0)) (if x = 0 then (1 <<< (a &&& 31)) else 0)) 8 (ix (V 0)) (if x = 5 then 1 else (if x = 6 then 1 else 0))) 7 (ix (V 0)) (((ug (ug (ug (ug (ug (ug G 9 (ix (V 0)) (fX6_sizeOf G x a b)) 4 (ix (V 0)) x) 5 (ix (V 0)) a) 6 (ix (V 0)) b) 7 (ix (V 0)) (if x = 0 then (1 <<< (a &&& 31)) else 0)) 8 (ix (V 0)) (if x = 5 then 1 else (if x = 6 then 1 else 0))) 7 (ix (V 0))) ||| ((ug (ug (ug (ug (ug (ug G 9 (ix (V 0)) (fX6_sizeOf G x a b)) 4 (ix (V 0)) x) 5 (ix (V 0)) a) 6 (ix (V 0)) b) 7 (ix (V 0)) (if x = 0 then (1 <<< (a &&& 31)) else 0)) 8 (ix (V 0)) (if x = 5 then 1 else (if x = 6 then 1 else 0))) 7 (ix b)))) 8 (ix (V 0)) = 0 then (if (ug (ug (ug (ug (ug (ug (ug G 9 (ix (V 0)) (fX6_sizeOf G x a b)) 4 (ix (V 0)) x) 5 (ix (V 0)) a) 6 (ix (V 0)) b) 7 (ix (V 0)) (if x = 0 then (1 <<< (a &&& 31)) else 0)) 8 (ix (V 0)) (if x = 5 then 1 else (if x = 6 then 1 else 0))) 7 (ix (V 0)) (((ug (ug (ug (ug (ug (ug G 9 (ix (V 0)) (fX6_sizeOf G x a b)) 4 (ix (V 0)) x) 5 (ix (V 0)) a) 6 (ix (V 0)) b) 7 (ix (V 0)) (if x = 0 then (1 <<< (a &&& 31)) else 0)) 8 (ix (V 0)) (if x = 5 then 1 else (if x = 6 then 1 else 0))) 7 (ix (V 0))) ||| ((ug (ug (ug (ug (ug (ug G 9 (ix (V 0)) (fX6_sizeOf G x a b)) 4 (ix (V 0)) x) 5 (ix (V 0)) a) 6 (ix (V 0)) b) 7 (ix (V 0)) (if x = 0 then (1 <<< (a &&& 31)) else 0)) 8 (ix (V 0)) (if x = 5 then 1 else (if x = 6 then 1 else 0))) 7 (ix b)))) 8 (ix b) = 0 then 0 else 1) else 1) (rest := [.int (V 0), .ref (ad 8)]) ?_ (fun hj3 => ?_)
          · refine r_zast E (q := 203) 8 wm_8 hf (nar_b (b01 (b01 (Or.inl rfl) (Or.inr rfl)) (Or.inr rfl))) wmu_8 dX6_tell_202 rfl ?_
            refine r_aload_n E (q := 204) 0 dX6_tell_203 rfl rfl rfl ?_
            refine r_dup E (q := 205) dX6_tell_204 rfl rfl ?_
            refine r_get E (q := 208) fX6_96 0 wm_0 rfl dX6_tell_205 rfl ?_
            refine r_iconst E (q := 209) (v := 1) dX6_tell_208 (by decide) rfl ?_
            refine r_iadd E (q := 210) dX6_tell_209 rfl ?_
            refine r_put E (q := 213) pX6_96 rfl 0 wm_0 rfl rfl (Nat.le_of_ble_eq_true rfl) wmv_0 dX6_tell_210 rfl ?_
            refine r_iload E (q := 215) 4 dX6_tell_213 rfl rfl ?_
            exact r_iret E T dX6_tell_215 (eqI.mk (by unfold fX6_tell; exact ((if_pos c4).trans (if_neg c5)).symm) (cgM (by unfold fX6_tell_G; exact ((if_pos c4).trans (if_neg c5)).symm) (by unfold fX6_tell_V; exact ((if_pos c4).trans (if_neg c5)).symm)))
          · refine r_if_ne E (q := 188) 197 dX6_tell_185 (by decide) rfl (fun c6 => ?_) (fun c6 => ?_)
            · refine r_iconst E (q := 198) (v := 1) dX6_tell_197 (by decide) rfl ?_
              refine r_goto E 202 dX6_tell_198 (by decide) ?_
              exact hj3 _ (if_neg c6).symm
            · refine r_aload_n E (q := 189) 0 dX6_tell_188 rfl rfl rfl ?_
              refine r_get E (q := 192) fX6_31 0 wm_0 rfl dX6_tell_189 rfl ?_
              refine r_iload_n E (q := 193) 3 dX6_tell_192 rfl rfl rfl ?_
              refine r_zald E (q := 194) 8 wm_8 (by first | exact ha (by assumption) | exact hb (by assumption)) dX6_tell_193 rfl ?_
              refine r_if_eq E (q := 197) 201 dX6_tell_194 (by decide) rfl (fun c7 => ?_) (fun c7 => ?_)
              · refine r_iconst E (q := 202) (v := 0) dX6_tell_201 (by decide) rfl ?_
                exact hj3 _ ((if_pos c6).trans (if_pos c7)).symm
              · refine r_iconst E (q := 198) (v := 1) dX6_tell_197 (by decide) rfl ?_
                refine r_goto E 202 dX6_tell_198 (by decide) ?_
                exact hj3 _ ((if_pos c6).trans (if_neg c7)).symm
      · refine r_aload_n E (q := 93) 0 dX6_tell_92 rfl rfl rfl ?_
        refine r_get E (q := 96) fX6_28 0 wm_0 rfl dX6_tell_93 rfl ?_
        refine r_iload E (q := 98) 4 dX6_tell_96 rfl rfl ?_
        refine r_aload_n E (q := 99) 0 dX6_tell_98 rfl rfl rfl ?_
        refine r_get E (q := 102) fX6_28 0 wm_0 rfl dX6_tell_99 rfl ?_
        refine r_iload E (q := 104) 4 dX6_tell_102 rfl rfl ?_
        refine r_iald E (q := 105) 7 wm_7 hf dX6_tell_104 rfl ?_
        refine r_aload_n E (q := 106) 0 dX6_tell_105 rfl rfl rfl ?_
        refine r_get E (q := 109) fX6_28 0 wm_0 rfl dX6_tell_106 rfl ?_
        refine r_iload_n E (q := 110) 2 dX6_tell_109 rfl rfl rfl ?_
        refine r_iald E (q := 111) 7 wm_7 (by first | exact ha (by assumption) | exact hb (by assumption)) dX6_tell_110 rfl ?_
        refine r_ior E (q := 112) dX6_tell_111 rfl ?_
        refine r_iast E (q := 113) 7 wm_7 hf wmu_7 dX6_tell_112 rfl ?_
        refine r_aload_n E (q := 114) 0 dX6_tell_113 rfl rfl rfl ?_
        refine r_get E (q := 117) fX6_31 0 wm_0 rfl dX6_tell_114 rfl ?_
        refine r_iload E (q := 119) 4 dX6_tell_117 rfl rfl ?_
        refine r_aload_n E (q := 120) 0 dX6_tell_119 rfl rfl rfl ?_
        refine r_get E (q := 123) fX6_31 0 wm_0 rfl dX6_tell_120 rfl ?_
        refine r_iload E (q := 125) 4 dX6_tell_123 rfl rfl ?_
        refine r_zald E (q := 126) 8 wm_8 hf dX6_tell_125 rfl ?_
        refine r_join 143 (if (ug (ug (ug (ug (ug (ug (ug G 9 (ix (V 0)) (fX6_sizeOf G x a b)) 4 (ix (V 0)) x) 5 (ix (V 0)) a) 6 (ix (V 0)) b) 7 (ix (V 0)) (if x = 0 then (1 <<< (a &&& 31)) else 0)) 8 (ix (V 0)) (if x = 5 then 1 else (if x = 6 then 1 else 0))) 7 (ix (V 0)) (((ug (ug (ug (ug (ug (ug G 9 (ix (V 0)) (fX6_sizeOf G x a b)) 4 (ix (V 0)) x) 5 (ix (V 0)) a) 6 (ix (V 0)) b) 7 (ix (V 0)) (if x = 0 then (1 <<< (a &&& 31)) else 0)) 8 (ix (V 0)) (if x = 5 then 1 else (if x = 6 then 1 else 0))) 7 (ix (V 0))) ||| ((ug (ug (ug (ug (ug (ug G 9 (ix (V 0)) (fX6_sizeOf G x a b)) 4 (ix (V 0)) x) 5 (ix (V 0)) a) 6 (ix (V 0)) b) 7 (ix (V 0)) (if x = 0 then (1 <<< (a &&& 31)) else 0)) 8 (ix (V 0)) (if x = 5 then 1 else (if x = 6 then 1 else 0))) 7 (ix a)))) 8 (ix (V 0)) = 0 then (if (ug (ug (ug (ug (ug (ug (ug G 9 (ix (V 0)) (fX6_sizeOf G x a b)) 4 (ix (V 0)) x) 5 (ix (V 0)) a) 6 (ix (V 0)) b) 7 (ix (V 0)) (if x = 0 then (1 <<< (a &&& 31)) else 0)) 8 (ix (V 0)) (if x = 5 then 1 else (if x = 6 then 1 else 0))) 7 (ix (V 0)) (((ug (ug (ug (ug (ug (ug G 9 (ix (V 0)) (fX6_sizeOf G x a b)) 4 (ix (V 0)) x) 5 (ix (V 0)) a) 6 (ix (V 0)) b) 7 (ix (V 0)) (if x = 0 then (1 <<< (a &&& 31)) else 0)) 8 (ix (V 0)) (if x = 5 then 1 else (if x = 6 then 1 else 0))) 7 (ix (V 0))) ||| ((ug (ug (ug (ug (ug (ug G 9 (ix (V 0)) (fX6_sizeOf G x a b)) 4 (ix (V 0)) x) 5 (ix (V 0)) a) 6 (ix (V 0)) b) 7 (ix (V 0)) (if x = 0 then (1 <<< (a &&& 31)) else 0)) 8 (ix (V 0)) (if x = 5 then 1 else (if x = 6 then 1 else 0))) 7 (ix a)))) 8 (ix a) = 0 then 0 else 1) else 1) (rest := [.int (V 0), .ref (ad 8)]) ?_ (fun hj4 => ?_)
        · refine r_zast E (q := 144) 8 wm_8 hf (nar_b (b01 (b01 (Or.inl rfl) (Or.inr rfl)) (Or.inr rfl))) wmu_8 dX6_tell_143 rfl ?_
          refine r_iload_n E (q := 145) 1 dX6_tell_144 rfl rfl rfl ?_
          refine rSi E (q := 148) csX6_103 T.rr [.int x] (c_X6_hasTwo x) (by decide) rfl rfl (Nat.le_of_ble_eq_true rfl) ⟨(Nat.le_of_ble_eq_true rfl), (Nat.le_of_ble_eq_true rfl)⟩ dX6_tell_145 rfl ?_
          refine r_if_eq E (q := 151) 203 dX6_tell_148 (by decide) rfl (fun c10 => ?_) (fun c10 => ?_)
          · refine r_aload_n E (q := 204) 0 dX6_tell_203 rfl rfl rfl ?_
            refine r_dup E (q := 205) dX6_tell_204 rfl rfl ?_
            refine r_get E (q := 208) fX6_96 0 wm_0 rfl dX6_tell_205 rfl ?_
            refine r_iconst E (q := 209) (v := 1) dX6_tell_208 (by decide) rfl ?_
            refine r_iadd E (q := 210) dX6_tell_209 rfl ?_
            refine r_put E (q := 213) pX6_96 rfl 0 wm_0 rfl rfl (Nat.le_of_ble_eq_true rfl) wmv_0 dX6_tell_210 rfl ?_
            refine r_iload E (q := 215) 4 dX6_tell_213 rfl rfl ?_
            exact r_iret E T dX6_tell_215 (eqI.mk (by unfold fX6_tell; exact ((if_neg c4).trans (if_pos c10)).symm) (cgM (by unfold fX6_tell_G; exact ((if_neg c4).trans (if_pos c10)).symm) (by unfold fX6_tell_V; exact ((if_neg c4).trans (if_pos c10)).symm)))
          · refine r_aload_n E (q := 152) 0 dX6_tell_151 rfl rfl rfl ?_
            refine r_get E (q := 155) fX6_28 0 wm_0 rfl dX6_tell_152 rfl ?_
            refine r_iload E (q := 157) 4 dX6_tell_155 rfl rfl ?_
            refine r_aload_n E (q := 158) 0 dX6_tell_157 rfl rfl rfl ?_
            refine r_get E (q := 161) fX6_28 0 wm_0 rfl dX6_tell_158 rfl ?_
            refine r_iload E (q := 163) 4 dX6_tell_161 rfl rfl ?_
            refine r_iald E (q := 164) 7 wm_7 hf dX6_tell_163 rfl ?_
            refine r_aload_n E (q := 165) 0 dX6_tell_164 rfl rfl rfl ?_
            refine r_get E (q := 168) fX6_28 0 wm_0 rfl dX6_tell_165 rfl ?_
            refine r_iload_n E (q := 169) 3 dX6_tell_168 rfl rfl rfl ?_
            refine r_iald E (q := 170) 7 wm_7 (by first | exact ha (by assumption) | exact hb (by assumption)) dX6_tell_169 rfl ?_
            refine r_ior E (q := 171) dX6_tell_170 rfl ?_
            refine r_iast E (q := 172) 7 wm_7 hf wmu_7 dX6_tell_171 rfl ?_
            refine r_aload_n E (q := 173) 0 dX6_tell_172 rfl rfl rfl ?_
            refine r_get E (q := 176) fX6_31 0 wm_0 rfl dX6_tell_173 rfl ?_
            refine r_iload E (q := 178) 4 dX6_tell_176 rfl rfl ?_
            refine r_aload_n E (q := 179) 0 dX6_tell_178 rfl rfl rfl ?_
            refine r_get E (q := 182) fX6_31 0 wm_0 rfl dX6_tell_179 rfl ?_
            refine r_iload E (q := 184) 4 dX6_tell_182 rfl rfl ?_
            refine r_zald E (q := 185) 8 wm_8 hf dX6_tell_184 rfl ?_
            refine r_join 202 (if (ug (ug (ug (ug (ug (ug (ug (ug (ug G 9 (ix (V 0)) (fX6_sizeOf G x a b)) 4 (ix (V 0)) x) 5 (ix (V 0)) a) 6 (ix (V 0)) b) 7 (ix (V 0)) (if x = 0 then (1 <<< (a &&& 31)) else 0)) 8 (ix (V 0)) (if x = 5 then 1 else (if x = 6 then 1 else 0))) 7 (ix (V 0)) (((ug (ug (ug (ug (ug (ug G 9 (ix (V 0)) (fX6_sizeOf G x a b)) 4 (ix (V 0)) x) 5 (ix (V 0)) a) 6 (ix (V 0)) b) 7 (ix (V 0)) (if x = 0 then (1 <<< (a &&& 31)) else 0)) 8 (ix (V 0)) (if x = 5 then 1 else (if x = 6 then 1 else 0))) 7 (ix (V 0))) ||| ((ug (ug (ug (ug (ug (ug G 9 (ix (V 0)) (fX6_sizeOf G x a b)) 4 (ix (V 0)) x) 5 (ix (V 0)) a) 6 (ix (V 0)) b) 7 (ix (V 0)) (if x = 0 then (1 <<< (a &&& 31)) else 0)) 8 (ix (V 0)) (if x = 5 then 1 else (if x = 6 then 1 else 0))) 7 (ix a)))) 8 (ix (V 0)) (if (ug (ug (ug (ug (ug (ug (ug G 9 (ix (V 0)) (fX6_sizeOf G x a b)) 4 (ix (V 0)) x) 5 (ix (V 0)) a) 6 (ix (V 0)) b) 7 (ix (V 0)) (if x = 0 then (1 <<< (a &&& 31)) else 0)) 8 (ix (V 0)) (if x = 5 then 1 else (if x = 6 then 1 else 0))) 7 (ix (V 0)) (((ug (ug (ug (ug (ug (ug G 9 (ix (V 0)) (fX6_sizeOf G x a b)) 4 (ix (V 0)) x) 5 (ix (V 0)) a) 6 (ix (V 0)) b) 7 (ix (V 0)) (if x = 0 then (1 <<< (a &&& 31)) else 0)) 8 (ix (V 0)) (if x = 5 then 1 else (if x = 6 then 1 else 0))) 7 (ix (V 0))) ||| ((ug (ug (ug (ug (ug (ug G 9 (ix (V 0)) (fX6_sizeOf G x a b)) 4 (ix (V 0)) x) 5 (ix (V 0)) a) 6 (ix (V 0)) b) 7 (ix (V 0)) (if x = 0 then (1 <<< (a &&& 31)) else 0)) 8 (ix (V 0)) (if x = 5 then 1 else (if x = 6 then 1 else 0))) 7 (ix a)))) 8 (ix (V 0)) = 0 then (if (ug (ug (ug (ug (ug (ug (ug G 9 (ix (V 0)) (fX6_sizeOf G x a b)) 4 (ix (V 0)) x) 5 (ix (V 0)) a) 6 (ix (V 0)) b) 7 (ix (V 0)) (if x = 0 then (1 <<< (a &&& 31)) else 0)) 8 (ix (V 0)) (if x = 5 then 1 else (if x = 6 then 1 else 0))) 7 (ix (V 0)) (((ug (ug (ug (ug (ug (ug G 9 (ix (V 0)) (fX6_sizeOf G x a b)) 4 (ix (V 0)) x) 5 (ix (V 0)) a) 6 (ix (V 0)) b) 7 (ix (V 0)) (if x = 0 then (1 <<< (a &&& 31)) else 0)) 8 (ix (V 0)) (if x = 5 then 1 else (if x = 6 then 1 else 0))) 7 (ix (V 0))) ||| ((ug (ug (ug (ug (ug (ug G 9 (ix (V 0)) (fX6_sizeOf G x a b)) 4 (ix (V 0)) x) 5 (ix (V 0)) a) 6 (ix (V 0)) b) 7 (ix (V 0)) (if x = 0 then (1 <<< (a &&& 31)) else 0)) 8 (ix (V 0)) (if x = 5 then 1 else (if x = 6 then 1 else 0))) 7 (ix a)))) 8 (ix a) = 0 then 0 else 1) else 1)) 7 (ix (V 0)) (((ug (ug (ug (ug (ug (ug (ug (ug G 9 (ix (V 0)) (fX6_sizeOf G x a b)) 4 (ix (V 0)) x) 5 (ix (V 0)) a) 6 (ix (V 0)) b) 7 (ix (V 0)) (if x = 0 then (1 <<< (a &&& 31)) else 0)) 8 (ix (V 0)) (if x = 5 then 1 else (if x = 6 then 1 else 0))) 7 (ix (V 0)) (((ug (ug (ug (ug (ug (ug G 9 (ix (V 0)) (fX6_sizeOf G x a b)) 4 (ix (V 0)) x) 5 (ix (V 0)) a) 6 (ix (V 0)) b) 7 (ix (V 0)) (if x = 0 then (1 <<< (a &&& 31)) else 0)) 8 (ix (V 0)) (if x = 5 then 1 else (if x = 6 then 1 else 0))) 7 (ix (V 0))) ||| ((ug (ug (ug (ug (ug (ug G 9 (ix (V 0)) (fX6_sizeOf G x a b)) 4 (ix (V 0)) x) 5 (ix (V 0)) a) 6 (ix (V 0)) b) 7 (ix (V 0)) (if x = 0 then (1 <<< (a &&& 31)) else 0)) 8 (ix (V 0)) (if x = 5 then 1 else (if x = 6 then 1 else 0))) 7 (ix a)))) 8 (ix (V 0)) (if (ug (ug (ug (ug (ug (ug (ug G 9 (ix (V 0)) (fX6_sizeOf G x a b)) 4 (ix (V 0)) x) 5 (ix (V 0)) a) 6 (ix (V 0)) b) 7 (ix (V 0)) (if x = 0 then (1 <<< (a &&& 31)) else 0)) 8 (ix (V 0)) (if x = 5 then 1 else (if x = 6 then 1 else 0))) 7 (ix (V 0)) (((ug (ug (ug (ug (ug (ug G 9 (ix (V 0)) (fX6_sizeOf G x a b)) 4 (ix (V 0)) x) 5 (ix (V 0)) a) 6 (ix (V 0)) b) 7 (ix (V 0)) (if x = 0 then (1 <<< (a &&& 31)) else 0)) 8 (ix (V 0)) (if x = 5 then 1 else (if x = 6 then 1 else 0))) 7 (ix (V 0))) ||| ((ug (ug (ug (ug (ug (ug G 9 (ix (V 0)) (fX6_sizeOf G x a b)) 4 (ix (V 0)) x) 5 (ix (V 0)) a) 6 (ix (V 0)) b) 7 (ix (V 0)) (if x = 0 then (1 <<< (a &&& 31)) else 0)) 8 (ix (V 0)) (if x = 5 then 1 else (if x = 6 then 1 else 0))) 7 (ix a)))) 8 (ix (V 0)) = 0 then (if (ug (ug (ug (ug (ug (ug (ug G 9 (ix (V 0)) (fX6_sizeOf G x a b)) 4 (ix (V 0)) x) 5 (ix (V 0)) a) 6 (ix (V 0)) b) 7 (ix (V 0)) (if x = 0 then (1 <<< (a &&& 31)) else 0)) 8 (ix (V 0)) (if x = 5 then 1 else (if x = 6 then 1 else 0))) 7 (ix (V 0)) (((ug (ug (ug (ug (ug (ug G 9 (ix (V 0)) (fX6_sizeOf G x a b)) 4 (ix (V 0)) x) 5 (ix (V 0)) a) 6 (ix (V 0)) b) 7 (ix (V 0)) (if x = 0 then (1 <<< (a &&& 31)) else 0)) 8 (ix (V 0)) (if x = 5 then 1 else (if x = 6 then 1 else 0))) 7 (ix (V 0))) ||| ((ug (ug (ug (ug (ug (ug G 9 (ix (V 0)) (fX6_sizeOf G x a b)) 4 (ix (V 0)) x) 5 (ix (V 0)) a) 6 (ix (V 0)) b) 7 (ix (V 0)) (if x = 0 then (1 <<< (a &&& 31)) else 0)) 8 (ix (V 0)) (if x = 5 then 1 else (if x = 6 then 1 else 0))) 7 (ix a)))) 8 (ix a) = 0 then 0 else 1) else 1)) 7 (ix (V 0))) ||| ((ug (ug (ug (ug (ug (ug (ug (ug G 9 (ix (V 0)) (fX6_sizeOf G x a b)) 4 (ix (V 0)) x) 5 (ix (V 0)) a) 6 (ix (V 0)) b) 7 (ix (V 0)) (if x = 0 then (1 <<< (a &&& 31)) else 0)) 8 (ix (V 0)) (if x = 5 then 1 else (if x = 6 then 1 else 0))) 7 (ix (V 0)) (((ug (ug (ug (ug (ug (ug G 9 (ix (V 0)) (fX6_sizeOf G x a b)) 4 (ix (V 0)) x) 5 (ix (V 0)) a) 6 (ix (V 0)) b) 7 (ix (V 0)) (if x = 0 then (1 <<< (a &&& 31)) else 0)) 8 (ix (V 0)) (if x = 5 then 1 else (if x = 6 then 1 else 0))) 7 (ix (V 0))) ||| ((ug (ug (ug (ug (ug (ug G 9 (ix (V 0)) (fX6_sizeOf G x a b)) 4 (ix (V 0)) x) 5 (ix (V 0)) a) 6 (ix (V 0)) b) 7 (ix (V 0)) (if x = 0 then (1 <<< (a &&& 31)) else 0)) 8 (ix (V 0)) (if x = 5 then 1 else (if x = 6 then 1 else 0))) 7 (ix a)))) 8 (ix (V 0)) (if (ug (ug (ug (ug (ug (ug (ug G 9 (ix (V 0)) (fX6_sizeOf G x a b)) 4 (ix (V 0)) x) 5 (ix (V 0)) a) 6 (ix (V 0)) b) 7 (ix (V 0)) (if x = 0 then (1 <<< (a &&& 31)) else 0)) 8 (ix (V 0)) (if x = 5 then 1 else (if x = 6 then 1 else 0))) 7 (ix (V 0)) (((ug (ug (ug (ug (ug (ug G 9 (ix (V 0)) (fX6_sizeOf G x a b)) 4 (ix (V 0)) x) 5 (ix (V 0)) a) 6 (ix (V 0)) b) 7 (ix (V 0)) (if x = 0 then (1 <<< (a &&& 31)) else 0)) 8 (ix (V 0)) (if x = 5 then 1 else (if x = 6 then 1 else 0))) 7 (ix (V 0))) ||| ((ug (ug (ug (ug (ug (ug G 9 (ix (V 0)) (fX6_sizeOf G x a b)) 4 (ix (V 0)) x) 5 (ix (V 0)) a) 6 (ix (V 0)) b) 7 (ix (V 0)) (if x = 0 then (1 <<< (a &&& 31)) else 0)) 8 (ix (V 0)) (if x = 5 then 1 else (if x = 6 then 1 else 0))) 7 (ix a)))) 8 (ix (V 0)) = 0 then (if (ug (ug (ug (ug (ug (ug (ug G 9 (ix (V 0)) (fX6_sizeOf G x a b)) 4 (ix (V 0)) x) 5 (ix (V 0)) a) 6 (ix (V 0)) b) 7 (ix (V 0)) (if x = 0 then (1 <<< (a &&& 31)) else 0)) 8 (ix (V 0)) (if x = 5 then 1 else (if x = 6 then 1 else 0))) 7 (ix (V 0)) (((ug (ug (ug (ug (ug (ug G 9 (ix (V 0)) (fX6_sizeOf G x a b)) 4 (ix (V 0)) x) 5 (ix (V 0)) a) 6 (ix (V 0)) b) 7 (ix (V 0)) (if x = 0 then (1 <<< (a &&& 31)) else 0)) 8 (ix (V 0)) (if x = 5 then 1 else (if x = 6 then 1 else 0))) 7 (ix (V 0))) ||| ((ug (ug (ug (ug (ug (ug G 9 (ix (V 0)) (fX6_sizeOf G x a b)) 4 (ix (V 0)) x) 5 (ix (V 0)) a) 6 (ix (V 0)) b) 7 (ix (V 0)) (if x = 0 then (1 <<< (a &&& 31)) else 0)) 8 (ix (V 0)) (if x = 5 then 1 else (if x = 6 then 1 else 0))) 7 (ix a)))) 8 (ix a) = 0 then 0 else 1) else 1)) 7 (ix b)))) 8 (ix (V 0)) = 0 then (if (ug (ug (ug (ug (ug (ug (ug (ug (ug G 9 (ix (V 0)) (fX6_sizeOf G x a b)) 4 (ix (V 0)) x) 5 (ix (V 0)) a) 6 (ix (V 0)) b) 7 (ix (V 0)) (if x = 0 then (1 <<< (a &&& 31)) else 0)) 8 (ix (V 0)) (if x = 5 then 1 else (if x = 6 then 1 else 0))) 7 (ix (V 0)) (((ug (ug (ug (ug (ug (ug G 9 (ix (V 0)) (fX6_sizeOf G x a b)) 4 (ix (V 0)) x) 5 (ix (V 0)) a) 6 (ix (V 0)) b) 7 (ix (V 0)) (if x = 0 then (1 <<< (a &&& 31)) else 0)) 8 (ix (V 0)) (if x = 5 then 1 else (if x = 6 then 1 else 0))) 7 (ix (V 0))) ||| ((ug (ug (ug (ug (ug (ug G 9 (ix (V 0)) (fX6_sizeOf G x a b)) 4 (ix (V 0)) x) 5 (ix (V 0)) a) 6 (ix (V 0)) b) 7 (ix (V 0)) (if x = 0 then (1 <<< (a &&& 31)) else 0)) 8 (ix (V 0)) (if x = 5 then 1 else (if x = 6 then 1 else 0))) 7 (ix a)))) 8 (ix (V 0)) (if (ug (ug (ug (ug (ug (ug (ug G 9 (ix (V 0)) (fX6_sizeOf G x a b)) 4 (ix (V 0)) x) 5 (ix (V 0)) a) 6 (ix (V 0)) b) 7 (ix (V 0)) (if x = 0 then (1 <<< (a &&& 31)) else 0)) 8 (ix (V 0)) (if x = 5 then 1 else (if x = 6 then 1 else 0))) 7 (ix (V 0)) (((ug (ug (ug (ug (ug (ug G 9 (ix (V 0)) (fX6_sizeOf G x a b)) 4 (ix (V 0)) x) 5 (ix (V 0)) a) 6 (ix (V 0)) b) 7 (ix (V 0)) (if x = 0 then (1 <<< (a &&& 31)) else 0)) 8 (ix (V 0)) (if x = 5 then 1 else (if x = 6 then 1 else 0))) 7 (ix (V 0))) ||| ((ug (ug (ug (ug (ug (ug G 9 (ix (V 0)) (fX6_sizeOf G x a b)) 4 (ix (V 0)) x) 5 (ix (V 0)) a) 6 (ix (V 0)) b) 7 (ix (V 0)) (if x = 0 then (1 <<< (a &&& 31)) else 0)) 8 (ix (V 0)) (if x = 5 then 1 else (if x = 6 then 1 else 0))) 7 (ix a)))) 8 (ix (V 0)) = 0 then (if (ug (ug (ug (ug (ug (ug (ug G 9 (ix (V 0)) (fX6_sizeOf G x a b)) 4 (ix (V 0)) x) 5 (ix (V 0)) a) 6 (ix (V 0)) b) 7 (ix (V 0)) (if x = 0 then (1 <<< (a &&& 31)) else 0)) 8 (ix (V 0)) (if x = 5 then 1 else (if x = 6 then 1 else 0))) 7 (ix (V 0)) (((ug (ug (ug (ug (ug (ug G 9 (ix (V 0)) (fX6_sizeOf G x a b)) 4 (ix (V 0)) x) 5 (ix (V 0)) a) 6 (ix (V 0)) b) 7 (ix (V 0)) (if x = 0 then (1 <<< (a &&& 31)) else 0)) 8 (ix (V 0)) (if x = 5 then 1 else (if x = 6 then 1 else 0))) 7 (ix (V 0))) ||| ((ug (ug (ug (ug (ug (ug G 9 (ix (V 0)) (fX6_sizeOf G x a b)) 4 (ix (V 0)) x) 5 (ix (V 0)) a) 6 (ix (V 0)) b) 7 (ix (V 0)) (if x = 0 then (1 <<< (a &&& 31)) else 0)) 8 (ix (V 0)) (if x = 5 then 1 else (if x = 6 then 1 else 0))) 7 (ix a)))) 8 (ix a) = 0 then 0 else 1) else 1)) 7 (ix (V 0)) (((ug (ug (ug (ug (ug (ug (ug (ug G 9 (ix (V 0)) (fX6_sizeOf G x a b)) 4 (ix (V 0)) x) 5 (ix (V 0)) a) 6 (ix (V 0)) b) 7 (ix (V 0)) (if x = 0 then (1 <<< (a &&& 31)) else 0)) 8 (ix (V 0)) (if x = 5 then 1 else (if x = 6 then 1 else 0))) 7 (ix (V 0)) (((ug (ug (ug (ug (ug (ug G 9 (ix (V 0)) (fX6_sizeOf G x a b)) 4 (ix (V 0)) x) 5 (ix (V 0)) a) 6 (ix (V 0)) b) 7 (ix (V 0)) (if x = 0 then (1 <<< (a &&& 31)) else 0)) 8 (ix (V 0)) (if x = 5 then 1 else (if x = 6 then 1 else 0))) 7 (ix (V 0))) ||| ((ug (ug (ug (ug (ug (ug G 9 (ix (V 0)) (fX6_sizeOf G x a b)) 4 (ix (V 0)) x) 5 (ix (V 0)) a) 6 (ix (V 0)) b) 7 (ix (V 0)) (if x = 0 then (1 <<< (a &&& 31)) else 0)) 8 (ix (V 0)) (if x = 5 then 1 else (if x = 6 then 1 else 0))) 7 (ix a)))) 8 (ix (V 0)) (if (ug (ug (ug (ug (ug (ug (ug G 9 (ix (V 0)) (fX6_sizeOf G x a b)) 4 (ix (V 0)) x) 5 (ix (V 0)) a) 6 (ix (V 0)) b) 7 (ix (V 0)) (if x = 0 then (1 <<< (a &&& 31)) else 0)) 8 (ix (V 0)) (if x = 5 then 1 else (if x = 6 then 1 else 0))) 7 (ix (V 0)) (((ug (ug (ug (ug (ug (ug G 9 (ix (V 0)) (fX6_sizeOf G x a b)) 4 (ix (V 0)) x) 5 (ix (V 0)) a) 6 (ix (V 0)) b) 7 (ix (V 0)) (if x = 0 then (1 <<< (a &&& 31)) else 0)) 8 (ix (V 0)) (if x = 5 then 1 else (if x = 6 then 1 else 0))) 7 (ix (V 0))) ||| ((ug (ug (ug (ug (ug (ug G 9 (ix (V 0)) (fX6_sizeOf G x a b)) 4 (ix (V 0)) x) 5 (ix (V 0)) a) 6 (ix (V 0)) b) 7 (ix (V 0)) (if x = 0 then (1 <<< (a &&& 31)) else 0)) 8 (ix (V 0)) (if x = 5 then 1 else (if x = 6 then 1 else 0))) 7 (ix a)))) 8 (ix (V 0)) = 0 then (if (ug (ug (ug (ug (ug (ug (ug G 9 (ix (V 0)) (fX6_sizeOf G x a b)) 4 (ix (V 0)) x) 5 (ix (V 0)) a) 6 (ix (V 0)) b) 7 (ix (V 0)) (if x = 0 then (1 <<< (a &&& 31)) else 0)) 8 (ix (V 0)) (if x = 5 then 1 else (if x = 6 then 1 else 0))) 7 (ix (V 0)) (((ug (ug (ug (ug (ug (ug G 9 (ix (V 0)) (fX6_sizeOf G x a b)) 4 (ix (V 0)) x) 5 (ix (V 0)) a) 6 (ix (V 0)) b) 7 (ix (V 0)) (if x = 0 then (1 <<< (a &&& 31)) else 0)) 8 (ix (V 0)) (if x = 5 then 1 else (if x = 6 then 1 else 0))) 7 (ix (V 0))) ||| ((ug (ug (ug (ug (ug (ug G 9 (ix (V 0)) (fX6_sizeOf G x a b)) 4 (ix (V 0)) x) 5 (ix (V 0)) a) 6 (ix (V 0)) b) 7 (ix (V 0)) (if x = 0 then (1 <<< (a &&& 31)) else 0)) 8 (ix (V 0)) (if x = 5 then 1 else (if x = 6 then 1 else 0))) 7 (ix a)))) 8 (ix a) = 0 then 0 else 1) else 1)) 7 (ix (V 0))) ||| ((ug (ug (ug (ug (ug (ug (ug (ug G 9 (ix (V 0)) (fX6_sizeOf G x a b)) 4 (ix (V 0)) x) 5 (ix (V 0)) a) 6 (ix (V 0)) b) 7 (ix (V 0)) (if x = 0 then (1 <<< (a &&& 31)) else 0)) 8 (ix (V 0)) (if x = 5 then 1 else (if x = 6 then 1 else 0))) 7 (ix (V 0)) (((ug (ug (ug (ug (ug (ug G 9 (ix (V 0)) (fX6_sizeOf G x a b)) 4 (ix (V 0)) x) 5 (ix (V 0)) a) 6 (ix (V 0)) b) 7 (ix (V 0)) (if x = 0 then (1 <<< (a &&& 31)) else 0)) 8 (ix (V 0)) (if x = 5 then 1 else (if x = 6 then 1 else 0))) 7 (ix (V 0))) ||| ((ug (ug (ug (ug (ug (ug G 9 (ix (V 0)) (fX6_sizeOf G x a b)) 4 (ix (V 0)) x) 5 (ix (V 0)) a) 6 (ix (V 0)) b) 7 (ix (V 0)) (if x = 0 then (1 <<< (a &&& 31)) else 0)) 8 (ix (V 0)) (if x = 5 then 1 else (if x = 6 then 1 else 0))) 7 (ix a)))) 8 (ix (V 0)) (if (ug (ug (ug (ug (ug (ug (ug G 9 (ix (V 0)) (fX6_sizeOf G x a b)) 4 (ix (V 0)) x) 5 (ix (V 0)) a) 6 (ix (V 0)) b) 7 (ix (V 0)) (if x = 0 then (1 <<< (a &&& 31)) else 0)) 8 (ix (V 0)) (if x = 5 then 1 else (if x = 6 then 1 else 0))) 7 (ix (V 0)) (((ug (ug (ug (ug (ug (ug G 9 (ix (V 0)) (fX6_sizeOf G x a b)) 4 (ix (V 0)) x) 5 (ix (V 0)) a) 6 (ix (V 0)) b) 7 (ix (V 0)) (if x = 0 then (1 <<< (a &&& 31)) else 0)) 8 (ix (V 0)) (if x = 5 then 1 else (if x = 6 then 1 else 0))) 7 (ix (V 0))) ||| ((ug (ug (ug (ug (ug (ug G 9 (ix (V 0)) (fX6_sizeOf G x a b)) 4 (ix (V 0)) x) 5 (ix (V 0)) a) 6 (ix (V 0)) b) 7 (ix (V 0)) (if x = 0 then (1 <<< (a &&& 31)) else 0)) 8 (ix (V 0)) (if x = 5 then 1 else (if x = 6 then 1 else 0))) 7 (ix a)))) 8 (ix (V 0)) = 0 then (if (ug (ug (ug (ug (ug (ug (ug G 9 (ix (V 0)) (fX6_sizeOf G x a b)) 4 (ix (V 0)) x) 5 (ix (V 0)) a) 6 (ix (V 0)) b) 7 (ix (V 0)) (if x = 0 then (1 <<< (a &&& 31)) else 0)) 8 (ix (V 0)) (if x = 5 then 1 else (if x = 6 then 1 else 0))) 7 (ix (V 0)) (((ug (ug (ug (ug (ug (ug G 9 (ix (V 0)) (fX6_sizeOf G x a b)) 4 (ix (V 0)) x) 5 (ix (V 0)) a) 6 (ix (V 0)) b) 7 (ix (V 0)) (if x = 0 then (1 <<< (a &&& 31)) else 0)) 8 (ix (V 0)) (if x = 5 then 1 else (if x = 6 then 1 else 0))) 7 (ix (V 0))) ||| ((ug (ug (ug (ug (ug (ug G 9 (ix (V 0)) (fX6_sizeOf G x a b)) 4 (ix (V 0)) x) 5 (ix (V 0)) a) 6 (ix (V 0)) b) 7 (ix (V 0)) (if x = 0 then (1 <<< (a &&& 31)) else 0)) 8 (ix (V 0)) (if x = 5 then 1 else (if x = 6 then 1 else 0))) 7 (ix a)))) 8 (ix a) = 0 then 0 else 1) else 1)) 7 (ix b)))) 8 (ix b) = 0 then 0 else 1) else 1) (rest := [.int (V 0), .ref (ad 8)]) ?_ (fun hj5 => ?_)
            · refine r_zast E (q := 203) 8 wm_8 hf (nar_b (b01 (b01 (Or.inl rfl) (Or.inr rfl)) (Or.inr rfl))) wmu_8 dX6_tell_202 rfl ?_
              refine r_aload_n E (q := 204) 0 dX6_tell_203 rfl rfl rfl ?_
              refine r_dup E (q := 205) dX6_tell_204 rfl rfl ?_
              refine r_get E (q := 208) fX6_96 0 wm_0 rfl dX6_tell_205 rfl ?_
              refine r_iconst E (q := 209) (v := 1) dX6_tell_208 (by decide) rfl ?_
              refine r_iadd E (q := 210) dX6_tell_209 rfl ?_
              refine r_put E (q := 213) pX6_96 rfl 0 wm_0 rfl rfl (Nat.le_of_ble_eq_true rfl) wmv_0 dX6_tell_210 rfl ?_
              refine r_iload E (q := 215) 4 dX6_tell_213 rfl rfl ?_
              exact r_iret E T dX6_tell_215 (eqI.mk (by unfold fX6_tell; exact ((if_neg c4).trans (if_neg c10)).symm) (cgM (by unfold fX6_tell_G; exact ((if_neg c4).trans (if_neg c10)).symm) (by unfold fX6_tell_V; exact ((if_neg c4).trans (if_neg c10)).symm)))
            · refine r_if_ne E (q := 188) 197 dX6_tell_185 (by decide) rfl (fun c11 => ?_) (fun c11 => ?_)
              · refine r_iconst E (q := 198) (v := 1) dX6_tell_197 (by decide) rfl ?_
                refine r_goto E 202 dX6_tell_198 (by decide) ?_
                exact hj5 _ (if_neg c11).symm
              · refine r_aload_n E (q := 189) 0 dX6_tell_188 rfl rfl rfl ?_
                refine r_get E (q := 192) fX6_31 0 wm_0 rfl dX6_tell_189 rfl ?_
                refine r_iload_n E (q := 193) 3 dX6_tell_192 rfl rfl rfl ?_
                refine r_zald E (q := 194) 8 wm_8 (by first | exact ha (by assumption) | exact hb (by assumption)) dX6_tell_193 rfl ?_
                refine r_if_eq E (q := 197) 201 dX6_tell_194 (by decide) rfl (fun c12 => ?_) (fun c12 => ?_)
                · refine r_iconst E (q := 202) (v := 0) dX6_tell_201 (by decide) rfl ?_
                  exact hj5 _ ((if_pos c11).trans (if_pos c12)).symm
                · refine r_iconst E (q := 198) (v := 1) dX6_tell_197 (by decide) rfl ?_
                  refine r_goto E 202 dX6_tell_198 (by decide) ?_
                  exact hj5 _ ((if_pos c11).trans (if_neg c12)).symm
        · refine r_if_ne E (q := 129) 138 dX6_tell_126 (by decide) rfl (fun c8 => ?_) (fun c8 => ?_)
          · refine r_iconst E (q := 139) (v := 1) dX6_tell_138 (by decide) rfl ?_
            refine r_goto E 143 dX6_tell_139 (by decide) ?_
            exact hj4 _ (if_neg c8).symm
          · refine r_aload_n E (q := 130) 0 dX6_tell_129 rfl rfl rfl ?_
            refine r_get E (q := 133) fX6_31 0 wm_0 rfl dX6_tell_130 rfl ?_
            refine r_iload_n E (q := 134) 2 dX6_tell_133 rfl rfl rfl ?_
            refine r_zald E (q := 135) 8 wm_8 (by first | exact ha (by assumption) | exact hb (by assumption)) dX6_tell_134 rfl ?_
            refine r_if_eq E (q := 138) 142 dX6_tell_135 (by decide) rfl (fun c9 => ?_) (fun c9 => ?_)
            · refine r_iconst E (q := 143) (v := 0) dX6_tell_142 (by decide) rfl ?_
              exact hj4 _ ((if_pos c8).trans (if_pos c9)).symm
            · refine r_iconst E (q := 139) (v := 1) dX6_tell_138 (by decide) rfl ?_
              refine r_goto E 143 dX6_tell_139 (by decide) ?_
              exact hj4 _ ((if_pos c8).trans (if_neg c9)).symm
    · refine r_icmp_eq E (q := 73) 79 dX6_tell_70 (by decide) rfl (fun c2 => ?_) (fun c2 => ?_)
      · refine r_iconst E (q := 80) (v := 1) dX6_tell_79 (by decide) rfl ?_
        refine r_goto E 84 dX6_tell_80 (by decide) ?_
        exact hj2 _ (if_pos c2).symm
      · refine r_iload_n E (q := 74) 1 dX6_tell_73 rfl rfl rfl ?_
        refine r_bipush E (q := 76) (v := 6) dX6_tell_74 (by decide) rfl ?_
        refine r_icmp_ne E (q := 79) 83 dX6_tell_76 (by decide) rfl (fun c3 => ?_) (fun c3 => ?_)
        · refine r_iconst E (q := 84) (v := 0) dX6_tell_83 (by decide) rfl ?_
          exact hj2 _ ((if_neg c2).trans (if_neg c3)).symm
        · refine r_iconst E (q := 80) (v := 1) dX6_tell_79 (by decide) rfl ?_
          refine r_goto E 84 dX6_tell_80 (by decide) ?_
          exact hj2 _ ((if_neg c2).trans (if_pos c3)).symm
  · refine r_if_ne E (q := 54) 60 dX6_tell_51 (by decide) rfl (fun c1 => ?_) (fun c1 => ?_)
    · refine r_iconst E (q := 61) (v := 0) dX6_tell_60 (by decide) rfl ?_
      exact hj1 _ (if_neg c1).symm
    · refine r_iconst E (q := 55) (v := 1) dX6_tell_54 (by decide) rfl ?_
      refine r_iload_n E (q := 56) 2 dX6_tell_55 rfl rfl rfl ?_
      refine r_ishl E (q := 57) dX6_tell_56 rfl ?_
      refine r_goto E 61 dX6_tell_57 (by decide) ?_
      exact hj1 _ (if_pos c1).symm
def fX6_isNode (V : Nat → Int32) (x : Int32) : Int32 := fX6_in x.toInt64 0 (((V 1) - 1).toInt64)
theorem b_X6_isNode (V : Nat → Int32) (x : Int32) : fX6_isNode V x = 0 ∨ fX6_isNode V x = 1 := (b_X6_in _ _ _)
set_option maxRecDepth 100000 in
set_option maxHeartbeats 800000 in
theorem c_X6_isNode {l : Launch} {k : Kt} {ad : Nat → Nat} {G : Nat → Nat → Int32} {V : Nat → Int32} (x : Int32) : CT l k yX6_isNode cX6_isNode 2 (some .boolean) 1 [.ref (ad 0), .int x] (WM k ad G V) (eqI (fX6_isNode V x) (WM k ad G V)) 0 0 := by
  refine ct_of (own := RX6) (lv0 := [(0, .ref (ad 0)), (1, .int x)]) (by decide) rfl (Nat.le_of_ble_eq_true rfl) rfl ?_
  rintro z rfl rfl hz - E T
  refine r_iload_n E (q := 1) 1 dX6_isNode_0 rfl rfl rfl ?_
  refine r_i2l E (q := 2) dX6_isNode_1 rfl ?_
  refine r_lconst E (q := 3) (v := 0) dX6_isNode_2 (by decide) rfl ?_
  refine r_aload_n E (q := 4) 0 dX6_isNode_3 rfl rfl rfl ?_
  refine r_get E (q := 7) fX6_120 0 wm_0 rfl dX6_isNode_4 rfl ?_
  refine r_iconst E (q := 8) (v := 1) dX6_isNode_7 (by decide) rfl ?_
  refine r_isub E (q := 9) dX6_isNode_8 rfl ?_
  refine r_i2l E (q := 10) dX6_isNode_9 rfl ?_
  refine rSi E (q := 13) csX6_90 T.rr [.long x.toInt64, .long 0, .long (((V 1) - 1).toInt64)] (c_X6_in x.toInt64 0 (((V 1) - 1).toInt64)) (by decide) rfl rfl (Nat.le_of_ble_eq_true rfl) ⟨(Nat.le_of_ble_eq_true rfl), (Nat.le_of_ble_eq_true rfl)⟩ dX6_isNode_10 rfl ?_
  exact r_zret E T (b_X6_in _ _ _) dX6_isNode_13 (eqI.mk (by unfold fX6_isNode; exact rfl) rfl)
def fX6_isTwo (x : Int32) : Int32 := if x = 4 then 1 else (if x = 5 then 1 else 0)
theorem b_X6_isTwo (x : Int32) : fX6_isTwo x = 0 ∨ fX6_isTwo x = 1 := (b01 (Or.inr rfl) (b01 (Or.inr rfl) (Or.inl rfl)))
set_option maxRecDepth 100000 in
set_option maxHeartbeats 800000 in
theorem c_X6_isTwo {l : Launch} {k : Kt} {ad : Nat → Nat} {G : Nat → Nat → Int32} {V : Nat → Int32} (x : Int32) : CT l k yX6_isTwo cX6_isTwo 1 (some .boolean) 0 [.int x] (WM k ad G V) (eqI (fX6_isTwo x) (WM k ad G V)) 0 0 := by
  refine ct_of (own := RX6) (lv0 := [(0, .int x)]) (by decide) rfl (Nat.le_of_ble_eq_true rfl) rfl ?_
  rintro z rfl rfl hz - E T
  refine r_iload_n E (q := 1) 0 dX6_isTwo_0 rfl rfl rfl ?_
  refine r_iconst E (q := 2) (v := 4) dX6_isTwo_1 (by decide) rfl ?_
  refine r_join 15 (if x = 4 then 1 else (if x = 5 then 1 else 0)) (rest := []) ?_ (fun hj1 => ?_)
  · exact r_zret E T (b01 (Or.inr rfl) (b01 (Or.inr rfl) (Or.inl rfl))) dX6_isTwo_15 (eqI.mk (by unfold fX6_isTwo; exact rfl) rfl)
  · refine r_icmp_eq E (q := 5) 10 dX6_isTwo_2 (by decide) rfl (fun c1 => ?_) (fun c1 => ?_)
    · refine r_iconst E (q := 11) (v := 1) dX6_isTwo_10 (by decide) rfl ?_
      refine r_goto E 15 dX6_isTwo_11 (by decide) ?_
      exact hj1 _ (if_pos c1).symm
    · refine r_iload_n E (q := 6) 0 dX6_isTwo_5 rfl rfl rfl ?_
      refine r_iconst E (q := 7) (v := 5) dX6_isTwo_6 (by decide) rfl ?_
      refine r_icmp_ne E (q := 10) 14 dX6_isTwo_7 (by decide) rfl (fun c2 => ?_) (fun c2 => ?_)
      · refine r_iconst E (q := 15) (v := 0) dX6_isTwo_14 (by decide) rfl ?_
        exact hj1 _ ((if_neg c1).trans (if_neg c2)).symm
      · refine r_iconst E (q := 11) (v := 1) dX6_isTwo_10 (by decide) rfl ?_
        refine r_goto E 15 dX6_isTwo_11 (by decide) ?_
        exact hj1 _ ((if_neg c1).trans (if_pos c2)).symm
def fX6_hasMember (x : Int32) : Int32 := if x = 2 then 1 else (if x = 4 then 1 else (if x = 6 then 1 else 0))
theorem b_X6_hasMember (x : Int32) : fX6_hasMember x = 0 ∨ fX6_hasMember x = 1 := (b01 (Or.inr rfl) (b01 (Or.inr rfl) (b01 (Or.inr rfl) (Or.inl rfl))))
set_option maxRecDepth 100000 in
set_option maxHeartbeats 800000 in
theorem c_X6_hasMember {l : Launch} {k : Kt} {ad : Nat → Nat} {G : Nat → Nat → Int32} {V : Nat → Int32} (x : Int32) : CT l k yX6_hasMember cX6_hasMember 1 (some .boolean) 0 [.int x] (WM k ad G V) (eqI (fX6_hasMember x) (WM k ad G V)) 0 0 := by
  refine ct_of (own := RX6) (lv0 := [(0, .int x)]) (by decide) rfl (Nat.le_of_ble_eq_true rfl) rfl ?_
  rintro z rfl rfl hz - E T
  refine r_iload_n E (q := 1) 0 dX6_hasMember_0 rfl rfl rfl ?_
  refine r_iconst E (q := 2) (v := 2) dX6_hasMember_1 (by decide) rfl ?_
  refine r_join 21 (if x = 2 then 1 else (if x = 4 then 1 else (if x = 6 then 1 else 0))) (rest := []) ?_ (fun hj1 => ?_)
  · exact r_zret E T (b01 (Or.inr rfl) (b01 (Or.inr rfl) (b01 (Or.inr rfl) (Or.inl rfl)))) dX6_hasMember_21 (eqI.mk (by unfold fX6_hasMember; exact rfl) rfl)
  · refine r_icmp_eq E (q := 5) 16 dX6_hasMember_2 (by decide) rfl (fun c1 => ?_) (fun c1 => ?_)
    · refine r_iconst E (q := 17) (v := 1) dX6_hasMember_16 (by decide) rfl ?_
      refine r_goto E 21 dX6_hasMember_17 (by decide) ?_
      exact hj1 _ (if_pos c1).symm
    · refine r_iload_n E (q := 6) 0 dX6_hasMember_5 rfl rfl rfl ?_
      refine r_iconst E (q := 7) (v := 4) dX6_hasMember_6 (by decide) rfl ?_
      refine r_icmp_eq E (q := 10) 16 dX6_hasMember_7 (by decide) rfl (fun c2 => ?_) (fun c2 => ?_)
      · refine r_iconst E (q := 17) (v := 1) dX6_hasMember_16 (by decide) rfl ?_
        refine r_goto E 21 dX6_hasMember_17 (by decide) ?_
        exact hj1 _ ((if_neg c1).trans (if_pos c2)).symm
      · refine r_iload_n E (q := 11) 0 dX6_hasMember_10 rfl rfl rfl ?_
        refine r_bipush E (q := 13) (v := 6) dX6_hasMember_11 (by decide) rfl ?_
        refine r_icmp_ne E (q := 16) 20 dX6_hasMember_13 (by decide) rfl (fun c3 => ?_) (fun c3 => ?_)
        · refine r_iconst E (q := 21) (v := 0) dX6_hasMember_20 (by decide) rfl ?_
          exact hj1 _ ((if_neg c1).trans ((if_neg c2).trans (if_neg c3))).symm
        · refine r_iconst E (q := 17) (v := 1) dX6_hasMember_16 (by decide) rfl ?_
          refine r_goto E 21 dX6_hasMember_17 (by decide) ?_
          exact hj1 _ ((if_neg c1).trans ((if_neg c2).trans (if_pos c3))).symm
def fX6_hasNumber (x : Int32) : Int32 := if fX6_in x.toInt64 1 4 = 0 then (if x = 6 then 1 else (if x = 8 then 1 else 0)) else 1
theorem b_X6_hasNumber (x : Int32) : fX6_hasNumber x = 0 ∨ fX6_hasNumber x = 1 := (b01 (b01 (Or.inr rfl) (b01 (Or.inr rfl) (Or.inl rfl))) (Or.inr rfl))
set_option maxRecDepth 100000 in
set_option maxHeartbeats 800000 in
theorem c_X6_hasNumber {l : Launch} {k : Kt} {ad : Nat → Nat} {G : Nat → Nat → Int32} {V : Nat → Int32} (x : Int32) : CT l k yX6_hasNumber cX6_hasNumber 1 (some .boolean) 1 [.int x] (WM k ad G V) (eqI (fX6_hasNumber x) (WM k ad G V)) 0 0 := by
  refine ct_of (own := RX6) (lv0 := [(0, .int x)]) (by decide) rfl (Nat.le_of_ble_eq_true rfl) rfl ?_
  rintro z rfl rfl hz - E T
  refine r_iload_n E (q := 1) 0 dX6_hasNumber_0 rfl rfl rfl ?_
  refine r_i2l E (q := 2) dX6_hasNumber_1 rfl ?_
  refine r_lconst E (q := 3) (v := 1) dX6_hasNumber_2 (by decide) rfl ?_
  refine r_ldc2 E (q := 6) kX6_123 dX6_hasNumber_3 rfl ?_
  refine rSi E (q := 9) csX6_90 T.rr [.long x.toInt64, .long 1, .long 4] (c_X6_in x.toInt64 1 4) (by decide) rfl rfl (Nat.le_of_ble_eq_true rfl) ⟨(Nat.le_of_ble_eq_true rfl), (Nat.le_of_ble_eq_true rfl)⟩ dX6_hasNumber_6 rfl ?_
  refine r_join 29 (if fX6_in x.toInt64 1 4 = 0 then (if x = 6 then 1 else (if x = 8 then 1 else 0)) else 1) (rest := []) ?_ (fun hj1 => ?_)
  · exact r_zret E T (b01 (b01 (Or.inr rfl) (b01 (Or.inr rfl) (Or.inl rfl))) (Or.inr rfl)) dX6_hasNumber_29 (eqI.mk (by unfold fX6_hasNumber; exact rfl) rfl)
  · refine r_if_ne E (q := 12) 24 dX6_hasNumber_9 (by decide) rfl (fun c1 => ?_) (fun c1 => ?_)
    · refine r_iconst E (q := 25) (v := 1) dX6_hasNumber_24 (by decide) rfl ?_
      refine r_goto E 29 dX6_hasNumber_25 (by decide) ?_
      exact hj1 _ (if_neg c1).symm
    · refine r_iload_n E (q := 13) 0 dX6_hasNumber_12 rfl rfl rfl ?_
      refine r_bipush E (q := 15) (v := 6) dX6_hasNumber_13 (by decide) rfl ?_
      refine r_icmp_eq E (q := 18) 24 dX6_hasNumber_15 (by decide) rfl (fun c2 => ?_) (fun c2 => ?_)
      · refine r_iconst E (q := 25) (v := 1) dX6_hasNumber_24 (by decide) rfl ?_
        refine r_goto E 29 dX6_hasNumber_25 (by decide) ?_
        exact hj1 _ ((if_pos c1).trans (if_pos c2)).symm
      · refine r_iload_n E (q := 19) 0 dX6_hasNumber_18 rfl rfl rfl ?_
        refine r_bipush E (q := 21) (v := 8) dX6_hasNumber_19 (by decide) rfl ?_
        refine r_icmp_ne E (q := 24) 28 dX6_hasNumber_21 (by decide) rfl (fun c3 => ?_) (fun c3 => ?_)
        · refine r_iconst E (q := 29) (v := 0) dX6_hasNumber_28 (by decide) rfl ?_
          exact hj1 _ ((if_pos c1).trans ((if_neg c2).trans (if_neg c3))).symm
        · refine r_iconst E (q := 25) (v := 1) dX6_hasNumber_24 (by decide) rfl ?_
          refine r_goto E 29 dX6_hasNumber_25 (by decide) ?_
          exact hj1 _ ((if_pos c1).trans ((if_neg c2).trans (if_pos c3))).symm
def fX6_isRight (V : Nat → Int32) (x : Int32) (v : Int32) (m : Int32) : Int32 := if x = 1 then (fX6_isFormula V v) else (if x = 2 then (fX6_isFormula V v) else (if x = 3 then (fX6_in v.toInt64 0 63) else (if x = 4 then (fX6_in v.toInt64 0 63) else (if x = 5 then 1 else (if x = 6 then (if fX6_in v.toInt64 0 5 = 0 then 0 else (if v = m then 0 else 1)) else (if x = 7 then 1 else (if x = 8 then (fX6_in v.toInt64 0 100) else 1)))))))
theorem b_X6_isRight (V : Nat → Int32) (x : Int32) (v : Int32) (m : Int32) : fX6_isRight V x v m = 0 ∨ fX6_isRight V x v m = 1 := (b01 (b_X6_isFormula _ _) (b01 (b_X6_isFormula _ _) (b01 (b_X6_in _ _ _) (b01 (b_X6_in _ _ _) (b01 (Or.inr rfl) (b01 (b01 (Or.inl rfl) (b01 (Or.inl rfl) (Or.inr rfl))) (b01 (Or.inr rfl) (b01 (b_X6_in _ _ _) (Or.inr rfl)))))))))
set_option maxRecDepth 100000 in
set_option maxHeartbeats 800000 in
theorem c_X6_isRight {l : Launch} {k : Kt} {ad : Nat → Nat} {G : Nat → Nat → Int32} {V : Nat → Int32} (x : Int32) (v : Int32) (m : Int32) : CT l k yX6_isRight cX6_isRight 4 (some .boolean) 2 [.ref (ad 0), .int x, .int v, .int m] (WM k ad G V) (eqI (fX6_isRight V x v m) (WM k ad G V)) 0 0 := by
  refine ct_of (own := RX6) (lv0 := [(0, .ref (ad 0)), (1, .int x), (2, .int v), (3, .int m)]) (by decide) rfl (Nat.le_of_ble_eq_true rfl) rfl ?_
  rintro z rfl rfl hz - E T
  refine r_iload_n E (q := 1) 1 dX6_isRight_0 rfl rfl rfl ?_
  by_cases c1 : x = 1
  · refine r_tabIn E 1 c1 48 dX6_isRight_1 (by decide) (by rfl) (by decide) ?_
    refine r_aload_n E (q := 49) 0 dX6_isRight_48 rfl rfl rfl ?_
    refine r_iload_n E (q := 50) 2 dX6_isRight_49 rfl rfl rfl ?_
    refine rVi E (q := 53) cvX6_114 T.rr 0 wm_0 rfl [.int v] (c_X6_isFormula v) (by decide) rfl rfl (Nat.le_of_ble_eq_true rfl) ⟨(Nat.le_of_ble_eq_true rfl), (Nat.le_of_ble_eq_true rfl)⟩ dX6_isRight_50 rfl ?_
    exact r_zret E T (b_X6_isFormula _ _) dX6_isRight_53 (eqI.mk (by unfold fX6_isRight; exact (if_pos c1).symm) rfl)
  · by_cases c2 : x = 2
    · refine r_tabIn E 2 c2 48 dX6_isRight_1 (by decide) (by rfl) (by decide) ?_
      refine r_aload_n E (q := 49) 0 dX6_isRight_48 rfl rfl rfl ?_
      refine r_iload_n E (q := 50) 2 dX6_isRight_49 rfl rfl rfl ?_
      refine rVi E (q := 53) cvX6_114 T.rr 0 wm_0 rfl [.int v] (c_X6_isFormula v) (by decide) rfl rfl (Nat.le_of_ble_eq_true rfl) ⟨(Nat.le_of_ble_eq_true rfl), (Nat.le_of_ble_eq_true rfl)⟩ dX6_isRight_50 rfl ?_
      exact r_zret E T (b_X6_isFormula _ _) dX6_isRight_53 (eqI.mk (by unfold fX6_isRight; exact ((if_neg c1).trans (if_pos c2)).symm) rfl)
    · by_cases c3 : x = 3
      · refine r_tabIn E 3 c3 54 dX6_isRight_1 (by decide) (by rfl) (by decide) ?_
        refine r_iload_n E (q := 55) 2 dX6_isRight_54 rfl rfl rfl ?_
        refine r_i2l E (q := 56) dX6_isRight_55 rfl ?_
        refine r_lconst E (q := 57) (v := 0) dX6_isRight_56 (by decide) rfl ?_
        refine r_ldc2 E (q := 60) kX6_125 dX6_isRight_57 rfl ?_
        refine rSi E (q := 63) csX6_90 T.rr [.long v.toInt64, .long 0, .long 63] (c_X6_in v.toInt64 0 63) (by decide) rfl rfl (Nat.le_of_ble_eq_true rfl) ⟨(Nat.le_of_ble_eq_true rfl), (Nat.le_of_ble_eq_true rfl)⟩ dX6_isRight_60 rfl ?_
        exact r_zret E T (b_X6_in _ _ _) dX6_isRight_63 (eqI.mk (by unfold fX6_isRight; exact ((if_neg c1).trans ((if_neg c2).trans (if_pos c3))).symm) rfl)
      · by_cases c4 : x = 4
        · refine r_tabIn E 4 c4 54 dX6_isRight_1 (by decide) (by rfl) (by decide) ?_
          refine r_iload_n E (q := 55) 2 dX6_isRight_54 rfl rfl rfl ?_
          refine r_i2l E (q := 56) dX6_isRight_55 rfl ?_
          refine r_lconst E (q := 57) (v := 0) dX6_isRight_56 (by decide) rfl ?_
          refine r_ldc2 E (q := 60) kX6_125 dX6_isRight_57 rfl ?_
          refine rSi E (q := 63) csX6_90 T.rr [.long v.toInt64, .long 0, .long 63] (c_X6_in v.toInt64 0 63) (by decide) rfl rfl (Nat.le_of_ble_eq_true rfl) ⟨(Nat.le_of_ble_eq_true rfl), (Nat.le_of_ble_eq_true rfl)⟩ dX6_isRight_60 rfl ?_
          exact r_zret E T (b_X6_in _ _ _) dX6_isRight_63 (eqI.mk (by unfold fX6_isRight; exact ((if_neg c1).trans ((if_neg c2).trans ((if_neg c3).trans (if_pos c4)))).symm) rfl)
        · by_cases c5 : x = 5
          · refine r_tabIn E 5 c5 97 dX6_isRight_1 (by decide) (by rfl) (by decide) ?_
            refine r_iconst E (q := 98) (v := 1) dX6_isRight_97 (by decide) rfl ?_
            exact r_zret E T (Or.inr rfl) dX6_isRight_98 (eqI.mk (by unfold fX6_isRight; exact ((if_neg c1).trans ((if_neg c2).trans ((if_neg c3).trans ((if_neg c4).trans (if_pos c5))))).symm) rfl)
          · by_cases c6 : x = 6
            · refine r_tabIn E 6 c6 64 dX6_isRight_1 (by decide) (by rfl) (by decide) ?_
              refine r_iload_n E (q := 65) 2 dX6_isRight_64 rfl rfl rfl ?_
              refine r_i2l E (q := 66) dX6_isRight_65 rfl ?_
              refine r_lconst E (q := 67) (v := 0) dX6_isRight_66 (by decide) rfl ?_
              refine r_ldc2 E (q := 70) kX6_112 dX6_isRight_67 rfl ?_
              refine rSi E (q := 73) csX6_90 T.rr [.long v.toInt64, .long 0, .long 5] (c_X6_in v.toInt64 0 5) (by decide) rfl rfl (Nat.le_of_ble_eq_true rfl) ⟨(Nat.le_of_ble_eq_true rfl), (Nat.le_of_ble_eq_true rfl)⟩ dX6_isRight_70 rfl ?_
              refine r_join 86 (if fX6_in v.toInt64 0 5 = 0 then 0 else (if v = m then 0 else 1)) (rest := []) ?_ (fun hj1 => ?_)
              · exact r_zret E T (b01 (Or.inl rfl) (b01 (Or.inl rfl) (Or.inr rfl))) dX6_isRight_86 (eqI.mk (by unfold fX6_isRight; exact ((if_neg c1).trans ((if_neg c2).trans ((if_neg c3).trans ((if_neg c4).trans ((if_neg c5).trans (if_pos c6)))))).symm) rfl)
              · refine r_if_eq E (q := 76) 85 dX6_isRight_73 (by decide) rfl (fun c7 => ?_) (fun c7 => ?_)
                · refine r_iconst E (q := 86) (v := 0) dX6_isRight_85 (by decide) rfl ?_
                  exact hj1 _ (if_pos c7).symm
                · refine r_iload_n E (q := 77) 2 dX6_isRight_76 rfl rfl rfl ?_
                  refine r_iload_n E (q := 78) 3 dX6_isRight_77 rfl rfl rfl ?_
                  refine r_icmp_eq E (q := 81) 85 dX6_isRight_78 (by decide) rfl (fun c8 => ?_) (fun c8 => ?_)
                  · refine r_iconst E (q := 86) (v := 0) dX6_isRight_85 (by decide) rfl ?_
                    exact hj1 _ ((if_neg c7).trans (if_pos c8)).symm
                  · refine r_iconst E (q := 82) (v := 1) dX6_isRight_81 (by decide) rfl ?_
                    refine r_goto E 86 dX6_isRight_82 (by decide) ?_
                    exact hj1 _ ((if_neg c7).trans (if_neg c8)).symm
            · by_cases c9 : x = 7
              · refine r_tabIn E 7 c9 97 dX6_isRight_1 (by decide) (by rfl) (by decide) ?_
                refine r_iconst E (q := 98) (v := 1) dX6_isRight_97 (by decide) rfl ?_
                exact r_zret E T (Or.inr rfl) dX6_isRight_98 (eqI.mk (by unfold fX6_isRight; exact ((if_neg c1).trans ((if_neg c2).trans ((if_neg c3).trans ((if_neg c4).trans ((if_neg c5).trans ((if_neg c6).trans (if_pos c9))))))).symm) rfl)
              · by_cases c10 : x = 8
                · refine r_tabIn E 8 c10 87 dX6_isRight_1 (by decide) (by rfl) (by decide) ?_
                  refine r_iload_n E (q := 88) 2 dX6_isRight_87 rfl rfl rfl ?_
                  refine r_i2l E (q := 89) dX6_isRight_88 rfl ?_
                  refine r_lconst E (q := 90) (v := 0) dX6_isRight_89 (by decide) rfl ?_
                  refine r_ldc2 E (q := 93) kX6_127 dX6_isRight_90 rfl ?_
                  refine rSi E (q := 96) csX6_90 T.rr [.long v.toInt64, .long 0, .long 100] (c_X6_in v.toInt64 0 100) (by decide) rfl rfl (Nat.le_of_ble_eq_true rfl) ⟨(Nat.le_of_ble_eq_true rfl), (Nat.le_of_ble_eq_true rfl)⟩ dX6_isRight_93 rfl ?_
                  exact r_zret E T (b_X6_in _ _ _) dX6_isRight_96 (eqI.mk (by unfold fX6_isRight; exact ((if_neg c1).trans ((if_neg c2).trans ((if_neg c3).trans ((if_neg c4).trans ((if_neg c5).trans ((if_neg c6).trans ((if_neg c9).trans (if_pos c10)))))))).symm) rfl)
                · refine r_tabOut E 97 dX6_isRight_1 (sw_out (fun j hj e => by match j with | 0 => exact c1 (e.trans (by decide)) | 1 => exact c2 (e.trans (by decide)) | 2 => exact c3 (e.trans (by decide)) | 3 => exact c4 (e.trans (by decide)) | 4 => exact c5 (e.trans (by decide)) | 5 => exact c6 (e.trans (by decide)) | 6 => exact c9 (e.trans (by decide)) | 7 => exact c10 (e.trans (by decide)) | j + 8 => omega)) (by decide) ?_
                  refine r_iconst E (q := 98) (v := 1) dX6_isRight_97 (by decide) rfl ?_
                  exact r_zret E T (Or.inr rfl) dX6_isRight_98 (eqI.mk (by unfold fX6_isRight; exact ((if_neg c1).trans ((if_neg c2).trans ((if_neg c3).trans ((if_neg c4).trans ((if_neg c5).trans ((if_neg c6).trans ((if_neg c9).trans (if_neg c10)))))))).symm) rfl)
def fX6_put_G (G : Nat → Nat → Int32) (x : Int32) (y : Int32) (a : Int32) (b : Int32) (m : Int32) (v : Int32) : Nat → Nat → Int32 := ug (ug (ug (ug (ug G 10 (ix x) y) 11 (ix x) a) 12 (ix x) (if fX6_isTwo y = 0 then 0 else b)) 13 (ix x) (if fX6_hasMember y = 0 then 0 else m)) 14 (ix x) (if fX6_hasNumber y = 0 then 0 else v)
set_option maxRecDepth 100000 in
set_option maxHeartbeats 800000 in
theorem c_X6_put {l : Launch} {k : Kt} {ad : Nat → Nat} {G : Nat → Nat → Int32} {V : Nat → Int32} (x : Int32) (y : Int32) (a : Int32) (b : Int32) (m : Int32) (v : Int32) (hx : vp_in x 60) : CT l k yX6_put cX6_put 7 none 2 [.ref (ad 0), .int x, .int y, .int a, .int b, .int m, .int v] (WM k ad G V) (eqV (WM k ad (fX6_put_G G x y a b m v) V)) 0 0 := by
  refine ct_of (own := RX6) (lv0 := [(0, .ref (ad 0)), (1, .int x), (2, .int y), (3, .int a), (4, .int b), (5, .int m), (6, .int v)]) (by decide) rfl (Nat.le_of_ble_eq_true rfl) rfl ?_
  rintro z rfl rfl hz - E T
  refine r_aload_n E (q := 1) 0 dX6_put_0 rfl rfl rfl ?_
  refine r_get E (q := 4) fX6_38 0 wm_0 rfl dX6_put_1 rfl ?_
  refine r_iload_n E (q := 5) 1 dX6_put_4 rfl rfl rfl ?_
  refine r_iload_n E (q := 6) 2 dX6_put_5 rfl rfl rfl ?_
  refine r_iast E (q := 7) 10 wm_10 (by assumption) wmu_10 dX6_put_6 rfl ?_
  refine r_aload_n E (q := 8) 0 dX6_put_7 rfl rfl rfl ?_
  refine r_get E (q := 11) fX6_41 0 wm_0 rfl dX6_put_8 rfl ?_
  refine r_iload_n E (q := 12) 1 dX6_put_11 rfl rfl rfl ?_
  refine r_iload_n E (q := 13) 3 dX6_put_12 rfl rfl rfl ?_
  refine r_iast E (q := 14) 11 wm_11 (by assumption) wmu_11 dX6_put_13 rfl ?_
  refine r_aload_n E (q := 15) 0 dX6_put_14 rfl rfl rfl ?_
  refine r_get E (q := 18) fX6_44 0 wm_0 rfl dX6_put_15 rfl ?_
  refine r_iload_n E (q := 19) 1 dX6_put_18 rfl rfl rfl ?_
  refine r_iload_n E (q := 20) 2 dX6_put_19 rfl rfl rfl ?_
  refine rSi E (q := 23) csX6_129 T.rr [.int y] (c_X6_isTwo y) (by decide) rfl rfl (Nat.le_of_ble_eq_true rfl) ⟨(Nat.le_of_ble_eq_true rfl), (Nat.le_of_ble_eq_true rfl)⟩ dX6_put_20 rfl ?_
  refine r_join 32 (if fX6_isTwo y = 0 then 0 else b) (rest := [.int x, .ref (ad 12)]) ?_ (fun hj1 => ?_)
  · refine r_iast E (q := 33) 12 wm_12 (by assumption) wmu_12 dX6_put_32 rfl ?_
    refine r_aload_n E (q := 34) 0 dX6_put_33 rfl rfl rfl ?_
    refine r_get E (q := 37) fX6_47 0 wm_0 rfl dX6_put_34 rfl ?_
    refine r_iload_n E (q := 38) 1 dX6_put_37 rfl rfl rfl ?_
    refine r_iload_n E (q := 39) 2 dX6_put_38 rfl rfl rfl ?_
    refine rSi E (q := 42) csX6_140 T.rr [.int y] (c_X6_hasMember y) (by decide) rfl rfl (Nat.le_of_ble_eq_true rfl) ⟨(Nat.le_of_ble_eq_true rfl), (Nat.le_of_ble_eq_true rfl)⟩ dX6_put_39 rfl ?_
    refine r_join 51 (if fX6_hasMember y = 0 then 0 else m) (rest := [.int x, .ref (ad 13)]) ?_ (fun hj2 => ?_)
    · refine r_iast E (q := 52) 13 wm_13 (by assumption) wmu_13 dX6_put_51 rfl ?_
      refine r_aload_n E (q := 53) 0 dX6_put_52 rfl rfl rfl ?_
      refine r_get E (q := 56) fX6_50 0 wm_0 rfl dX6_put_53 rfl ?_
      refine r_iload_n E (q := 57) 1 dX6_put_56 rfl rfl rfl ?_
      refine r_iload_n E (q := 58) 2 dX6_put_57 rfl rfl rfl ?_
      refine rSi E (q := 61) csX6_143 T.rr [.int y] (c_X6_hasNumber y) (by decide) rfl rfl (Nat.le_of_ble_eq_true rfl) ⟨(Nat.le_of_ble_eq_true rfl), (Nat.le_of_ble_eq_true rfl)⟩ dX6_put_58 rfl ?_
      refine r_join 70 (if fX6_hasNumber y = 0 then 0 else v) (rest := [.int x, .ref (ad 14)]) ?_ (fun hj3 => ?_)
      · refine r_iast E (q := 71) 14 wm_14 (by assumption) wmu_14 dX6_put_70 rfl ?_
        exact r_vret E T dX6_put_71 (eqV.mk (cgM (by unfold fX6_put_G; exact rfl) rfl))
      · refine r_if_eq E (q := 64) 69 dX6_put_61 (by decide) rfl (fun c3 => ?_) (fun c3 => ?_)
        · refine r_iconst E (q := 70) (v := 0) dX6_put_69 (by decide) rfl ?_
          exact hj3 _ (if_pos c3).symm
        · refine r_iload E (q := 66) 6 dX6_put_64 rfl rfl ?_
          refine r_goto E 70 dX6_put_66 (by decide) ?_
          exact hj3 _ (if_neg c3).symm
    · refine r_if_eq E (q := 45) 50 dX6_put_42 (by decide) rfl (fun c2 => ?_) (fun c2 => ?_)
      · refine r_iconst E (q := 51) (v := 0) dX6_put_50 (by decide) rfl ?_
        exact hj2 _ (if_pos c2).symm
      · refine r_iload E (q := 47) 5 dX6_put_45 rfl rfl ?_
        refine r_goto E 51 dX6_put_47 (by decide) ?_
        exact hj2 _ (if_neg c2).symm
  · refine r_if_eq E (q := 26) 31 dX6_put_23 (by decide) rfl (fun c1 => ?_) (fun c1 => ?_)
    · refine r_iconst E (q := 32) (v := 0) dX6_put_31 (by decide) rfl ?_
      exact hj1 _ (if_pos c1).symm
    · refine r_iload E (q := 28) 4 dX6_put_26 rfl rfl ?_
      refine r_goto E 32 dX6_put_28 (by decide) ?_
      exact hj1 _ (if_neg c1).symm
def fX6_lay (G : Nat → Nat → Int32) (V : Nat → Int32) (y : Int32) (a : Int32) (b : Int32) (m : Int32) (v : Int32) : Int32 := V 1
def fX6_lay_G (G : Nat → Nat → Int32) (V : Nat → Int32) (y : Int32) (a : Int32) (b : Int32) (m : Int32) (v : Int32) : Nat → Nat → Int32 := fX6_put_G G (V 1) y a b m v
def fX6_lay_V (G : Nat → Nat → Int32) (V : Nat → Int32) (y : Int32) (a : Int32) (b : Int32) (m : Int32) (v : Int32) : Nat → Int32 := upd V 1 ((V 1) + 1)
set_option maxRecDepth 100000 in
set_option maxHeartbeats 800000 in
theorem c_X6_lay {l : Launch} {k : Kt} {ad : Nat → Nat} {G : Nat → Nat → Int32} {V : Nat → Int32} (y : Int32) (a : Int32) (b : Int32) (m : Int32) (v : Int32) (hx : vp_in (V 1) 60) : CT l k yX6_lay cX6_lay 7 (some .int) 3 [.ref (ad 0), .int y, .int a, .int b, .int m, .int v] (WM k ad G V) (eqI (fX6_lay G V y a b m v) (WM k ad (fX6_lay_G G V y a b m v) (fX6_lay_V G V y a b m v))) 0 0 := by
  refine ct_of (own := RX6) (lv0 := [(0, .ref (ad 0)), (1, .int y), (2, .int a), (3, .int b), (4, .int m), (5, .int v)]) (by decide) rfl (Nat.le_of_ble_eq_true rfl) rfl ?_
  rintro z rfl rfl hz - E T
  refine r_aload_n E (q := 1) 0 dX6_lay_0 rfl rfl rfl ?_
  refine r_get E (q := 4) fX6_120 0 wm_0 rfl dX6_lay_1 rfl ?_
  refine r_istore E (q := 6) (lv' := [(0, .ref (ad 0)), (1, .int y), (2, .int a), (3, .int b), (4, .int m), (5, .int v), (6, .int (V 1))]) [1, 2, 3, 4, 5, 6, 0] dX6_lay_4 (by rw [hz]; decide) rfl rfl ?_
  refine r_aload_n E (q := 7) 0 dX6_lay_6 rfl rfl rfl ?_
  refine r_iload E (q := 9) 6 dX6_lay_7 rfl rfl ?_
  refine r_iload_n E (q := 10) 1 dX6_lay_9 rfl rfl rfl ?_
  refine r_iload_n E (q := 11) 2 dX6_lay_10 rfl rfl rfl ?_
  refine r_iload_n E (q := 12) 3 dX6_lay_11 rfl rfl rfl ?_
  refine r_iload E (q := 14) 4 dX6_lay_12 rfl rfl ?_
  refine r_iload E (q := 16) 5 dX6_lay_14 rfl rfl ?_
  refine rVv E (q := 19) cvX6_136 T.rr 0 wm_0 rfl [.int (V 1), .int y, .int a, .int b, .int m, .int v] (c_X6_put (V 1) y a b m v (by assumption)) (by decide) rfl rfl (Nat.le_of_ble_eq_true rfl) ⟨(Nat.le_of_ble_eq_true rfl), (Nat.le_of_ble_eq_true rfl)⟩ dX6_lay_16 rfl ?_
  refine r_aload_n E (q := 20) 0 dX6_lay_19 rfl rfl rfl ?_
  refine r_dup E (q := 21) dX6_lay_20 rfl rfl ?_
  refine r_get E (q := 24) fX6_120 0 wm_0 rfl dX6_lay_21 rfl ?_
  refine r_iconst E (q := 25) (v := 1) dX6_lay_24 (by decide) rfl ?_
  refine r_iadd E (q := 26) dX6_lay_25 rfl ?_
  refine r_put E (q := 29) pX6_120 rfl 0 wm_0 rfl rfl (Nat.le_of_ble_eq_true rfl) wmv_1 dX6_lay_26 rfl ?_
  refine r_iload E (q := 31) 6 dX6_lay_29 rfl rfl ?_
  exact r_iret E T dX6_lay_31 (eqI.mk (by unfold fX6_lay; exact rfl) (cgM (by unfold fX6_lay_G; exact rfl) (by unfold fX6_lay_V; exact rfl)))
def fX6_place (x : Int32) (i : Int32) : Int32 := (600 * x) + (6 * i)
set_option maxRecDepth 100000 in
set_option maxHeartbeats 800000 in
theorem c_X6_place {l : Launch} {k : Kt} {ad : Nat → Nat} {G : Nat → Nat → Int32} {V : Nat → Int32} (x : Int32) (i : Int32) : CT l k yX6_place cX6_place 2 (some .int) 0 [.int x, .int i] (WM k ad G V) (eqI (fX6_place x i) (WM k ad G V)) 0 0 := by
  refine ct_of (own := RX6) (lv0 := [(0, .int x), (1, .int i)]) (by decide) rfl (Nat.le_of_ble_eq_true rfl) rfl ?_
  rintro z rfl rfl hz - E T
  refine r_sipush E (q := 3) (v := 600) dX6_place_0 (by decide) rfl ?_
  refine r_iload_n E (q := 4) 0 dX6_place_3 rfl rfl rfl ?_
  refine r_imul E (q := 5) dX6_place_4 rfl ?_
  refine r_bipush E (q := 7) (v := 6) dX6_place_5 (by decide) rfl ?_
  refine r_iload_n E (q := 8) 1 dX6_place_7 rfl rfl rfl ?_
  refine r_imul E (q := 9) dX6_place_8 rfl ?_
  refine r_iadd E (q := 10) dX6_place_9 rfl ?_
  exact r_iret E T dX6_place_10 (eqI.mk (by unfold fX6_place; exact rfl) rfl)
def fX6_gives_V (V : Nat → Int32) (v : Int32) : Nat → Int32 := upd (upd V 4 v) 3 (((upd V 4 v) 3) - 1)
set_option maxRecDepth 100000 in
set_option maxHeartbeats 800000 in
theorem c_X6_gives {l : Launch} {k : Kt} {ad : Nat → Nat} {G : Nat → Nat → Int32} {V : Nat → Int32} (v : Int32) : CT l k yX6_gives cX6_gives 2 none 0 [.ref (ad 0), .int v] (WM k ad G V) (eqV (WM k ad G (fX6_gives_V V v))) 0 0 := by
  refine ct_of (own := RX6) (lv0 := [(0, .ref (ad 0)), (1, .int v)]) (by decide) rfl (Nat.le_of_ble_eq_true rfl) rfl ?_
  rintro z rfl rfl hz - E T
  refine r_aload_n E (q := 1) 0 dX6_gives_0 rfl rfl rfl ?_
  refine r_iload_n E (q := 2) 1 dX6_gives_1 rfl rfl rfl ?_
  refine r_put E (q := 5) pX6_174 rfl 0 wm_0 rfl rfl (Nat.le_of_ble_eq_true rfl) wmv_4 dX6_gives_2 rfl ?_
  refine r_aload_n E (q := 6) 0 dX6_gives_5 rfl rfl rfl ?_
  refine r_dup E (q := 7) dX6_gives_6 rfl rfl ?_
  refine r_get E (q := 10) fX6_164 0 wm_0 rfl dX6_gives_7 rfl ?_
  refine r_iconst E (q := 11) (v := 1) dX6_gives_10 (by decide) rfl ?_
  refine r_isub E (q := 12) dX6_gives_11 rfl ?_
  refine r_put E (q := 15) pX6_164 rfl 0 wm_0 rfl rfl (Nat.le_of_ble_eq_true rfl) wmv_3 dX6_gives_12 rfl ?_
  exact r_vret E T dX6_gives_15 (eqV.mk (cgM rfl (by unfold fX6_gives_V; exact rfl)))
def fX6_begins_G (G : Nat → Nat → Int32) (V : Nat → Int32) (f : Int32) : Nat → Nat → Int32 := ug (ug G 17 (ix (V 3)) f) 18 (ix (V 3)) 0
def fX6_begins_V (G : Nat → Nat → Int32) (V : Nat → Int32) (f : Int32) : Nat → Int32 := upd (upd V 3 ((V 3) + 1)) 6 (((upd V 3 ((V 3) + 1)) 6) + 1)
set_option maxRecDepth 100000 in
set_option maxHeartbeats 800000 in
theorem c_X6_begins {l : Launch} {k : Kt} {ad : Nat → Nat} {G : Nat → Nat → Int32} {V : Nat → Int32} (f : Int32) (hh : vp_in (V 3) 40) : CT l k yX6_begins cX6_begins 2 none 0 [.ref (ad 0), .int f] (WM k ad G V) (eqV (WM k ad (fX6_begins_G G V f) (fX6_begins_V G V f))) 0 0 := by
  refine ct_of (own := RX6) (lv0 := [(0, .ref (ad 0)), (1, .int f)]) (by decide) rfl (Nat.le_of_ble_eq_true rfl) rfl ?_
  rintro z rfl rfl hz - E T
  refine r_aload_n E (q := 1) 0 dX6_begins_0 rfl rfl rfl ?_
  refine r_get E (q := 4) fX6_59 0 wm_0 rfl dX6_begins_1 rfl ?_
  refine r_aload_n E (q := 5) 0 dX6_begins_4 rfl rfl rfl ?_
  refine r_get E (q := 8) fX6_164 0 wm_0 rfl dX6_begins_5 rfl ?_
  refine r_iload_n E (q := 9) 1 dX6_begins_8 rfl rfl rfl ?_
  refine r_iast E (q := 10) 17 wm_17 (by assumption) wmu_17 dX6_begins_9 rfl ?_
  refine r_aload_n E (q := 11) 0 dX6_begins_10 rfl rfl rfl ?_
  refine r_get E (q := 14) fX6_62 0 wm_0 rfl dX6_begins_11 rfl ?_
  refine r_aload_n E (q := 15) 0 dX6_begins_14 rfl rfl rfl ?_
  refine r_get E (q := 18) fX6_164 0 wm_0 rfl dX6_begins_15 rfl ?_
  refine r_iconst E (q := 19) (v := 0) dX6_begins_18 (by decide) rfl ?_
  refine r_iast E (q := 20) 18 wm_18 (by assumption) wmu_18 dX6_begins_19 rfl ?_
  refine r_aload_n E (q := 21) 0 dX6_begins_20 rfl rfl rfl ?_
  refine r_dup E (q := 22) dX6_begins_21 rfl rfl ?_
  refine r_get E (q := 25) fX6_164 0 wm_0 rfl dX6_begins_22 rfl ?_
  refine r_iconst E (q := 26) (v := 1) dX6_begins_25 (by decide) rfl ?_
  refine r_iadd E (q := 27) dX6_begins_26 rfl ?_
  refine r_put E (q := 30) pX6_164 rfl 0 wm_0 rfl rfl (Nat.le_of_ble_eq_true rfl) wmv_3 dX6_begins_27 rfl ?_
  refine r_aload_n E (q := 31) 0 dX6_begins_30 rfl rfl rfl ?_
  refine r_dup E (q := 32) dX6_begins_31 rfl rfl ?_
  refine r_get E (q := 35) fX6_167 0 wm_0 rfl dX6_begins_32 rfl ?_
  refine r_iconst E (q := 36) (v := 1) dX6_begins_35 (by decide) rfl ?_
  refine r_iadd E (q := 37) dX6_begins_36 rfl ?_
  refine r_put E (q := 40) pX6_167 rfl 0 wm_0 rfl rfl (Nat.le_of_ble_eq_true rfl) wmv_6 dX6_begins_37 rfl ?_
  exact r_vret E T dX6_begins_40 (eqV.mk (cgM (by unfold fX6_begins_G; exact rfl) (by unfold fX6_begins_V; exact rfl)))
def fX6_isOf (set : Int32) (all : Int32) : Int32 := if set &&& (all ^^^ (-1)) = 0 then 1 else 0
theorem b_X6_isOf (set : Int32) (all : Int32) : fX6_isOf set all = 0 ∨ fX6_isOf set all = 1 := (b01 (Or.inr rfl) (Or.inl rfl))
set_option maxRecDepth 100000 in
set_option maxHeartbeats 800000 in
theorem c_X6_isOf {l : Launch} {k : Kt} {ad : Nat → Nat} {G : Nat → Nat → Int32} {V : Nat → Int32} (set : Int32) (all : Int32) : CT l k yX6_isOf cX6_isOf 2 (some .boolean) 0 [.int set, .int all] (WM k ad G V) (eqI (fX6_isOf set all) (WM k ad G V)) 0 0 := by
  refine ct_of (own := RX6) (lv0 := [(0, .int set), (1, .int all)]) (by decide) rfl (Nat.le_of_ble_eq_true rfl) rfl ?_
  rintro z rfl rfl hz - E T
  refine r_iload_n E (q := 1) 0 dX6_isOf_0 rfl rfl rfl ?_
  refine r_iload_n E (q := 2) 1 dX6_isOf_1 rfl rfl rfl ?_
  refine r_iconst E (q := 3) (v := (-1)) dX6_isOf_2 (by decide) rfl ?_
  refine r_ixor E (q := 4) dX6_isOf_3 rfl ?_
  refine r_iand E (q := 5) dX6_isOf_4 rfl ?_
  refine r_join 13 (if set &&& (all ^^^ (-1)) = 0 then 1 else 0) (rest := []) ?_ (fun hj1 => ?_)
  · exact r_zret E T (b01 (Or.inr rfl) (Or.inl rfl)) dX6_isOf_13 (eqI.mk (by unfold fX6_isOf; exact rfl) rfl)
  · refine r_if_ne E (q := 8) 12 dX6_isOf_5 (by decide) rfl (fun c1 => ?_) (fun c1 => ?_)
    · refine r_iconst E (q := 13) (v := 0) dX6_isOf_12 (by decide) rfl ?_
      exact hj1 _ (if_neg c1).symm
    · refine r_iconst E (q := 9) (v := 1) dX6_isOf_8 (by decide) rfl ?_
      refine r_goto E 13 dX6_isOf_9 (by decide) ?_
      exact hj1 _ (if_pos c1).symm
def fX6_isFold (G : Nat → Nat → Int32) (x : Int32) (m : Int32) (y : Int32) : Int32 := if G 10 (ix x) = 6 then (if G 13 (ix x) = m then (if G 14 (ix x) = y then 1 else 0) else 0) else 0
theorem b_X6_isFold (G : Nat → Nat → Int32) (x : Int32) (m : Int32) (y : Int32) : fX6_isFold G x m y = 0 ∨ fX6_isFold G x m y = 1 := (b01 (b01 (b01 (Or.inr rfl) (Or.inl rfl)) (Or.inl rfl)) (Or.inl rfl))
set_option maxRecDepth 100000 in
set_option maxHeartbeats 800000 in
theorem c_X6_isFold {l : Launch} {k : Kt} {ad : Nat → Nat} {G : Nat → Nat → Int32} {V : Nat → Int32} (x : Int32) (m : Int32) (y : Int32) (hx : vp_in x 60) : CT l k yX6_isFold cX6_isFold 4 (some .boolean) 0 [.ref (ad 0), .int x, .int m, .int y] (WM k ad G V) (eqI (fX6_isFold G x m y) (WM k ad G V)) 0 0 := by
  refine ct_of (own := RX6) (lv0 := [(0, .ref (ad 0)), (1, .int x), (2, .int m), (3, .int y)]) (by decide) rfl (Nat.le_of_ble_eq_true rfl) rfl ?_
  rintro z rfl rfl hz - E T
  refine r_aload_n E (q := 1) 0 dX6_isFold_0 rfl rfl rfl ?_
  refine r_get E (q := 4) fX6_38 0 wm_0 rfl dX6_isFold_1 rfl ?_
  refine r_iload_n E (q := 5) 1 dX6_isFold_4 rfl rfl rfl ?_
  refine r_iald E (q := 6) 10 wm_10 (by assumption) dX6_isFold_5 rfl ?_
  refine r_bipush E (q := 8) (v := 6) dX6_isFold_6 (by decide) rfl ?_
  refine r_join 36 (if G 10 (ix x) = 6 then (if G 13 (ix x) = m then (if G 14 (ix x) = y then 1 else 0) else 0) else 0) (rest := []) ?_ (fun hj1 => ?_)
  · exact r_zret E T (b01 (b01 (b01 (Or.inr rfl) (Or.inl rfl)) (Or.inl rfl)) (Or.inl rfl)) dX6_isFold_36 (eqI.mk (by unfold fX6_isFold; exact rfl) rfl)
  · refine r_icmp_ne E (q := 11) 35 dX6_isFold_8 (by decide) rfl (fun c1 => ?_) (fun c1 => ?_)
    · refine r_iconst E (q := 36) (v := 0) dX6_isFold_35 (by decide) rfl ?_
      exact hj1 _ (if_neg c1).symm
    · refine r_aload_n E (q := 12) 0 dX6_isFold_11 rfl rfl rfl ?_
      refine r_get E (q := 15) fX6_47 0 wm_0 rfl dX6_isFold_12 rfl ?_
      refine r_iload_n E (q := 16) 1 dX6_isFold_15 rfl rfl rfl ?_
      refine r_iald E (q := 17) 13 wm_13 (by assumption) dX6_isFold_16 rfl ?_
      refine r_iload_n E (q := 18) 2 dX6_isFold_17 rfl rfl rfl ?_
      refine r_icmp_ne E (q := 21) 35 dX6_isFold_18 (by decide) rfl (fun c2 => ?_) (fun c2 => ?_)
      · refine r_iconst E (q := 36) (v := 0) dX6_isFold_35 (by decide) rfl ?_
        exact hj1 _ ((if_pos c1).trans (if_neg c2)).symm
      · refine r_aload_n E (q := 22) 0 dX6_isFold_21 rfl rfl rfl ?_
        refine r_get E (q := 25) fX6_50 0 wm_0 rfl dX6_isFold_22 rfl ?_
        refine r_iload_n E (q := 26) 1 dX6_isFold_25 rfl rfl rfl ?_
        refine r_iald E (q := 27) 14 wm_14 (by assumption) dX6_isFold_26 rfl ?_
        refine r_iload_n E (q := 28) 3 dX6_isFold_27 rfl rfl rfl ?_
        refine r_icmp_ne E (q := 31) 35 dX6_isFold_28 (by decide) rfl (fun c3 => ?_) (fun c3 => ?_)
        · refine r_iconst E (q := 36) (v := 0) dX6_isFold_35 (by decide) rfl ?_
          exact hj1 _ ((if_pos c1).trans ((if_pos c2).trans (if_neg c3))).symm
        · refine r_iconst E (q := 32) (v := 1) dX6_isFold_31 (by decide) rfl ?_
          refine r_goto E 36 dX6_isFold_32 (by decide) ?_
          exact hj1 _ ((if_pos c1).trans ((if_pos c2).trans (if_pos c3))).symm
def fX6_news (rule : Int32) : Int32 := if rule = 4 then 2 else (if rule = 11 then 2 else (if rule = 12 then 3 else (if rule = 16 then 3 else (if fX6_in rule.toInt64 7 10 = 0 then (if fX6_in rule.toInt64 13 15 = 0 then 1 else 0) else 0))))
set_option maxRecDepth 100000 in
set_option maxHeartbeats 800000 in
theorem c_X6_news {l : Launch} {k : Kt} {ad : Nat → Nat} {G : Nat → Nat → Int32} {V : Nat → Int32} (rule : Int32) : CT l k yX6_news cX6_news 1 (some .int) 1 [.int rule] (WM k ad G V) (eqI (fX6_news rule) (WM k ad G V)) 0 0 := by
  refine ct_of (own := RX6) (lv0 := [(0, .int rule)]) (by decide) rfl (Nat.le_of_ble_eq_true rfl) rfl ?_
  rintro z rfl rfl hz - E T
  refine r_iload_n E (q := 1) 0 dX6_news_0 rfl rfl rfl ?_
  refine r_iconst E (q := 2) (v := 4) dX6_news_1 (by decide) rfl ?_
  refine r_join 64 (if rule = 4 then 2 else (if rule = 11 then 2 else (if rule = 12 then 3 else (if rule = 16 then 3 else (if fX6_in rule.toInt64 7 10 = 0 then (if fX6_in rule.toInt64 13 15 = 0 then 1 else 0) else 0))))) (rest := []) ?_ (fun hj1 => ?_)
  · exact r_iret E T dX6_news_64 (eqI.mk (by unfold fX6_news; exact rfl) rfl)
  · refine r_icmp_eq E (q := 5) 11 dX6_news_2 (by decide) rfl (fun c1 => ?_) (fun c1 => ?_)
    · refine r_iconst E (q := 12) (v := 2) dX6_news_11 (by decide) rfl ?_
      refine r_goto E 64 dX6_news_12 (by decide) ?_
      exact hj1 _ (if_pos c1).symm
    · refine r_iload_n E (q := 6) 0 dX6_news_5 rfl rfl rfl ?_
      refine r_bipush E (q := 8) (v := 11) dX6_news_6 (by decide) rfl ?_
      refine r_icmp_ne E (q := 11) 15 dX6_news_8 (by decide) rfl (fun c2 => ?_) (fun c2 => ?_)
      · refine r_iload_n E (q := 16) 0 dX6_news_15 rfl rfl rfl ?_
        refine r_bipush E (q := 18) (v := 12) dX6_news_16 (by decide) rfl ?_
        refine r_icmp_eq E (q := 21) 27 dX6_news_18 (by decide) rfl (fun c3 => ?_) (fun c3 => ?_)
        · refine r_iconst E (q := 28) (v := 3) dX6_news_27 (by decide) rfl ?_
          refine r_goto E 64 dX6_news_28 (by decide) ?_
          exact hj1 _ ((if_neg c1).trans ((if_neg c2).trans (if_pos c3))).symm
        · refine r_iload_n E (q := 22) 0 dX6_news_21 rfl rfl rfl ?_
          refine r_bipush E (q := 24) (v := 16) dX6_news_22 (by decide) rfl ?_
          refine r_icmp_ne E (q := 27) 31 dX6_news_24 (by decide) rfl (fun c4 => ?_) (fun c4 => ?_)
          · refine r_iload_n E (q := 32) 0 dX6_news_31 rfl rfl rfl ?_
            refine r_i2l E (q := 33) dX6_news_32 rfl ?_
            refine r_ldc2 E (q := 36) kX6_94 dX6_news_33 rfl ?_
            refine r_ldc2 E (q := 39) kX6_249 dX6_news_36 rfl ?_
            refine rSi E (q := 42) csX6_90 T.rr [.long rule.toInt64, .long 7, .long 10] (c_X6_in rule.toInt64 7 10) (by decide) rfl rfl (Nat.le_of_ble_eq_true rfl) ⟨(Nat.le_of_ble_eq_true rfl), (Nat.le_of_ble_eq_true rfl)⟩ dX6_news_39 rfl ?_
            refine r_if_ne E (q := 45) 59 dX6_news_42 (by decide) rfl (fun c5 => ?_) (fun c5 => ?_)
            · refine r_iconst E (q := 60) (v := 0) dX6_news_59 (by decide) rfl ?_
              refine r_goto E 64 dX6_news_60 (by decide) ?_
              exact hj1 _ ((if_neg c1).trans ((if_neg c2).trans ((if_neg c3).trans ((if_neg c4).trans (if_neg c5))))).symm
            · refine r_iload_n E (q := 46) 0 dX6_news_45 rfl rfl rfl ?_
              refine r_i2l E (q := 47) dX6_news_46 rfl ?_
              refine r_ldc2 E (q := 50) kX6_251 dX6_news_47 rfl ?_
              refine r_ldc2 E (q := 53) kX6_253 dX6_news_50 rfl ?_
              refine rSi E (q := 56) csX6_90 T.rr [.long rule.toInt64, .long 13, .long 15] (c_X6_in rule.toInt64 13 15) (by decide) rfl rfl (Nat.le_of_ble_eq_true rfl) ⟨(Nat.le_of_ble_eq_true rfl), (Nat.le_of_ble_eq_true rfl)⟩ dX6_news_53 rfl ?_
              refine r_if_eq E (q := 59) 63 dX6_news_56 (by decide) rfl (fun c6 => ?_) (fun c6 => ?_)
              · refine r_iconst E (q := 64) (v := 1) dX6_news_63 (by decide) rfl ?_
                exact hj1 _ ((if_neg c1).trans ((if_neg c2).trans ((if_neg c3).trans ((if_neg c4).trans ((if_pos c5).trans (if_pos c6)))))).symm
              · refine r_iconst E (q := 60) (v := 0) dX6_news_59 (by decide) rfl ?_
                refine r_goto E 64 dX6_news_60 (by decide) ?_
                exact hj1 _ ((if_neg c1).trans ((if_neg c2).trans ((if_neg c3).trans ((if_neg c4).trans ((if_pos c5).trans (if_neg c6)))))).symm
          · refine r_iconst E (q := 28) (v := 3) dX6_news_27 (by decide) rfl ?_
            refine r_goto E 64 dX6_news_28 (by decide) ?_
            exact hj1 _ ((if_neg c1).trans ((if_neg c2).trans ((if_neg c3).trans (if_pos c4)))).symm
      · refine r_iconst E (q := 12) (v := 2) dX6_news_11 (by decide) rfl ?_
        refine r_goto E 64 dX6_news_12 (by decide) ?_
        exact hj1 _ ((if_neg c1).trans (if_pos c2)).symm
def fX6_worked (V : Nat → Int32) (what : Int32) : Int32 := if what = 0 then (V 8) else (if what = 1 then (V 9) else (if what = 2 then (V 10) else (if what = 3 then (V 11) else (-1))))
set_option maxRecDepth 100000 in
set_option maxHeartbeats 800000 in
theorem c_X6_worked {l : Launch} {k : Kt} {ad : Nat → Nat} {G : Nat → Nat → Int32} {V : Nat → Int32} (what : Int32) : CT l k yX6_worked cX6_worked 2 (some .int) 0 [.ref (ad 0), .int what] (WM k ad G V) (eqI (fX6_worked V what) (WM k ad G V)) 0 0 := by
  refine ct_of (own := RX6) (lv0 := [(0, .ref (ad 0)), (1, .int what)]) (by decide) rfl (Nat.le_of_ble_eq_true rfl) rfl ?_
  rintro z rfl rfl hz - E T
  refine r_iload_n E (q := 1) 1 dX6_worked_0 rfl rfl rfl ?_
  by_cases c1 : what = 0
  · refine r_tabIn E 0 c1 32 dX6_worked_1 (by decide) (by rfl) (by decide) ?_
    refine r_aload_n E (q := 33) 0 dX6_worked_32 rfl rfl rfl ?_
    refine r_get E (q := 36) fX6_226 0 wm_0 rfl dX6_worked_33 rfl ?_
    exact r_iret E T dX6_worked_36 (eqI.mk (by unfold fX6_worked; exact (if_pos c1).symm) rfl)
  · by_cases c2 : what = 1
    · refine r_tabIn E 1 c2 37 dX6_worked_1 (by decide) (by rfl) (by decide) ?_
      refine r_aload_n E (q := 38) 0 dX6_worked_37 rfl rfl rfl ?_
      refine r_get E (q := 41) fX6_229 0 wm_0 rfl dX6_worked_38 rfl ?_
      exact r_iret E T dX6_worked_41 (eqI.mk (by unfold fX6_worked; exact ((if_neg c1).trans (if_pos c2)).symm) rfl)
    · by_cases c3 : what = 2
      · refine r_tabIn E 2 c3 42 dX6_worked_1 (by decide) (by rfl) (by decide) ?_
        refine r_aload_n E (q := 43) 0 dX6_worked_42 rfl rfl rfl ?_
        refine r_get E (q := 46) fX6_232 0 wm_0 rfl dX6_worked_43 rfl ?_
        exact r_iret E T dX6_worked_46 (eqI.mk (by unfold fX6_worked; exact ((if_neg c1).trans ((if_neg c2).trans (if_pos c3))).symm) rfl)
      · by_cases c4 : what = 3
        · refine r_tabIn E 3 c4 47 dX6_worked_1 (by decide) (by rfl) (by decide) ?_
          refine r_aload_n E (q := 48) 0 dX6_worked_47 rfl rfl rfl ?_
          refine r_get E (q := 51) fX6_84 0 wm_0 rfl dX6_worked_48 rfl ?_
          exact r_iret E T dX6_worked_51 (eqI.mk (by unfold fX6_worked; exact ((if_neg c1).trans ((if_neg c2).trans ((if_neg c3).trans (if_pos c4)))).symm) rfl)
        · refine r_tabOut E 52 dX6_worked_1 (sw_out (fun j hj e => by match j with | 0 => exact c1 (e.trans (by decide)) | 1 => exact c2 (e.trans (by decide)) | 2 => exact c3 (e.trans (by decide)) | 3 => exact c4 (e.trans (by decide)) | j + 4 => omega)) (by decide) ?_
          refine r_iconst E (q := 53) (v := (-1)) dX6_worked_52 (by decide) rfl ?_
          exact r_iret E T dX6_worked_53 (eqI.mk (by unfold fX6_worked; exact ((if_neg c1).trans ((if_neg c2).trans ((if_neg c3).trans (if_neg c4)))).symm) rfl)
def fX6_count (G : Nat → Nat → Int32) (V : Nat → Int32) (what : Int32) : Int32 := if what = 0 then (V 0) else (if what = 1 then (V 1) else (if what = 2 then (V 2) else (if what = 3 then ((((G 1 (ix 0)) + (G 1 (ix 1))) + (G 1 (ix 2))) + (G 1 (ix 3))) else (-1))))
set_option maxRecDepth 100000 in
set_option maxHeartbeats 800000 in
theorem c_X6_count {l : Launch} {k : Kt} {ad : Nat → Nat} {G : Nat → Nat → Int32} {V : Nat → Int32} (what : Int32) : CT l k yX6_count cX6_count 2 (some .int) 0 [.ref (ad 0), .int what] (WM k ad G V) (eqI (fX6_count G V what) (WM k ad G V)) 0 0 := by
  refine ct_of (own := RX6) (lv0 := [(0, .ref (ad 0)), (1, .int what)]) (by decide) rfl (Nat.le_of_ble_eq_true rfl) rfl ?_
  rintro z rfl rfl hz - E T
  refine r_iload_n E (q := 1) 1 dX6_count_0 rfl rfl rfl ?_
  by_cases c1 : what = 0
  · refine r_tabIn E 0 c1 32 dX6_count_1 (by decide) (by rfl) (by decide) ?_
    refine r_aload_n E (q := 33) 0 dX6_count_32 rfl rfl rfl ?_
    refine r_get E (q := 36) fX6_96 0 wm_0 rfl dX6_count_33 rfl ?_
    exact r_iret E T dX6_count_36 (eqI.mk (by unfold fX6_count; exact (if_pos c1).symm) rfl)
  · by_cases c2 : what = 1
    · refine r_tabIn E 1 c2 37 dX6_count_1 (by decide) (by rfl) (by decide) ?_
      refine r_aload_n E (q := 38) 0 dX6_count_37 rfl rfl rfl ?_
      refine r_get E (q := 41) fX6_120 0 wm_0 rfl dX6_count_38 rfl ?_
      exact r_iret E T dX6_count_41 (eqI.mk (by unfold fX6_count; exact ((if_neg c1).trans (if_pos c2)).symm) rfl)
    · by_cases c3 : what = 2
      · refine r_tabIn E 2 c3 42 dX6_count_1 (by decide) (by rfl) (by decide) ?_
        refine r_aload_n E (q := 43) 0 dX6_count_42 rfl rfl rfl ?_
        refine r_get E (q := 46) fX6_258 0 wm_0 rfl dX6_count_43 rfl ?_
        exact r_iret E T dX6_count_46 (eqI.mk (by unfold fX6_count; exact ((if_neg c1).trans ((if_neg c2).trans (if_pos c3))).symm) rfl)
      · by_cases c4 : what = 3
        · refine r_tabIn E 3 c4 47 dX6_count_1 (by decide) (by rfl) (by decide) ?_
          refine r_aload_n E (q := 48) 0 dX6_count_47 rfl rfl rfl ?_
          refine r_get E (q := 51) fX6_7 0 wm_0 rfl dX6_count_48 rfl ?_
          refine r_iconst E (q := 52) (v := 0) dX6_count_51 (by decide) rfl ?_
          refine r_iald E (q := 53) 1 wm_1 (by unfold vp_in; decide) dX6_count_52 rfl ?_
          refine r_aload_n E (q := 54) 0 dX6_count_53 rfl rfl rfl ?_
          refine r_get E (q := 57) fX6_7 0 wm_0 rfl dX6_count_54 rfl ?_
          refine r_iconst E (q := 58) (v := 1) dX6_count_57 (by decide) rfl ?_
          refine r_iald E (q := 59) 1 wm_1 (by unfold vp_in; decide) dX6_count_58 rfl ?_
          refine r_iadd E (q := 60) dX6_count_59 rfl ?_
          refine r_aload_n E (q := 61) 0 dX6_count_60 rfl rfl rfl ?_
          refine r_get E (q := 64) fX6_7 0 wm_0 rfl dX6_count_61 rfl ?_
          refine r_iconst E (q := 65) (v := 2) dX6_count_64 (by decide) rfl ?_
          refine r_iald E (q := 66) 1 wm_1 (by unfold vp_in; decide) dX6_count_65 rfl ?_
          refine r_iadd E (q := 67) dX6_count_66 rfl ?_
          refine r_aload_n E (q := 68) 0 dX6_count_67 rfl rfl rfl ?_
          refine r_get E (q := 71) fX6_7 0 wm_0 rfl dX6_count_68 rfl ?_
          refine r_iconst E (q := 72) (v := 3) dX6_count_71 (by decide) rfl ?_
          refine r_iald E (q := 73) 1 wm_1 (by unfold vp_in; decide) dX6_count_72 rfl ?_
          refine r_iadd E (q := 74) dX6_count_73 rfl ?_
          exact r_iret E T dX6_count_74 (eqI.mk (by unfold fX6_count; exact ((if_neg c1).trans ((if_neg c2).trans ((if_neg c3).trans (if_pos c4)))).symm) rfl)
        · refine r_tabOut E 75 dX6_count_1 (sw_out (fun j hj e => by match j with | 0 => exact c1 (e.trans (by decide)) | 1 => exact c2 (e.trans (by decide)) | 2 => exact c3 (e.trans (by decide)) | 3 => exact c4 (e.trans (by decide)) | j + 4 => omega)) (by decide) ?_
          refine r_iconst E (q := 76) (v := (-1)) dX6_count_75 (by decide) rfl ?_
          exact r_iret E T dX6_count_76 (eqI.mk (by unfold fX6_count; exact ((if_neg c1).trans ((if_neg c2).trans ((if_neg c3).trans (if_neg c4)))).symm) rfl)
