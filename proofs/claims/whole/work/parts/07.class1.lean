def fX5_isMember (m : Int32) : Int32 := if m < 0 then 0 else (if 6 ≤ m then 0 else 1)
theorem b_X5_isMember (m : Int32) : fX5_isMember m = 0 ∨ fX5_isMember m = 1 := (b01 (Or.inl rfl) (b01 (Or.inl rfl) (Or.inr rfl)))
set_option maxRecDepth 100000 in
set_option maxHeartbeats 800000 in
theorem c_X5_isMember {l : Launch} {k : Kt} {ad : Nat → Nat} {G : Nat → Nat → Int32} {V : Nat → Int32} {n : Nat} (m : Int32) : CT l k yX5_isMember cX5_isMember 1 (some .boolean) 0 [.int m] (WC k ad G V n) (eqI (fX5_isMember m) (WC k ad G V n)) 0 0 := by
  refine ct_of (own := RX5) (lv0 := [(0, .int m)]) (by decide) rfl (Nat.le_of_ble_eq_true rfl) rfl ?_
  rintro z rfl rfl hz - E T
  refine r_iload_n E (q := 1) 0 dX5_isMember_0 rfl rfl rfl ?_
  refine r_join 15 (if m < 0 then 0 else (if 6 ≤ m then 0 else 1)) (rest := []) ?_ (fun hj1 => ?_)
  · exact r_zret E T (b01 (Or.inl rfl) (b01 (Or.inl rfl) (Or.inr rfl))) dX5_isMember_15 (eqI.mk (by unfold fX5_isMember; exact rfl) rfl)
  · refine r_if_lt E (q := 4) 14 dX5_isMember_1 (by decide) rfl (fun c1 => ?_) (fun c1 => ?_)
    · refine r_iconst E (q := 15) (v := 0) dX5_isMember_14 (by decide) rfl ?_
      exact hj1 _ (if_pos c1).symm
    · refine r_iload_n E (q := 5) 0 dX5_isMember_4 rfl rfl rfl ?_
      refine r_bipush E (q := 7) (v := 6) dX5_isMember_5 (by decide) rfl ?_
      refine r_icmp_ge E (q := 10) 14 dX5_isMember_7 (by decide) rfl (fun c2 => ?_) (fun c2 => ?_)
      · refine r_iconst E (q := 15) (v := 0) dX5_isMember_14 (by decide) rfl ?_
        exact hj1 _ ((if_neg c1).trans (if_pos c2)).symm
      · refine r_iconst E (q := 11) (v := 1) dX5_isMember_10 (by decide) rfl ?_
        refine r_goto E 15 dX5_isMember_11 (by decide) ?_
        exact hj1 _ ((if_neg c1).trans (if_neg c2)).symm
def fX5_isSet (s : Int32) : Int32 := if s < 0 then 0 else (if 64 ≤ s then 0 else 1)
theorem b_X5_isSet (s : Int32) : fX5_isSet s = 0 ∨ fX5_isSet s = 1 := (b01 (Or.inl rfl) (b01 (Or.inl rfl) (Or.inr rfl)))
set_option maxRecDepth 100000 in
set_option maxHeartbeats 800000 in
theorem c_X5_isSet {l : Launch} {k : Kt} {ad : Nat → Nat} {G : Nat → Nat → Int32} {V : Nat → Int32} {n : Nat} (s : Int32) : CT l k yX5_isSet cX5_isSet 1 (some .boolean) 0 [.int s] (WC k ad G V n) (eqI (fX5_isSet s) (WC k ad G V n)) 0 0 := by
  refine ct_of (own := RX5) (lv0 := [(0, .int s)]) (by decide) rfl (Nat.le_of_ble_eq_true rfl) rfl ?_
  rintro z rfl rfl hz - E T
  refine r_iload_n E (q := 1) 0 dX5_isSet_0 rfl rfl rfl ?_
  refine r_join 15 (if s < 0 then 0 else (if 64 ≤ s then 0 else 1)) (rest := []) ?_ (fun hj1 => ?_)
  · exact r_zret E T (b01 (Or.inl rfl) (b01 (Or.inl rfl) (Or.inr rfl))) dX5_isSet_15 (eqI.mk (by unfold fX5_isSet; exact rfl) rfl)
  · refine r_if_lt E (q := 4) 14 dX5_isSet_1 (by decide) rfl (fun c1 => ?_) (fun c1 => ?_)
    · refine r_iconst E (q := 15) (v := 0) dX5_isSet_14 (by decide) rfl ?_
      exact hj1 _ (if_pos c1).symm
    · refine r_iload_n E (q := 5) 0 dX5_isSet_4 rfl rfl rfl ?_
      refine r_bipush E (q := 7) (v := 64) dX5_isSet_5 (by decide) rfl ?_
      refine r_icmp_ge E (q := 10) 14 dX5_isSet_7 (by decide) rfl (fun c2 => ?_) (fun c2 => ?_)
      · refine r_iconst E (q := 15) (v := 0) dX5_isSet_14 (by decide) rfl ?_
        exact hj1 _ ((if_neg c1).trans (if_pos c2)).symm
      · refine r_iconst E (q := 11) (v := 1) dX5_isSet_10 (by decide) rfl ?_
        refine r_goto E 15 dX5_isSet_11 (by decide) ?_
        exact hj1 _ ((if_neg c1).trans (if_neg c2)).symm
def fX5_isIn (m : Int32) (set : Int32) : Int32 := if (set >>> (m &&& 31)) &&& 1 = 1 then 1 else 0
theorem b_X5_isIn (m : Int32) (set : Int32) : fX5_isIn m set = 0 ∨ fX5_isIn m set = 1 := (b01 (Or.inr rfl) (Or.inl rfl))
set_option maxRecDepth 100000 in
set_option maxHeartbeats 800000 in
theorem c_X5_isIn {l : Launch} {k : Kt} {ad : Nat → Nat} {G : Nat → Nat → Int32} {V : Nat → Int32} {n : Nat} (m : Int32) (set : Int32) : CT l k yX5_isIn cX5_isIn 2 (some .boolean) 0 [.int m, .int set] (WC k ad G V n) (eqI (fX5_isIn m set) (WC k ad G V n)) 0 0 := by
  refine ct_of (own := RX5) (lv0 := [(0, .int m), (1, .int set)]) (by decide) rfl (Nat.le_of_ble_eq_true rfl) rfl ?_
  rintro z rfl rfl hz - E T
  refine r_iload_n E (q := 1) 1 dX5_isIn_0 rfl rfl rfl ?_
  refine r_iload_n E (q := 2) 0 dX5_isIn_1 rfl rfl rfl ?_
  refine r_ishr E (q := 3) dX5_isIn_2 rfl ?_
  refine r_iconst E (q := 4) (v := 1) dX5_isIn_3 (by decide) rfl ?_
  refine r_iand E (q := 5) dX5_isIn_4 rfl ?_
  refine r_iconst E (q := 6) (v := 1) dX5_isIn_5 (by decide) rfl ?_
  refine r_join 14 (if (set >>> (m &&& 31)) &&& 1 = 1 then 1 else 0) (rest := []) ?_ (fun hj1 => ?_)
  · exact r_zret E T (b01 (Or.inr rfl) (Or.inl rfl)) dX5_isIn_14 (eqI.mk (by unfold fX5_isIn; exact rfl) rfl)
  · refine r_icmp_ne E (q := 9) 13 dX5_isIn_6 (by decide) rfl (fun c1 => ?_) (fun c1 => ?_)
    · refine r_iconst E (q := 14) (v := 0) dX5_isIn_13 (by decide) rfl ?_
      exact hj1 _ (if_neg c1).symm
    · refine r_iconst E (q := 10) (v := 1) dX5_isIn_9 (by decide) rfl ?_
      refine r_goto E 14 dX5_isIn_10 (by decide) ?_
      exact hj1 _ (if_pos c1).symm
def fX5_isWithin (part : Int32) (set : Int32) : Int32 := if part &&& (set ^^^ (-1)) = 0 then 1 else 0
theorem b_X5_isWithin (part : Int32) (set : Int32) : fX5_isWithin part set = 0 ∨ fX5_isWithin part set = 1 := (b01 (Or.inr rfl) (Or.inl rfl))
set_option maxRecDepth 100000 in
set_option maxHeartbeats 800000 in
theorem c_X5_isWithin {l : Launch} {k : Kt} {ad : Nat → Nat} {G : Nat → Nat → Int32} {V : Nat → Int32} {n : Nat} (part : Int32) (set : Int32) : CT l k yX5_isWithin cX5_isWithin 2 (some .boolean) 0 [.int part, .int set] (WC k ad G V n) (eqI (fX5_isWithin part set) (WC k ad G V n)) 0 0 := by
  refine ct_of (own := RX5) (lv0 := [(0, .int part), (1, .int set)]) (by decide) rfl (Nat.le_of_ble_eq_true rfl) rfl ?_
  rintro z rfl rfl hz - E T
  refine r_iload_n E (q := 1) 0 dX5_isWithin_0 rfl rfl rfl ?_
  refine r_iload_n E (q := 2) 1 dX5_isWithin_1 rfl rfl rfl ?_
  refine r_iconst E (q := 3) (v := (-1)) dX5_isWithin_2 (by decide) rfl ?_
  refine r_ixor E (q := 4) dX5_isWithin_3 rfl ?_
  refine r_iand E (q := 5) dX5_isWithin_4 rfl ?_
  refine r_join 13 (if part &&& (set ^^^ (-1)) = 0 then 1 else 0) (rest := []) ?_ (fun hj1 => ?_)
  · exact r_zret E T (b01 (Or.inr rfl) (Or.inl rfl)) dX5_isWithin_13 (eqI.mk (by unfold fX5_isWithin; exact rfl) rfl)
  · refine r_if_ne E (q := 8) 12 dX5_isWithin_5 (by decide) rfl (fun c1 => ?_) (fun c1 => ?_)
    · refine r_iconst E (q := 13) (v := 0) dX5_isWithin_12 (by decide) rfl ?_
      exact hj1 _ (if_neg c1).symm
    · refine r_iconst E (q := 9) (v := 1) dX5_isWithin_8 (by decide) rfl ?_
      refine r_goto E 13 dX5_isWithin_9 (by decide) ?_
      exact hj1 _ (if_pos c1).symm
def fX5_asNumber (holds : Int32) : Int32 := if holds = 0 then 0 else 1
set_option maxRecDepth 100000 in
set_option maxHeartbeats 800000 in
theorem c_X5_asNumber {l : Launch} {k : Kt} {ad : Nat → Nat} {G : Nat → Nat → Int32} {V : Nat → Int32} {n : Nat} (holds : Int32) : CT l k yX5_asNumber cX5_asNumber 1 (some .int) 0 [.int holds] (WC k ad G V n) (eqI (fX5_asNumber holds) (WC k ad G V n)) 0 0 := by
  refine ct_of (own := RX5) (lv0 := [(0, .int holds)]) (by decide) rfl (Nat.le_of_ble_eq_true rfl) rfl ?_
  rintro z rfl rfl hz - E T
  refine r_iload_n E (q := 1) 0 dX5_asNumber_0 rfl rfl rfl ?_
  refine r_join 9 (if holds = 0 then 0 else 1) (rest := []) ?_ (fun hj1 => ?_)
  · exact r_iret E T dX5_asNumber_9 (eqI.mk (by unfold fX5_asNumber; exact rfl) rfl)
  · refine r_if_eq E (q := 4) 8 dX5_asNumber_1 (by decide) rfl (fun c1 => ?_) (fun c1 => ?_)
    · refine r_iconst E (q := 9) (v := 0) dX5_asNumber_8 (by decide) rfl ?_
      exact hj1 _ (if_pos c1).symm
    · refine r_iconst E (q := 5) (v := 1) dX5_asNumber_4 (by decide) rfl ?_
      refine r_goto E 9 dX5_asNumber_5 (by decide) ?_
      exact hj1 _ (if_neg c1).symm
def fX4_has (source : Int32) : Int32 := if source < 0 then 0 else (if 4 ≤ source then 0 else 1)
theorem b_X4_has (source : Int32) : fX4_has source = 0 ∨ fX4_has source = 1 := (b01 (Or.inl rfl) (b01 (Or.inl rfl) (Or.inr rfl)))
set_option maxRecDepth 100000 in
set_option maxHeartbeats 800000 in
theorem c_X4_has {l : Launch} {k : Kt} {ad : Nat → Nat} {G : Nat → Nat → Int32} {V : Nat → Int32} {n : Nat} (source : Int32) : CT l k yX4_has cX4_has 2 (some .boolean) 0 [.ref (ad 1), .int source] (WC k ad G V n) (eqI (fX4_has source) (WC k ad G V n)) 0 0 := by
  refine ct_of (own := RX4) (lv0 := [(0, .ref (ad 1)), (1, .int source)]) (by decide) rfl (Nat.le_of_ble_eq_true rfl) rfl ?_
  rintro z rfl rfl hz - E T
  refine r_iload_n E (q := 1) 1 dX4_has_0 rfl rfl rfl ?_
  refine r_join 14 (if source < 0 then 0 else (if 4 ≤ source then 0 else 1)) (rest := []) ?_ (fun hj1 => ?_)
  · exact r_zret E T (b01 (Or.inl rfl) (b01 (Or.inl rfl) (Or.inr rfl))) dX4_has_14 (eqI.mk (by unfold fX4_has; exact rfl) rfl)
  · refine r_if_lt E (q := 4) 13 dX4_has_1 (by decide) rfl (fun c1 => ?_) (fun c1 => ?_)
    · refine r_iconst E (q := 14) (v := 0) dX4_has_13 (by decide) rfl ?_
      exact hj1 _ (if_pos c1).symm
    · refine r_iload_n E (q := 5) 1 dX4_has_4 rfl rfl rfl ?_
      refine r_iconst E (q := 6) (v := 4) dX4_has_5 (by decide) rfl ?_
      refine r_icmp_ge E (q := 9) 13 dX4_has_6 (by decide) rfl (fun c2 => ?_) (fun c2 => ?_)
      · refine r_iconst E (q := 14) (v := 0) dX4_has_13 (by decide) rfl ?_
        exact hj1 _ ((if_neg c1).trans (if_pos c2)).symm
      · refine r_iconst E (q := 10) (v := 1) dX4_has_9 (by decide) rfl ?_
        refine r_goto E 14 dX4_has_10 (by decide) ?_
        exact hj1 _ ((if_neg c1).trans (if_neg c2)).symm
def fX4_hasItem (i : Int32) : Int32 := if i < 0 then 0 else (if 8 ≤ i then 0 else 1)
theorem b_X4_hasItem (i : Int32) : fX4_hasItem i = 0 ∨ fX4_hasItem i = 1 := (b01 (Or.inl rfl) (b01 (Or.inl rfl) (Or.inr rfl)))
set_option maxRecDepth 100000 in
set_option maxHeartbeats 800000 in
theorem c_X4_hasItem {l : Launch} {k : Kt} {ad : Nat → Nat} {G : Nat → Nat → Int32} {V : Nat → Int32} {n : Nat} (i : Int32) : CT l k yX4_hasItem cX4_hasItem 2 (some .boolean) 0 [.ref (ad 1), .int i] (WC k ad G V n) (eqI (fX4_hasItem i) (WC k ad G V n)) 0 0 := by
  refine ct_of (own := RX4) (lv0 := [(0, .ref (ad 1)), (1, .int i)]) (by decide) rfl (Nat.le_of_ble_eq_true rfl) rfl ?_
  rintro z rfl rfl hz - E T
  refine r_iload_n E (q := 1) 1 dX4_hasItem_0 rfl rfl rfl ?_
  refine r_join 15 (if i < 0 then 0 else (if 8 ≤ i then 0 else 1)) (rest := []) ?_ (fun hj1 => ?_)
  · exact r_zret E T (b01 (Or.inl rfl) (b01 (Or.inl rfl) (Or.inr rfl))) dX4_hasItem_15 (eqI.mk (by unfold fX4_hasItem; exact rfl) rfl)
  · refine r_if_lt E (q := 4) 14 dX4_hasItem_1 (by decide) rfl (fun c1 => ?_) (fun c1 => ?_)
    · refine r_iconst E (q := 15) (v := 0) dX4_hasItem_14 (by decide) rfl ?_
      exact hj1 _ (if_pos c1).symm
    · refine r_iload_n E (q := 5) 1 dX4_hasItem_4 rfl rfl rfl ?_
      refine r_bipush E (q := 7) (v := 8) dX4_hasItem_5 (by decide) rfl ?_
      refine r_icmp_ge E (q := 10) 14 dX4_hasItem_7 (by decide) rfl (fun c2 => ?_) (fun c2 => ?_)
      · refine r_iconst E (q := 15) (v := 0) dX4_hasItem_14 (by decide) rfl ?_
        exact hj1 _ ((if_neg c1).trans (if_pos c2)).symm
      · refine r_iconst E (q := 11) (v := 1) dX4_hasItem_10 (by decide) rfl ?_
        refine r_goto E 15 dX4_hasItem_11 (by decide) ?_
        exact hj1 _ ((if_neg c1).trans (if_neg c2)).symm
def fX4_cellOf (source : Int32) (i : Int32) : Int32 := ((source * 6) + i) * 3
set_option maxRecDepth 100000 in
set_option maxHeartbeats 800000 in
theorem c_X4_cellOf {l : Launch} {k : Kt} {ad : Nat → Nat} {G : Nat → Nat → Int32} {V : Nat → Int32} {n : Nat} (source : Int32) (i : Int32) : CT l k yX4_cellOf cX4_cellOf 3 (some .int) 0 [.ref (ad 1), .int source, .int i] (WC k ad G V n) (eqI (fX4_cellOf source i) (WC k ad G V n)) 0 0 := by
  refine ct_of (own := RX4) (lv0 := [(0, .ref (ad 1)), (1, .int source), (2, .int i)]) (by decide) rfl (Nat.le_of_ble_eq_true rfl) rfl ?_
  rintro z rfl rfl hz - E T
  refine r_iload_n E (q := 1) 1 dX4_cellOf_0 rfl rfl rfl ?_
  refine r_bipush E (q := 3) (v := 6) dX4_cellOf_1 (by decide) rfl ?_
  refine r_imul E (q := 4) dX4_cellOf_3 rfl ?_
  refine r_iload_n E (q := 5) 2 dX4_cellOf_4 rfl rfl rfl ?_
  refine r_iadd E (q := 6) dX4_cellOf_5 rfl ?_
  refine r_iconst E (q := 7) (v := 3) dX4_cellOf_6 (by decide) rfl ?_
  refine r_imul E (q := 8) dX4_cellOf_7 rfl ?_
  exact r_iret E T dX4_cellOf_8 (eqI.mk (by unfold fX4_cellOf; exact rfl) rfl)
def fX4_empty (G : Nat → Nat → Int32) (source : Int32) : Int32 := G 3 (ix source)
def fX4_empty_G (G : Nat → Nat → Int32) (source : Int32) : Nat → Nat → Int32 := ug G 3 (ix source) 0
set_option maxRecDepth 100000 in
set_option maxHeartbeats 800000 in
theorem c_X4_empty {l : Launch} {k : Kt} {ad : Nat → Nat} {G : Nat → Nat → Int32} {V : Nat → Int32} {n : Nat} (source : Int32) (hs : vp_in source 4) : CT l k yX4_empty cX4_empty 3 (some .int) 0 [.ref (ad 1), .int source] (WC k ad G V n) (eqI (fX4_empty G source) (WC k ad (fX4_empty_G G source) V n)) 0 0 := by
  refine ct_of (own := RX4) (lv0 := [(0, .ref (ad 1)), (1, .int source)]) (by decide) rfl (Nat.le_of_ble_eq_true rfl) rfl ?_
  rintro z rfl rfl hz - E T
  refine r_aload_n E (q := 1) 0 dX4_empty_0 rfl rfl rfl ?_
  refine r_get E (q := 4) fX4_15 1 wc_1 rfl dX4_empty_1 rfl ?_
  refine r_iload_n E (q := 5) 1 dX4_empty_4 rfl rfl rfl ?_
  refine r_iald E (q := 6) 3 wc_3 (by assumption) dX4_empty_5 rfl ?_
  refine r_istore_n E (q := 7) (lv' := [(0, .ref (ad 1)), (1, .int source), (2, .int (G 3 (ix source)))]) [1, 2, 0] dX4_empty_6 rfl (by rw [hz]; decide) rfl rfl ?_
  refine r_aload_n E (q := 8) 0 dX4_empty_7 rfl rfl rfl ?_
  refine r_get E (q := 11) fX4_15 1 wc_1 rfl dX4_empty_8 rfl ?_
  refine r_iload_n E (q := 12) 1 dX4_empty_11 rfl rfl rfl ?_
  refine r_iconst E (q := 13) (v := 0) dX4_empty_12 (by decide) rfl ?_
  refine r_iast E (q := 14) 3 wc_3 (by assumption) wcu_3 dX4_empty_13 rfl ?_
  refine r_iload_n E (q := 15) 2 dX4_empty_14 rfl rfl rfl ?_
  exact r_iret E T dX4_empty_15 (eqI.mk (by unfold fX4_empty; exact rfl) (cgC (by unfold fX4_empty_G; exact rfl) rfl))
/-- a source's next row lies in its cells -/
theorem cellOf_in {source y : Int32} {d : Nat} (hd : d < 3) (hs : vp_in source 4) (hy : ∃ j : Nat, j ≤ 6 ∧ y = nI j) (h6 : y < 6) : vp_in (fX4_cellOf source y + nI d) 72 := by
  obtain ⟨i, hi, rfl⟩ := vp_in_of hs (by decide)
  obtain ⟨j, hj, rfl⟩ := hy
  have h : j < 6 := Nat.not_le.mp fun h => nI_nlt h (by omega) (show nI j < nI 6 from h6)
  unfold fX4_cellOf
  rw [show (6 : Int32) = nI 6 from rfl, show (3 : Int32) = nI 3 from rfl, pk_mul, nI_add, pk_mul, nI_add]
  exact vp_in_nI (by omega) (by omega)
theorem cellOf_in0 {source y : Int32} (hs : vp_in source 4) (hy : ∃ j : Nat, j ≤ 6 ∧ y = nI j) (h6 : y < 6) : vp_in (fX4_cellOf source y) 72 := by
  have h := cellOf_in (d := 0) (by omega) hs hy h6
  rwa [nI_0, Int32.add_zero] at h
theorem cellOf_in1 {source y : Int32} (hs : vp_in source 4) (hy : ∃ j : Nat, j ≤ 6 ∧ y = nI j) (h6 : y < 6) : vp_in (fX4_cellOf source y + 1) 72 := by
  rw [show (1 : Int32) = nI 1 from rfl]; exact cellOf_in (by omega) hs hy h6
theorem cellOf_in2 {source y : Int32} (hs : vp_in source 4) (hy : ∃ j : Nat, j ≤ 6 ∧ y = nI j) (h6 : y < 6) : vp_in (fX4_cellOf source y + 2) 72 := by
  rw [show (2 : Int32) = nI 2 from rfl]; exact cellOf_in (by omega) hs hy h6
def fX4_add (G : Nat → Nat → Int32) (source : Int32) (a : Int32) (b : Int32) (c : Int32) : Int32 := if G 3 (ix source) < 6 then ((ug (ug (ug (ug G 2 (ix (fX4_cellOf source (G 3 (ix source)))) a) 2 (ix ((fX4_cellOf source (G 3 (ix source))) + 1)) b) 2 (ix ((fX4_cellOf source (G 3 (ix source))) + 2)) c) 3 (ix source) (((ug (ug (ug G 2 (ix (fX4_cellOf source (G 3 (ix source)))) a) 2 (ix ((fX4_cellOf source (G 3 (ix source))) + 1)) b) 2 (ix ((fX4_cellOf source (G 3 (ix source))) + 2)) c) 3 (ix source)) + 1)) 3 (ix source)) else (-2)
def fX4_add_G (G : Nat → Nat → Int32) (source : Int32) (a : Int32) (b : Int32) (c : Int32) : Nat → Nat → Int32 := if G 3 (ix source) < 6 then (ug (ug (ug (ug G 2 (ix (fX4_cellOf source (G 3 (ix source)))) a) 2 (ix ((fX4_cellOf source (G 3 (ix source))) + 1)) b) 2 (ix ((fX4_cellOf source (G 3 (ix source))) + 2)) c) 3 (ix source) (((ug (ug (ug G 2 (ix (fX4_cellOf source (G 3 (ix source)))) a) 2 (ix ((fX4_cellOf source (G 3 (ix source))) + 1)) b) 2 (ix ((fX4_cellOf source (G 3 (ix source))) + 2)) c) 3 (ix source)) + 1)) else G
set_option maxRecDepth 100000 in
set_option maxHeartbeats 800000 in
theorem c_X4_add {l : Launch} {k : Kt} {ad : Nat → Nat} {G : Nat → Nat → Int32} {V : Nat → Int32} {n : Nat} (source : Int32) (a : Int32) (b : Int32) (c : Int32) (hs : vp_in source 4) (hy : ∃ j : Nat, j ≤ 6 ∧ G 3 (ix source) = nI j) : CT l k yX4_add cX4_add 6 (some .int) 1 [.ref (ad 1), .int source, .int a, .int b, .int c] (WC k ad G V n) (eqI (fX4_add G source a b c) (WC k ad (fX4_add_G G source a b c) V n)) 0 0 := by
  refine ct_of (own := RX4) (lv0 := [(0, .ref (ad 1)), (1, .int source), (2, .int a), (3, .int b), (4, .int c)]) (by decide) rfl (Nat.le_of_ble_eq_true rfl) rfl ?_
  rintro z rfl rfl hz - E T
  refine r_aload_n E (q := 1) 0 dX4_add_0 rfl rfl rfl ?_
  refine r_get E (q := 4) fX4_15 1 wc_1 rfl dX4_add_1 rfl ?_
  refine r_iload_n E (q := 5) 1 dX4_add_4 rfl rfl rfl ?_
  refine r_iald E (q := 6) 3 wc_3 hs dX4_add_5 rfl ?_
  refine r_bipush E (q := 8) (v := 6) dX4_add_6 (by decide) rfl ?_
  refine r_icmp_lt E (q := 11) 14 dX4_add_8 (by decide) rfl (fun c1 => ?_) (fun c1 => ?_)
  · refine r_aload_n E (q := 15) 0 dX4_add_14 rfl rfl rfl ?_
    refine r_iload_n E (q := 16) 1 dX4_add_15 rfl rfl rfl ?_
    refine r_aload_n E (q := 17) 0 dX4_add_16 rfl rfl rfl ?_
    refine r_get E (q := 20) fX4_15 1 wc_1 rfl dX4_add_17 rfl ?_
    refine r_iload_n E (q := 21) 1 dX4_add_20 rfl rfl rfl ?_
    refine r_iald E (q := 22) 3 wc_3 hs dX4_add_21 rfl ?_
    refine rVi E (q := 25) cvX4_21 T.rr 1 wc_1 rfl [.int source, .int (G 3 (ix source))] (c_X4_cellOf source (G 3 (ix source))) (by decide) rfl rfl (Nat.le_of_ble_eq_true rfl) ⟨(Nat.le_of_ble_eq_true rfl), (Nat.le_of_ble_eq_true rfl)⟩ dX4_add_22 rfl ?_
    refine r_istore E (q := 27) (lv' := [(0, .ref (ad 1)), (1, .int source), (2, .int a), (3, .int b), (4, .int c), (5, .int (fX4_cellOf source (G 3 (ix source))))]) [1, 2, 3, 4, 5, 0] dX4_add_25 (by rw [hz]; decide) rfl rfl ?_
    refine r_aload_n E (q := 28) 0 dX4_add_27 rfl rfl rfl ?_
    refine r_get E (q := 31) fX4_11 1 wc_1 rfl dX4_add_28 rfl ?_
    refine r_iload E (q := 33) 5 dX4_add_31 rfl rfl ?_
    refine r_iload_n E (q := 34) 2 dX4_add_33 rfl rfl rfl ?_
    refine r_iast E (q := 35) 2 wc_2 (cellOf_in0 hs hy (by assumption)) wcu_2 dX4_add_34 rfl ?_
    refine r_aload_n E (q := 36) 0 dX4_add_35 rfl rfl rfl ?_
    refine r_get E (q := 39) fX4_11 1 wc_1 rfl dX4_add_36 rfl ?_
    refine r_iload E (q := 41) 5 dX4_add_39 rfl rfl ?_
    refine r_iconst E (q := 42) (v := 1) dX4_add_41 (by decide) rfl ?_
    refine r_iadd E (q := 43) dX4_add_42 rfl ?_
    refine r_iload_n E (q := 44) 3 dX4_add_43 rfl rfl rfl ?_
    refine r_iast E (q := 45) 2 wc_2 (cellOf_in1 hs hy (by assumption)) wcu_2 dX4_add_44 rfl ?_
    refine r_aload_n E (q := 46) 0 dX4_add_45 rfl rfl rfl ?_
    refine r_get E (q := 49) fX4_11 1 wc_1 rfl dX4_add_46 rfl ?_
    refine r_iload E (q := 51) 5 dX4_add_49 rfl rfl ?_
    refine r_iconst E (q := 52) (v := 2) dX4_add_51 (by decide) rfl ?_
    refine r_iadd E (q := 53) dX4_add_52 rfl ?_
    refine r_iload E (q := 55) 4 dX4_add_53 rfl rfl ?_
    refine r_iast E (q := 56) 2 wc_2 (cellOf_in2 hs hy (by assumption)) wcu_2 dX4_add_55 rfl ?_
    refine r_aload_n E (q := 57) 0 dX4_add_56 rfl rfl rfl ?_
    refine r_get E (q := 60) fX4_15 1 wc_1 rfl dX4_add_57 rfl ?_
    refine r_iload_n E (q := 61) 1 dX4_add_60 rfl rfl rfl ?_
    refine r_dup2 E (q := 62) dX4_add_61 rfl rfl rfl ?_
    refine r_iald E (q := 63) 3 wc_3 hs dX4_add_62 rfl ?_
    refine r_iconst E (q := 64) (v := 1) dX4_add_63 (by decide) rfl ?_
    refine r_iadd E (q := 65) dX4_add_64 rfl ?_
    refine r_iast E (q := 66) 3 wc_3 hs wcu_3 dX4_add_65 rfl ?_
    refine r_aload_n E (q := 67) 0 dX4_add_66 rfl rfl rfl ?_
    refine r_get E (q := 70) fX4_15 1 wc_1 rfl dX4_add_67 rfl ?_
    refine r_iload_n E (q := 71) 1 dX4_add_70 rfl rfl rfl ?_
    refine r_iald E (q := 72) 3 wc_3 hs dX4_add_71 rfl ?_
    exact r_iret E T dX4_add_72 (eqI.mk (by unfold fX4_add; exact (if_pos c1).symm) (cgC (by unfold fX4_add_G; exact (if_pos c1).symm) rfl))
  · refine r_bipush E (q := 13) (v := (-2)) dX4_add_11 (by decide) rfl ?_
    exact r_iret E T dX4_add_13 (eqI.mk (by unfold fX4_add; exact (if_neg c1).symm) (cgC (by unfold fX4_add_G; exact (if_neg c1).symm) rfl))
def fX0_takesFirst (kind : Int32) : Int32 := if kind < 2 then 0 else 1
theorem b_X0_takesFirst (kind : Int32) : fX0_takesFirst kind = 0 ∨ fX0_takesFirst kind = 1 := (b01 (Or.inl rfl) (Or.inr rfl))
set_option maxRecDepth 100000 in
set_option maxHeartbeats 800000 in
theorem c_X0_takesFirst {l : Launch} {k : Kt} {ad : Nat → Nat} {G : Nat → Nat → Int32} {V : Nat → Int32} {n : Nat} (kind : Int32) : CT l k yX0_takesFirst cX0_takesFirst 1 (some .boolean) 0 [.int kind] (WC k ad G V n) (eqI (fX0_takesFirst kind) (WC k ad G V n)) 0 0 := by
  refine ct_of (own := RX0) (lv0 := [(0, .int kind)]) (by decide) rfl (Nat.le_of_ble_eq_true rfl) rfl ?_
  rintro z rfl rfl hz - E T
  refine r_iload_n E (q := 1) 0 dX0_takesFirst_0 rfl rfl rfl ?_
  refine r_iconst E (q := 2) (v := 2) dX0_takesFirst_1 (by decide) rfl ?_
  refine r_join 10 (if kind < 2 then 0 else 1) (rest := []) ?_ (fun hj1 => ?_)
  · exact r_zret E T (b01 (Or.inl rfl) (Or.inr rfl)) dX0_takesFirst_10 (eqI.mk (by unfold fX0_takesFirst; exact rfl) rfl)
  · refine r_icmp_lt E (q := 5) 9 dX0_takesFirst_2 (by decide) rfl (fun c1 => ?_) (fun c1 => ?_)
    · refine r_iconst E (q := 10) (v := 0) dX0_takesFirst_9 (by decide) rfl ?_
      exact hj1 _ (if_pos c1).symm
    · refine r_iconst E (q := 6) (v := 1) dX0_takesFirst_5 (by decide) rfl ?_
      refine r_goto E 10 dX0_takesFirst_6 (by decide) ?_
      exact hj1 _ (if_neg c1).symm
def fX0_takesSecond (kind : Int32) : Int32 := if kind < 2 then 0 else (if kind = 6 then 0 else (if kind = 11 then 0 else 1))
theorem b_X0_takesSecond (kind : Int32) : fX0_takesSecond kind = 0 ∨ fX0_takesSecond kind = 1 := (b01 (Or.inl rfl) (b01 (Or.inl rfl) (b01 (Or.inl rfl) (Or.inr rfl))))
set_option maxRecDepth 100000 in
set_option maxHeartbeats 800000 in
theorem c_X0_takesSecond {l : Launch} {k : Kt} {ad : Nat → Nat} {G : Nat → Nat → Int32} {V : Nat → Int32} {n : Nat} (kind : Int32) : CT l k yX0_takesSecond cX0_takesSecond 1 (some .boolean) 0 [.int kind] (WC k ad G V n) (eqI (fX0_takesSecond kind) (WC k ad G V n)) 0 0 := by
  refine ct_of (own := RX0) (lv0 := [(0, .int kind)]) (by decide) rfl (Nat.le_of_ble_eq_true rfl) rfl ?_
  rintro z rfl rfl hz - E T
  refine r_iload_n E (q := 1) 0 dX0_takesSecond_0 rfl rfl rfl ?_
  refine r_iconst E (q := 2) (v := 2) dX0_takesSecond_1 (by decide) rfl ?_
  refine r_join 22 (if kind < 2 then 0 else (if kind = 6 then 0 else (if kind = 11 then 0 else 1))) (rest := []) ?_ (fun hj1 => ?_)
  · exact r_zret E T (b01 (Or.inl rfl) (b01 (Or.inl rfl) (b01 (Or.inl rfl) (Or.inr rfl)))) dX0_takesSecond_22 (eqI.mk (by unfold fX0_takesSecond; exact rfl) rfl)
  · refine r_icmp_lt E (q := 5) 21 dX0_takesSecond_2 (by decide) rfl (fun c1 => ?_) (fun c1 => ?_)
    · refine r_iconst E (q := 22) (v := 0) dX0_takesSecond_21 (by decide) rfl ?_
      exact hj1 _ (if_pos c1).symm
    · refine r_iload_n E (q := 6) 0 dX0_takesSecond_5 rfl rfl rfl ?_
      refine r_bipush E (q := 8) (v := 6) dX0_takesSecond_6 (by decide) rfl ?_
      refine r_icmp_eq E (q := 11) 21 dX0_takesSecond_8 (by decide) rfl (fun c2 => ?_) (fun c2 => ?_)
      · refine r_iconst E (q := 22) (v := 0) dX0_takesSecond_21 (by decide) rfl ?_
        exact hj1 _ ((if_neg c1).trans (if_pos c2)).symm
      · refine r_iload_n E (q := 12) 0 dX0_takesSecond_11 rfl rfl rfl ?_
        refine r_bipush E (q := 14) (v := 11) dX0_takesSecond_12 (by decide) rfl ?_
        refine r_icmp_eq E (q := 17) 21 dX0_takesSecond_14 (by decide) rfl (fun c3 => ?_) (fun c3 => ?_)
        · refine r_iconst E (q := 22) (v := 0) dX0_takesSecond_21 (by decide) rfl ?_
          exact hj1 _ ((if_neg c1).trans ((if_neg c2).trans (if_pos c3))).symm
        · refine r_iconst E (q := 18) (v := 1) dX0_takesSecond_17 (by decide) rfl ?_
          refine r_goto E 22 dX0_takesSecond_18 (by decide) ?_
          exact hj1 _ ((if_neg c1).trans ((if_neg c2).trans (if_neg c3))).symm
def fX0_has (V : Nat → Int32) (f : Int32) : Int32 := if f < 0 then 0 else (if V 0 ≤ f then 0 else 1)
theorem b_X0_has (V : Nat → Int32) (f : Int32) : fX0_has V f = 0 ∨ fX0_has V f = 1 := (b01 (Or.inl rfl) (b01 (Or.inl rfl) (Or.inr rfl)))
set_option maxRecDepth 100000 in
set_option maxHeartbeats 800000 in
theorem c_X0_has {l : Launch} {k : Kt} {ad : Nat → Nat} {G : Nat → Nat → Int32} {V : Nat → Int32} {n : Nat} (f : Int32) : CT l k yX0_has cX0_has 2 (some .boolean) 0 [.ref (ad 5), .int f] (WC k ad G V n) (eqI (fX0_has V f) (WC k ad G V n)) 0 0 := by
  refine ct_of (own := RX0) (lv0 := [(0, .ref (ad 5)), (1, .int f)]) (by decide) rfl (Nat.le_of_ble_eq_true rfl) rfl ?_
  rintro z rfl rfl hz - E T
  refine r_iload_n E (q := 1) 1 dX0_has_0 rfl rfl rfl ?_
  refine r_join 17 (if f < 0 then 0 else (if V 0 ≤ f then 0 else 1)) (rest := []) ?_ (fun hj1 => ?_)
  · exact r_zret E T (b01 (Or.inl rfl) (b01 (Or.inl rfl) (Or.inr rfl))) dX0_has_17 (eqI.mk (by unfold fX0_has; exact rfl) rfl)
  · refine r_if_lt E (q := 4) 16 dX0_has_1 (by decide) rfl (fun c1 => ?_) (fun c1 => ?_)
    · refine r_iconst E (q := 17) (v := 0) dX0_has_16 (by decide) rfl ?_
      exact hj1 _ (if_pos c1).symm
    · refine r_iload_n E (q := 5) 1 dX0_has_4 rfl rfl rfl ?_
      refine r_aload_n E (q := 6) 0 dX0_has_5 rfl rfl rfl ?_
      refine r_get E (q := 9) fX0_31 5 wc_5 rfl dX0_has_6 rfl ?_
      refine r_icmp_ge E (q := 12) 16 dX0_has_9 (by decide) rfl (fun c2 => ?_) (fun c2 => ?_)
      · refine r_iconst E (q := 17) (v := 0) dX0_has_16 (by decide) rfl ?_
        exact hj1 _ ((if_neg c1).trans (if_pos c2)).symm
      · refine r_iconst E (q := 13) (v := 1) dX0_has_12 (by decide) rfl ?_
        refine r_goto E 17 dX0_has_13 (by decide) ?_
        exact hj1 _ ((if_neg c1).trans (if_neg c2)).symm
def fX0_isAsTold (V : Nat → Int32) (kind : Int32) (a : Int32) (b : Int32) : Int32 := if kind < 0 then 0 else (if 12 ≤ kind then 0 else (if kind = 0 then (if fX5_isMember a = 0 then 0 else (if fX0_takesFirst kind = 0 then (if fX0_takesSecond kind = 0 then 1 else (if fX0_has V b = 0 then 0 else 1)) else (if fX0_has V a = 0 then 0 else (if fX0_takesSecond kind = 0 then 1 else (if fX0_has V b = 0 then 0 else 1))))) else (if fX0_takesFirst kind = 0 then (if fX0_takesSecond kind = 0 then 1 else (if fX0_has V b = 0 then 0 else 1)) else (if fX0_has V a = 0 then 0 else (if fX0_takesSecond kind = 0 then 1 else (if fX0_has V b = 0 then 0 else 1))))))
theorem b_X0_isAsTold (V : Nat → Int32) (kind : Int32) (a : Int32) (b : Int32) : fX0_isAsTold V kind a b = 0 ∨ fX0_isAsTold V kind a b = 1 := (b01 (Or.inl rfl) (b01 (Or.inl rfl) (b01 (b01 (Or.inl rfl) (b01 (b01 (Or.inr rfl) (b01 (Or.inl rfl) (Or.inr rfl))) (b01 (Or.inl rfl) (b01 (Or.inr rfl) (b01 (Or.inl rfl) (Or.inr rfl)))))) (b01 (b01 (Or.inr rfl) (b01 (Or.inl rfl) (Or.inr rfl))) (b01 (Or.inl rfl) (b01 (Or.inr rfl) (b01 (Or.inl rfl) (Or.inr rfl))))))))
set_option maxRecDepth 100000 in
set_option maxHeartbeats 800000 in
theorem c_X0_isAsTold {l : Launch} {k : Kt} {ad : Nat → Nat} {G : Nat → Nat → Int32} {V : Nat → Int32} {n : Nat} (kind : Int32) (a : Int32) (b : Int32) : CT l k yX0_isAsTold cX0_isAsTold 4 (some .boolean) 1 [.ref (ad 5), .int kind, .int a, .int b] (WC k ad G V n) (eqI (fX0_isAsTold V kind a b) (WC k ad G V n)) 0 0 := by
  refine ct_of (own := RX0) (lv0 := [(0, .ref (ad 5)), (1, .int kind), (2, .int a), (3, .int b)]) (by decide) rfl (Nat.le_of_ble_eq_true rfl) rfl ?_
  rintro z rfl rfl hz - E T
  refine r_iload_n E (q := 1) 1 dX0_isAsTold_0 rfl rfl rfl ?_
  refine r_if_lt E (q := 4) 21 dX0_isAsTold_1 (by decide) rfl (fun c1 => ?_) (fun c1 => ?_)
  · refine r_iconst E (q := 22) (v := 0) dX0_isAsTold_21 (by decide) rfl ?_
    exact r_zret E T (Or.inl rfl) dX0_isAsTold_22 (eqI.mk (by unfold fX0_isAsTold; exact (if_pos c1).symm) rfl)
  · refine r_iload_n E (q := 5) 1 dX0_isAsTold_4 rfl rfl rfl ?_
    refine r_bipush E (q := 7) (v := 12) dX0_isAsTold_5 (by decide) rfl ?_
    refine r_icmp_ge E (q := 10) 21 dX0_isAsTold_7 (by decide) rfl (fun c2 => ?_) (fun c2 => ?_)
    · refine r_iconst E (q := 22) (v := 0) dX0_isAsTold_21 (by decide) rfl ?_
      exact r_zret E T (Or.inl rfl) dX0_isAsTold_22 (eqI.mk (by unfold fX0_isAsTold; exact ((if_neg c1).trans (if_pos c2)).symm) rfl)
    · refine r_iload_n E (q := 11) 1 dX0_isAsTold_10 rfl rfl rfl ?_
      refine r_if_ne E (q := 14) 23 dX0_isAsTold_11 (by decide) rfl (fun c3 => ?_) (fun c3 => ?_)
      · refine r_iload_n E (q := 24) 1 dX0_isAsTold_23 rfl rfl rfl ?_
        refine rSi E (q := 27) csX0_39 T.rr [.int kind] (c_X0_takesFirst kind) (by decide) rfl rfl (Nat.le_of_ble_eq_true rfl) ⟨(Nat.le_of_ble_eq_true rfl), (Nat.le_of_ble_eq_true rfl)⟩ dX0_isAsTold_24 rfl ?_
        refine r_join 58 (if fX0_takesFirst kind = 0 then (if fX0_takesSecond kind = 0 then 1 else (if fX0_has V b = 0 then 0 else 1)) else (if fX0_has V a = 0 then 0 else (if fX0_takesSecond kind = 0 then 1 else (if fX0_has V b = 0 then 0 else 1)))) (rest := []) ?_ (fun hj1 => ?_)
        · exact r_zret E T (b01 (b01 (Or.inr rfl) (b01 (Or.inl rfl) (Or.inr rfl))) (b01 (Or.inl rfl) (b01 (Or.inr rfl) (b01 (Or.inl rfl) (Or.inr rfl))))) dX0_isAsTold_58 (eqI.mk (by unfold fX0_isAsTold; exact ((if_neg c1).trans ((if_neg c2).trans (if_neg c3))).symm) rfl)
        · refine r_if_eq E (q := 30) 38 dX0_isAsTold_27 (by decide) rfl (fun c4 => ?_) (fun c4 => ?_)
          · refine r_iload_n E (q := 39) 1 dX0_isAsTold_38 rfl rfl rfl ?_
            refine rSi E (q := 42) csX0_45 T.rr [.int kind] (c_X0_takesSecond kind) (by decide) rfl rfl (Nat.le_of_ble_eq_true rfl) ⟨(Nat.le_of_ble_eq_true rfl), (Nat.le_of_ble_eq_true rfl)⟩ dX0_isAsTold_39 rfl ?_
            refine r_if_eq E (q := 45) 53 dX0_isAsTold_42 (by decide) rfl (fun c5 => ?_) (fun c5 => ?_)
            · refine r_iconst E (q := 54) (v := 1) dX0_isAsTold_53 (by decide) rfl ?_
              refine r_goto E 58 dX0_isAsTold_54 (by decide) ?_
              exact hj1 _ ((if_pos c4).trans (if_pos c5)).symm
            · refine r_aload_n E (q := 46) 0 dX0_isAsTold_45 rfl rfl rfl ?_
              refine r_iload_n E (q := 47) 3 dX0_isAsTold_46 rfl rfl rfl ?_
              refine rVi E (q := 50) cvX0_42 T.rr 5 wc_5 rfl [.int b] (c_X0_has b) (by decide) rfl rfl (Nat.le_of_ble_eq_true rfl) ⟨(Nat.le_of_ble_eq_true rfl), (Nat.le_of_ble_eq_true rfl)⟩ dX0_isAsTold_47 rfl ?_
              refine r_if_eq E (q := 53) 57 dX0_isAsTold_50 (by decide) rfl (fun c6 => ?_) (fun c6 => ?_)
              · refine r_iconst E (q := 58) (v := 0) dX0_isAsTold_57 (by decide) rfl ?_
                exact hj1 _ ((if_pos c4).trans ((if_neg c5).trans (if_pos c6))).symm
              · refine r_iconst E (q := 54) (v := 1) dX0_isAsTold_53 (by decide) rfl ?_
                refine r_goto E 58 dX0_isAsTold_54 (by decide) ?_
                exact hj1 _ ((if_pos c4).trans ((if_neg c5).trans (if_neg c6))).symm
          · refine r_aload_n E (q := 31) 0 dX0_isAsTold_30 rfl rfl rfl ?_
            refine r_iload_n E (q := 32) 2 dX0_isAsTold_31 rfl rfl rfl ?_
            refine rVi E (q := 35) cvX0_42 T.rr 5 wc_5 rfl [.int a] (c_X0_has a) (by decide) rfl rfl (Nat.le_of_ble_eq_true rfl) ⟨(Nat.le_of_ble_eq_true rfl), (Nat.le_of_ble_eq_true rfl)⟩ dX0_isAsTold_32 rfl ?_
            refine r_if_eq E (q := 38) 57 dX0_isAsTold_35 (by decide) rfl (fun c7 => ?_) (fun c7 => ?_)
            · refine r_iconst E (q := 58) (v := 0) dX0_isAsTold_57 (by decide) rfl ?_
              exact hj1 _ ((if_neg c4).trans (if_pos c7)).symm
            · refine r_iload_n E (q := 39) 1 dX0_isAsTold_38 rfl rfl rfl ?_
              refine rSi E (q := 42) csX0_45 T.rr [.int kind] (c_X0_takesSecond kind) (by decide) rfl rfl (Nat.le_of_ble_eq_true rfl) ⟨(Nat.le_of_ble_eq_true rfl), (Nat.le_of_ble_eq_true rfl)⟩ dX0_isAsTold_39 rfl ?_
              refine r_if_eq E (q := 45) 53 dX0_isAsTold_42 (by decide) rfl (fun c8 => ?_) (fun c8 => ?_)
              · refine r_iconst E (q := 54) (v := 1) dX0_isAsTold_53 (by decide) rfl ?_
                refine r_goto E 58 dX0_isAsTold_54 (by decide) ?_
                exact hj1 _ ((if_neg c4).trans ((if_neg c7).trans (if_pos c8))).symm
              · refine r_aload_n E (q := 46) 0 dX0_isAsTold_45 rfl rfl rfl ?_
                refine r_iload_n E (q := 47) 3 dX0_isAsTold_46 rfl rfl rfl ?_
                refine rVi E (q := 50) cvX0_42 T.rr 5 wc_5 rfl [.int b] (c_X0_has b) (by decide) rfl rfl (Nat.le_of_ble_eq_true rfl) ⟨(Nat.le_of_ble_eq_true rfl), (Nat.le_of_ble_eq_true rfl)⟩ dX0_isAsTold_47 rfl ?_
                refine r_if_eq E (q := 53) 57 dX0_isAsTold_50 (by decide) rfl (fun c9 => ?_) (fun c9 => ?_)
                · refine r_iconst E (q := 58) (v := 0) dX0_isAsTold_57 (by decide) rfl ?_
                  exact hj1 _ ((if_neg c4).trans ((if_neg c7).trans ((if_neg c8).trans (if_pos c9)))).symm
                · refine r_iconst E (q := 54) (v := 1) dX0_isAsTold_53 (by decide) rfl ?_
                  refine r_goto E 58 dX0_isAsTold_54 (by decide) ?_
                  exact hj1 _ ((if_neg c4).trans ((if_neg c7).trans ((if_neg c8).trans (if_neg c9)))).symm
      · refine r_iload_n E (q := 15) 2 dX0_isAsTold_14 rfl rfl rfl ?_
        refine rSNi E (q := 18) cnX0_35 T.rr [.int a] (c_X5_isMember a) (by decide) rfl rfl (Nat.le_of_ble_eq_true rfl) ⟨(Nat.le_of_ble_eq_true rfl), (Nat.le_of_ble_eq_true rfl)⟩ dX0_isAsTold_15 rfl ?_
        refine r_if_ne E (q := 21) 23 dX0_isAsTold_18 (by decide) rfl (fun c10 => ?_) (fun c10 => ?_)
        · refine r_iload_n E (q := 24) 1 dX0_isAsTold_23 rfl rfl rfl ?_
          refine rSi E (q := 27) csX0_39 T.rr [.int kind] (c_X0_takesFirst kind) (by decide) rfl rfl (Nat.le_of_ble_eq_true rfl) ⟨(Nat.le_of_ble_eq_true rfl), (Nat.le_of_ble_eq_true rfl)⟩ dX0_isAsTold_24 rfl ?_
          refine r_join 58 (if fX0_takesFirst kind = 0 then (if fX0_takesSecond kind = 0 then 1 else (if fX0_has V b = 0 then 0 else 1)) else (if fX0_has V a = 0 then 0 else (if fX0_takesSecond kind = 0 then 1 else (if fX0_has V b = 0 then 0 else 1)))) (rest := []) ?_ (fun hj2 => ?_)
          · exact r_zret E T (b01 (b01 (Or.inr rfl) (b01 (Or.inl rfl) (Or.inr rfl))) (b01 (Or.inl rfl) (b01 (Or.inr rfl) (b01 (Or.inl rfl) (Or.inr rfl))))) dX0_isAsTold_58 (eqI.mk (by unfold fX0_isAsTold; exact ((if_neg c1).trans ((if_neg c2).trans ((if_pos c3).trans (if_neg c10)))).symm) rfl)
          · refine r_if_eq E (q := 30) 38 dX0_isAsTold_27 (by decide) rfl (fun c11 => ?_) (fun c11 => ?_)
            · refine r_iload_n E (q := 39) 1 dX0_isAsTold_38 rfl rfl rfl ?_
              refine rSi E (q := 42) csX0_45 T.rr [.int kind] (c_X0_takesSecond kind) (by decide) rfl rfl (Nat.le_of_ble_eq_true rfl) ⟨(Nat.le_of_ble_eq_true rfl), (Nat.le_of_ble_eq_true rfl)⟩ dX0_isAsTold_39 rfl ?_
              refine r_if_eq E (q := 45) 53 dX0_isAsTold_42 (by decide) rfl (fun c12 => ?_) (fun c12 => ?_)
              · refine r_iconst E (q := 54) (v := 1) dX0_isAsTold_53 (by decide) rfl ?_
                refine r_goto E 58 dX0_isAsTold_54 (by decide) ?_
                exact hj2 _ ((if_pos c11).trans (if_pos c12)).symm
              · refine r_aload_n E (q := 46) 0 dX0_isAsTold_45 rfl rfl rfl ?_
                refine r_iload_n E (q := 47) 3 dX0_isAsTold_46 rfl rfl rfl ?_
                refine rVi E (q := 50) cvX0_42 T.rr 5 wc_5 rfl [.int b] (c_X0_has b) (by decide) rfl rfl (Nat.le_of_ble_eq_true rfl) ⟨(Nat.le_of_ble_eq_true rfl), (Nat.le_of_ble_eq_true rfl)⟩ dX0_isAsTold_47 rfl ?_
                refine r_if_eq E (q := 53) 57 dX0_isAsTold_50 (by decide) rfl (fun c13 => ?_) (fun c13 => ?_)
                · refine r_iconst E (q := 58) (v := 0) dX0_isAsTold_57 (by decide) rfl ?_
                  exact hj2 _ ((if_pos c11).trans ((if_neg c12).trans (if_pos c13))).symm
                · refine r_iconst E (q := 54) (v := 1) dX0_isAsTold_53 (by decide) rfl ?_
                  refine r_goto E 58 dX0_isAsTold_54 (by decide) ?_
                  exact hj2 _ ((if_pos c11).trans ((if_neg c12).trans (if_neg c13))).symm
            · refine r_aload_n E (q := 31) 0 dX0_isAsTold_30 rfl rfl rfl ?_
              refine r_iload_n E (q := 32) 2 dX0_isAsTold_31 rfl rfl rfl ?_
              refine rVi E (q := 35) cvX0_42 T.rr 5 wc_5 rfl [.int a] (c_X0_has a) (by decide) rfl rfl (Nat.le_of_ble_eq_true rfl) ⟨(Nat.le_of_ble_eq_true rfl), (Nat.le_of_ble_eq_true rfl)⟩ dX0_isAsTold_32 rfl ?_
              refine r_if_eq E (q := 38) 57 dX0_isAsTold_35 (by decide) rfl (fun c14 => ?_) (fun c14 => ?_)
              · refine r_iconst E (q := 58) (v := 0) dX0_isAsTold_57 (by decide) rfl ?_
                exact hj2 _ ((if_neg c11).trans (if_pos c14)).symm
              · refine r_iload_n E (q := 39) 1 dX0_isAsTold_38 rfl rfl rfl ?_
                refine rSi E (q := 42) csX0_45 T.rr [.int kind] (c_X0_takesSecond kind) (by decide) rfl rfl (Nat.le_of_ble_eq_true rfl) ⟨(Nat.le_of_ble_eq_true rfl), (Nat.le_of_ble_eq_true rfl)⟩ dX0_isAsTold_39 rfl ?_
                refine r_if_eq E (q := 45) 53 dX0_isAsTold_42 (by decide) rfl (fun c15 => ?_) (fun c15 => ?_)
                · refine r_iconst E (q := 54) (v := 1) dX0_isAsTold_53 (by decide) rfl ?_
                  refine r_goto E 58 dX0_isAsTold_54 (by decide) ?_
                  exact hj2 _ ((if_neg c11).trans ((if_neg c14).trans (if_pos c15))).symm
                · refine r_aload_n E (q := 46) 0 dX0_isAsTold_45 rfl rfl rfl ?_
                  refine r_iload_n E (q := 47) 3 dX0_isAsTold_46 rfl rfl rfl ?_
                  refine rVi E (q := 50) cvX0_42 T.rr 5 wc_5 rfl [.int b] (c_X0_has b) (by decide) rfl rfl (Nat.le_of_ble_eq_true rfl) ⟨(Nat.le_of_ble_eq_true rfl), (Nat.le_of_ble_eq_true rfl)⟩ dX0_isAsTold_47 rfl ?_
                  refine r_if_eq E (q := 53) 57 dX0_isAsTold_50 (by decide) rfl (fun c16 => ?_) (fun c16 => ?_)
                  · refine r_iconst E (q := 58) (v := 0) dX0_isAsTold_57 (by decide) rfl ?_
                    exact hj2 _ ((if_neg c11).trans ((if_neg c14).trans ((if_neg c15).trans (if_pos c16)))).symm
                  · refine r_iconst E (q := 54) (v := 1) dX0_isAsTold_53 (by decide) rfl ?_
                    refine r_goto E 58 dX0_isAsTold_54 (by decide) ?_
                    exact hj2 _ ((if_neg c11).trans ((if_neg c14).trans ((if_neg c15).trans (if_neg c16)))).symm
        · refine r_iconst E (q := 22) (v := 0) dX0_isAsTold_21 (by decide) rfl ?_
          exact r_zret E T (Or.inl rfl) dX0_isAsTold_22 (eqI.mk (by unfold fX0_isAsTold; exact ((if_neg c1).trans ((if_neg c2).trans ((if_pos c3).trans (if_pos c10)))).symm) rfl)
def fX0_sizeOf (G : Nat → Nat → Int32) (kind : Int32) (a : Int32) (b : Int32) : Int32 := (1 + (if fX0_takesFirst kind = 0 then 0 else (G 9 (ix a)))) + (if fX0_takesSecond kind = 0 then 0 else (G 9 (ix b)))
set_option maxRecDepth 100000 in
set_option maxHeartbeats 800000 in
theorem c_X0_sizeOf {l : Launch} {k : Kt} {ad : Nat → Nat} {G : Nat → Nat → Int32} {V : Nat → Int32} {n : Nat} (kind : Int32) (a : Int32) (b : Int32) (ha : ¬ fX0_takesFirst kind = 0 → vp_in a 40) (hb : ¬ fX0_takesSecond kind = 0 → vp_in b 40) : CT l k yX0_sizeOf cX0_sizeOf 4 (some .int) 1 [.ref (ad 5), .int kind, .int a, .int b] (WC k ad G V n) (eqI (fX0_sizeOf G kind a b) (WC k ad G V n)) 0 0 := by
  refine ct_of (own := RX0) (lv0 := [(0, .ref (ad 5)), (1, .int kind), (2, .int a), (3, .int b)]) (by decide) rfl (Nat.le_of_ble_eq_true rfl) rfl ?_
  rintro z rfl rfl hz - E T
  refine r_iconst E (q := 1) (v := 1) dX0_sizeOf_0 (by decide) rfl ?_
  refine r_iload_n E (q := 2) 1 dX0_sizeOf_1 rfl rfl rfl ?_
  refine rSi E (q := 5) csX0_39 T.rr [.int kind] (c_X0_takesFirst kind) (by decide) rfl rfl (Nat.le_of_ble_eq_true rfl) ⟨(Nat.le_of_ble_eq_true rfl), (Nat.le_of_ble_eq_true rfl)⟩ dX0_sizeOf_2 rfl ?_
  refine r_join 18 (if fX0_takesFirst kind = 0 then 0 else (G 9 (ix a))) (rest := [.int 1]) ?_ (fun hj1 => ?_)
  · refine r_iadd E (q := 19) dX0_sizeOf_18 rfl ?_
    refine r_iload_n E (q := 20) 1 dX0_sizeOf_19 rfl rfl rfl ?_
    refine rSi E (q := 23) csX0_45 T.rr [.int kind] (c_X0_takesSecond kind) (by decide) rfl rfl (Nat.le_of_ble_eq_true rfl) ⟨(Nat.le_of_ble_eq_true rfl), (Nat.le_of_ble_eq_true rfl)⟩ dX0_sizeOf_20 rfl ?_
    refine r_join 36 (if fX0_takesSecond kind = 0 then 0 else (G 9 (ix b))) (rest := [.int (1 + (if fX0_takesFirst kind = 0 then 0 else (G 9 (ix a))))]) ?_ (fun hj2 => ?_)
    · refine r_iadd E (q := 37) dX0_sizeOf_36 rfl ?_
      exact r_iret E T dX0_sizeOf_37 (eqI.mk (by unfold fX0_sizeOf; exact rfl) rfl)
    · refine r_if_eq E (q := 26) 35 dX0_sizeOf_23 (by decide) rfl (fun c2 => ?_) (fun c2 => ?_)
      · refine r_iconst E (q := 36) (v := 0) dX0_sizeOf_35 (by decide) rfl ?_
        exact hj2 _ (if_pos c2).symm
      · refine r_aload_n E (q := 27) 0 dX0_sizeOf_26 rfl rfl rfl ?_
        refine r_get E (q := 30) fX0_21 5 wc_5 rfl dX0_sizeOf_27 rfl ?_
        refine r_iload_n E (q := 31) 3 dX0_sizeOf_30 rfl rfl rfl ?_
        refine r_iald E (q := 32) 9 wc_9 (by first | exact ha (by assumption) | exact hb (by assumption)) dX0_sizeOf_31 rfl ?_
        refine r_goto E 36 dX0_sizeOf_32 (by decide) ?_
        exact hj2 _ (if_neg c2).symm
  · refine r_if_eq E (q := 8) 17 dX0_sizeOf_5 (by decide) rfl (fun c1 => ?_) (fun c1 => ?_)
    · refine r_iconst E (q := 18) (v := 0) dX0_sizeOf_17 (by decide) rfl ?_
      exact hj1 _ (if_pos c1).symm
    · refine r_aload_n E (q := 9) 0 dX0_sizeOf_8 rfl rfl rfl ?_
      refine r_get E (q := 12) fX0_21 5 wc_5 rfl dX0_sizeOf_9 rfl ?_
      refine r_iload_n E (q := 13) 2 dX0_sizeOf_12 rfl rfl rfl ?_
      refine r_iald E (q := 14) 9 wc_9 (by first | exact ha (by assumption) | exact hb (by assumption)) dX0_sizeOf_13 rfl ?_
      refine r_goto E 18 dX0_sizeOf_14 (by decide) ?_
      exact hj1 _ (if_neg c1).symm
def fX0_readsOf (G : Nat → Nat → Int32) (kind : Int32) (a : Int32) (b : Int32) : Int32 := if kind = 0 then (1 <<< (a &&& 31)) else ((if fX0_takesFirst kind = 0 then 0 else (G 10 (ix a))) ||| (if fX0_takesSecond kind = 0 then 0 else (G 10 (ix b))))
set_option maxRecDepth 100000 in
set_option maxHeartbeats 800000 in
theorem c_X0_readsOf {l : Launch} {k : Kt} {ad : Nat → Nat} {G : Nat → Nat → Int32} {V : Nat → Int32} {n : Nat} (kind : Int32) (a : Int32) (b : Int32) (ha : ¬ fX0_takesFirst kind = 0 → vp_in a 40) (hb : ¬ fX0_takesSecond kind = 0 → vp_in b 40) : CT l k yX0_readsOf cX0_readsOf 4 (some .int) 1 [.ref (ad 5), .int kind, .int a, .int b] (WC k ad G V n) (eqI (fX0_readsOf G kind a b) (WC k ad G V n)) 0 0 := by
  refine ct_of (own := RX0) (lv0 := [(0, .ref (ad 5)), (1, .int kind), (2, .int a), (3, .int b)]) (by decide) rfl (Nat.le_of_ble_eq_true rfl) rfl ?_
  rintro z rfl rfl hz - E T
  refine r_iload_n E (q := 1) 1 dX0_readsOf_0 rfl rfl rfl ?_
  refine r_if_ne E (q := 4) 8 dX0_readsOf_1 (by decide) rfl (fun c1 => ?_) (fun c1 => ?_)
  · refine r_iload_n E (q := 9) 1 dX0_readsOf_8 rfl rfl rfl ?_
    refine rSi E (q := 12) csX0_39 T.rr [.int kind] (c_X0_takesFirst kind) (by decide) rfl rfl (Nat.le_of_ble_eq_true rfl) ⟨(Nat.le_of_ble_eq_true rfl), (Nat.le_of_ble_eq_true rfl)⟩ dX0_readsOf_9 rfl ?_
    refine r_join 25 (if fX0_takesFirst kind = 0 then 0 else (G 10 (ix a))) (rest := []) ?_ (fun hj1 => ?_)
    · refine r_iload_n E (q := 26) 1 dX0_readsOf_25 rfl rfl rfl ?_
      refine rSi E (q := 29) csX0_45 T.rr [.int kind] (c_X0_takesSecond kind) (by decide) rfl rfl (Nat.le_of_ble_eq_true rfl) ⟨(Nat.le_of_ble_eq_true rfl), (Nat.le_of_ble_eq_true rfl)⟩ dX0_readsOf_26 rfl ?_
      refine r_join 42 (if fX0_takesSecond kind = 0 then 0 else (G 10 (ix b))) (rest := [.int (if fX0_takesFirst kind = 0 then 0 else (G 10 (ix a)))]) ?_ (fun hj2 => ?_)
      · refine r_ior E (q := 43) dX0_readsOf_42 rfl ?_
        exact r_iret E T dX0_readsOf_43 (eqI.mk (by unfold fX0_readsOf; exact (if_neg c1).symm) rfl)
      · refine r_if_eq E (q := 32) 41 dX0_readsOf_29 (by decide) rfl (fun c3 => ?_) (fun c3 => ?_)
        · refine r_iconst E (q := 42) (v := 0) dX0_readsOf_41 (by decide) rfl ?_
          exact hj2 _ (if_pos c3).symm
        · refine r_aload_n E (q := 33) 0 dX0_readsOf_32 rfl rfl rfl ?_
          refine r_get E (q := 36) fX0_24 5 wc_5 rfl dX0_readsOf_33 rfl ?_
          refine r_iload_n E (q := 37) 3 dX0_readsOf_36 rfl rfl rfl ?_
          refine r_iald E (q := 38) 10 wc_10 (by first | exact ha (by assumption) | exact hb (by assumption)) dX0_readsOf_37 rfl ?_
          refine r_goto E 42 dX0_readsOf_38 (by decide) ?_
          exact hj2 _ (if_neg c3).symm
    · refine r_if_eq E (q := 15) 24 dX0_readsOf_12 (by decide) rfl (fun c2 => ?_) (fun c2 => ?_)
      · refine r_iconst E (q := 25) (v := 0) dX0_readsOf_24 (by decide) rfl ?_
        exact hj1 _ (if_pos c2).symm
      · refine r_aload_n E (q := 16) 0 dX0_readsOf_15 rfl rfl rfl ?_
        refine r_get E (q := 19) fX0_24 5 wc_5 rfl dX0_readsOf_16 rfl ?_
        refine r_iload_n E (q := 20) 2 dX0_readsOf_19 rfl rfl rfl ?_
        refine r_iald E (q := 21) 10 wc_10 (by first | exact ha (by assumption) | exact hb (by assumption)) dX0_readsOf_20 rfl ?_
        refine r_goto E 25 dX0_readsOf_21 (by decide) ?_
        exact hj1 _ (if_neg c2).symm
  · refine r_iconst E (q := 5) (v := 1) dX0_readsOf_4 (by decide) rfl ?_
    refine r_iload_n E (q := 6) 2 dX0_readsOf_5 rfl rfl rfl ?_
    refine r_ishl E (q := 7) dX0_readsOf_6 rfl ?_
    exact r_iret E T dX0_readsOf_7 (eqI.mk (by unfold fX0_readsOf; exact (if_pos c1).symm) rfl)
def fX0_failsOf (G : Nat → Nat → Int32) (kind : Int32) (a : Int32) (b : Int32) : Int32 := if kind = 5 then 1 else (if kind = 6 then 1 else (if fX0_takesFirst kind = 0 then (if fX0_takesSecond kind = 0 then 0 else (if G 11 (ix b) = 0 then 0 else 1)) else (if G 11 (ix a) = 0 then (if fX0_takesSecond kind = 0 then 0 else (if G 11 (ix b) = 0 then 0 else 1)) else 1)))
theorem b_X0_failsOf (G : Nat → Nat → Int32) (kind : Int32) (a : Int32) (b : Int32) : fX0_failsOf G kind a b = 0 ∨ fX0_failsOf G kind a b = 1 := (b01 (Or.inr rfl) (b01 (Or.inr rfl) (b01 (b01 (Or.inl rfl) (b01 (Or.inl rfl) (Or.inr rfl))) (b01 (b01 (Or.inl rfl) (b01 (Or.inl rfl) (Or.inr rfl))) (Or.inr rfl)))))
set_option maxRecDepth 100000 in
set_option maxHeartbeats 800000 in
theorem c_X0_failsOf {l : Launch} {k : Kt} {ad : Nat → Nat} {G : Nat → Nat → Int32} {V : Nat → Int32} {n : Nat} (kind : Int32) (a : Int32) (b : Int32) (ha : ¬ fX0_takesFirst kind = 0 → vp_in a 40) (hb : ¬ fX0_takesSecond kind = 0 → vp_in b 40) : CT l k yX0_failsOf cX0_failsOf 4 (some .boolean) 1 [.ref (ad 5), .int kind, .int a, .int b] (WC k ad G V n) (eqI (fX0_failsOf G kind a b) (WC k ad G V n)) 0 0 := by
  refine ct_of (own := RX0) (lv0 := [(0, .ref (ad 5)), (1, .int kind), (2, .int a), (3, .int b)]) (by decide) rfl (Nat.le_of_ble_eq_true rfl) rfl ?_
  rintro z rfl rfl hz - E T
  refine r_iload_n E (q := 1) 1 dX0_failsOf_0 rfl rfl rfl ?_
  refine r_iconst E (q := 2) (v := 5) dX0_failsOf_1 (by decide) rfl ?_
  refine r_icmp_eq E (q := 5) 11 dX0_failsOf_2 (by decide) rfl (fun c1 => ?_) (fun c1 => ?_)
  · refine r_iconst E (q := 12) (v := 1) dX0_failsOf_11 (by decide) rfl ?_
    exact r_zret E T (Or.inr rfl) dX0_failsOf_12 (eqI.mk (by unfold fX0_failsOf; exact (if_pos c1).symm) rfl)
  · refine r_iload_n E (q := 6) 1 dX0_failsOf_5 rfl rfl rfl ?_
    refine r_bipush E (q := 8) (v := 6) dX0_failsOf_6 (by decide) rfl ?_
    refine r_icmp_ne E (q := 11) 13 dX0_failsOf_8 (by decide) rfl (fun c2 => ?_) (fun c2 => ?_)
    · refine r_iload_n E (q := 14) 1 dX0_failsOf_13 rfl rfl rfl ?_
      refine rSi E (q := 17) csX0_39 T.rr [.int kind] (c_X0_takesFirst kind) (by decide) rfl rfl (Nat.le_of_ble_eq_true rfl) ⟨(Nat.le_of_ble_eq_true rfl), (Nat.le_of_ble_eq_true rfl)⟩ dX0_failsOf_14 rfl ?_
      refine r_join 50 (if fX0_takesFirst kind = 0 then (if fX0_takesSecond kind = 0 then 0 else (if G 11 (ix b) = 0 then 0 else 1)) else (if G 11 (ix a) = 0 then (if fX0_takesSecond kind = 0 then 0 else (if G 11 (ix b) = 0 then 0 else 1)) else 1)) (rest := []) ?_ (fun hj1 => ?_)
      · exact r_zret E T (b01 (b01 (Or.inl rfl) (b01 (Or.inl rfl) (Or.inr rfl))) (b01 (b01 (Or.inl rfl) (b01 (Or.inl rfl) (Or.inr rfl))) (Or.inr rfl))) dX0_failsOf_50 (eqI.mk (by unfold fX0_failsOf; exact ((if_neg c1).trans (if_neg c2)).symm) rfl)
      · refine r_if_eq E (q := 20) 29 dX0_failsOf_17 (by decide) rfl (fun c3 => ?_) (fun c3 => ?_)
        · refine r_iload_n E (q := 30) 1 dX0_failsOf_29 rfl rfl rfl ?_
          refine rSi E (q := 33) csX0_45 T.rr [.int kind] (c_X0_takesSecond kind) (by decide) rfl rfl (Nat.le_of_ble_eq_true rfl) ⟨(Nat.le_of_ble_eq_true rfl), (Nat.le_of_ble_eq_true rfl)⟩ dX0_failsOf_30 rfl ?_
          refine r_if_eq E (q := 36) 49 dX0_failsOf_33 (by decide) rfl (fun c4 => ?_) (fun c4 => ?_)
          · refine r_iconst E (q := 50) (v := 0) dX0_failsOf_49 (by decide) rfl ?_
            exact hj1 _ ((if_pos c3).trans (if_pos c4)).symm
          · refine r_aload_n E (q := 37) 0 dX0_failsOf_36 rfl rfl rfl ?_
            refine r_get E (q := 40) fX0_27 5 wc_5 rfl dX0_failsOf_37 rfl ?_
            refine r_iload_n E (q := 41) 3 dX0_failsOf_40 rfl rfl rfl ?_
            refine r_zald E (q := 42) 11 wc_11 (by first | exact ha (by assumption) | exact hb (by assumption)) dX0_failsOf_41 rfl ?_
            refine r_if_eq E (q := 45) 49 dX0_failsOf_42 (by decide) rfl (fun c5 => ?_) (fun c5 => ?_)
            · refine r_iconst E (q := 50) (v := 0) dX0_failsOf_49 (by decide) rfl ?_
              exact hj1 _ ((if_pos c3).trans ((if_neg c4).trans (if_pos c5))).symm
            · refine r_iconst E (q := 46) (v := 1) dX0_failsOf_45 (by decide) rfl ?_
              refine r_goto E 50 dX0_failsOf_46 (by decide) ?_
              exact hj1 _ ((if_pos c3).trans ((if_neg c4).trans (if_neg c5))).symm
        · refine r_aload_n E (q := 21) 0 dX0_failsOf_20 rfl rfl rfl ?_
          refine r_get E (q := 24) fX0_27 5 wc_5 rfl dX0_failsOf_21 rfl ?_
          refine r_iload_n E (q := 25) 2 dX0_failsOf_24 rfl rfl rfl ?_
          refine r_zald E (q := 26) 11 wc_11 (by first | exact ha (by assumption) | exact hb (by assumption)) dX0_failsOf_25 rfl ?_
          refine r_if_ne E (q := 29) 45 dX0_failsOf_26 (by decide) rfl (fun c6 => ?_) (fun c6 => ?_)
          · refine r_iconst E (q := 46) (v := 1) dX0_failsOf_45 (by decide) rfl ?_
            refine r_goto E 50 dX0_failsOf_46 (by decide) ?_
            exact hj1 _ ((if_neg c3).trans (if_neg c6)).symm
          · refine r_iload_n E (q := 30) 1 dX0_failsOf_29 rfl rfl rfl ?_
            refine rSi E (q := 33) csX0_45 T.rr [.int kind] (c_X0_takesSecond kind) (by decide) rfl rfl (Nat.le_of_ble_eq_true rfl) ⟨(Nat.le_of_ble_eq_true rfl), (Nat.le_of_ble_eq_true rfl)⟩ dX0_failsOf_30 rfl ?_
            refine r_if_eq E (q := 36) 49 dX0_failsOf_33 (by decide) rfl (fun c7 => ?_) (fun c7 => ?_)
            · refine r_iconst E (q := 50) (v := 0) dX0_failsOf_49 (by decide) rfl ?_
              exact hj1 _ ((if_neg c3).trans ((if_pos c6).trans (if_pos c7))).symm
            · refine r_aload_n E (q := 37) 0 dX0_failsOf_36 rfl rfl rfl ?_
              refine r_get E (q := 40) fX0_27 5 wc_5 rfl dX0_failsOf_37 rfl ?_
              refine r_iload_n E (q := 41) 3 dX0_failsOf_40 rfl rfl rfl ?_
              refine r_zald E (q := 42) 11 wc_11 (by first | exact ha (by assumption) | exact hb (by assumption)) dX0_failsOf_41 rfl ?_
              refine r_if_eq E (q := 45) 49 dX0_failsOf_42 (by decide) rfl (fun c8 => ?_) (fun c8 => ?_)
              · refine r_iconst E (q := 50) (v := 0) dX0_failsOf_49 (by decide) rfl ?_
                exact hj1 _ ((if_neg c3).trans ((if_pos c6).trans ((if_neg c7).trans (if_pos c8)))).symm
              · refine r_iconst E (q := 46) (v := 1) dX0_failsOf_45 (by decide) rfl ?_
                refine r_goto E 50 dX0_failsOf_46 (by decide) ?_
                exact hj1 _ ((if_neg c3).trans ((if_pos c6).trans ((if_neg c7).trans (if_neg c8)))).symm
    · refine r_iconst E (q := 12) (v := 1) dX0_failsOf_11 (by decide) rfl ?_
      exact r_zret E T (Or.inr rfl) dX0_failsOf_12 (eqI.mk (by unfold fX0_failsOf; exact ((if_neg c1).trans (if_pos c2)).symm) rfl)
def fX0_hasRoom (G : Nat → Nat → Int32) (V : Nat → Int32) (kind : Int32) (a : Int32) (b : Int32) : Int32 := if 40 ≤ V 0 then 0 else (if 30 < fX0_sizeOf G kind a b then 0 else 1)
theorem b_X0_hasRoom (G : Nat → Nat → Int32) (V : Nat → Int32) (kind : Int32) (a : Int32) (b : Int32) : fX0_hasRoom G V kind a b = 0 ∨ fX0_hasRoom G V kind a b = 1 := (b01 (Or.inl rfl) (b01 (Or.inl rfl) (Or.inr rfl)))
set_option maxRecDepth 100000 in
set_option maxHeartbeats 800000 in
theorem c_X0_hasRoom {l : Launch} {k : Kt} {ad : Nat → Nat} {G : Nat → Nat → Int32} {V : Nat → Int32} {n : Nat} (kind : Int32) (a : Int32) (b : Int32) (ha : ¬ fX0_takesFirst kind = 0 → vp_in a 40) (hb : ¬ fX0_takesSecond kind = 0 → vp_in b 40) : CT l k yX0_hasRoom cX0_hasRoom 4 (some .boolean) 2 [.ref (ad 5), .int kind, .int a, .int b] (WC k ad G V n) (eqI (fX0_hasRoom G V kind a b) (WC k ad G V n)) 0 0 := by
  refine ct_of (own := RX0) (lv0 := [(0, .ref (ad 5)), (1, .int kind), (2, .int a), (3, .int b)]) (by decide) rfl (Nat.le_of_ble_eq_true rfl) rfl ?_
  rintro z rfl rfl hz - E T
  refine r_aload_n E (q := 1) 0 dX0_hasRoom_0 rfl rfl rfl ?_
  refine r_get E (q := 4) fX0_31 5 wc_5 rfl dX0_hasRoom_1 rfl ?_
  refine r_bipush E (q := 6) (v := 40) dX0_hasRoom_4 (by decide) rfl ?_
  refine r_join 26 (if 40 ≤ V 0 then 0 else (if 30 < fX0_sizeOf G kind a b then 0 else 1)) (rest := []) ?_ (fun hj1 => ?_)
  · exact r_zret E T (b01 (Or.inl rfl) (b01 (Or.inl rfl) (Or.inr rfl))) dX0_hasRoom_26 (eqI.mk (by unfold fX0_hasRoom; exact rfl) rfl)
  · refine r_icmp_ge E (q := 9) 25 dX0_hasRoom_6 (by decide) rfl (fun c1 => ?_) (fun c1 => ?_)
    · refine r_iconst E (q := 26) (v := 0) dX0_hasRoom_25 (by decide) rfl ?_
      exact hj1 _ (if_pos c1).symm
    · refine r_aload_n E (q := 10) 0 dX0_hasRoom_9 rfl rfl rfl ?_
      refine r_iload_n E (q := 11) 1 dX0_hasRoom_10 rfl rfl rfl ?_
      refine r_iload_n E (q := 12) 2 dX0_hasRoom_11 rfl rfl rfl ?_
      refine r_iload_n E (q := 13) 3 dX0_hasRoom_12 rfl rfl rfl ?_
      refine rVi E (q := 16) cvX0_48 T.rr 5 wc_5 rfl [.int kind, .int a, .int b] (c_X0_sizeOf kind a b (by assumption) (by assumption)) (by decide) rfl rfl (Nat.le_of_ble_eq_true rfl) ⟨(Nat.le_of_ble_eq_true rfl), (Nat.le_of_ble_eq_true rfl)⟩ dX0_hasRoom_13 rfl ?_
      refine r_bipush E (q := 18) (v := 30) dX0_hasRoom_16 (by decide) rfl ?_
      refine r_icmp_gt E (q := 21) 25 dX0_hasRoom_18 (by decide) rfl (fun c2 => ?_) (fun c2 => ?_)
      · refine r_iconst E (q := 26) (v := 0) dX0_hasRoom_25 (by decide) rfl ?_
        exact hj1 _ ((if_neg c1).trans (if_pos c2)).symm
      · refine r_iconst E (q := 22) (v := 1) dX0_hasRoom_21 (by decide) rfl ?_
        refine r_goto E 26 dX0_hasRoom_22 (by decide) ?_
        exact hj1 _ ((if_neg c1).trans (if_neg c2)).symm
theorem hasRoom_in {G : Nat → Nat → Int32} {V : Nat → Int32} {kind a b : Int32} (h0 : ∃ j : Nat, j ≤ 40 ∧ V 0 = nI j) (h : ¬ fX0_hasRoom G V kind a b = 0) : vp_in (V 0) 40 := by
  obtain ⟨j, hj, e⟩ := h0
  unfold fX0_hasRoom at h
  by_cases c : 40 ≤ V 0
  · rw [if_pos c] at h; exact absurd rfl h
  · rw [e] at c ⊢
    exact vp_in_nI (Nat.not_le.mp fun q => c (show nI 40 ≤ nI j from nI_le q (by omega))) (by omega)
def fX0_add (G : Nat → Nat → Int32) (V : Nat → Int32) (kind : Int32) (a : Int32) (b : Int32) : Int32 := if fX0_hasRoom G V kind a b = 0 then (-2) else (V 0)
def fX0_add_G (G : Nat → Nat → Int32) (V : Nat → Int32) (kind : Int32) (a : Int32) (b : Int32) : Nat → Nat → Int32 := if fX0_hasRoom G V kind a b = 0 then G else (ug (ug (ug (ug (ug (ug G 6 (ix (V 0)) kind) 7 (ix (V 0)) a) 8 (ix (V 0)) (if fX0_takesSecond kind = 0 then 0 else b)) 9 (ix (V 0)) (fX0_sizeOf (ug (ug (ug G 6 (ix (V 0)) kind) 7 (ix (V 0)) a) 8 (ix (V 0)) (if fX0_takesSecond kind = 0 then 0 else b)) kind a b)) 10 (ix (V 0)) (fX0_readsOf (ug (ug (ug (ug G 6 (ix (V 0)) kind) 7 (ix (V 0)) a) 8 (ix (V 0)) (if fX0_takesSecond kind = 0 then 0 else b)) 9 (ix (V 0)) (fX0_sizeOf (ug (ug (ug G 6 (ix (V 0)) kind) 7 (ix (V 0)) a) 8 (ix (V 0)) (if fX0_takesSecond kind = 0 then 0 else b)) kind a b)) kind a b)) 11 (ix (V 0)) (fX0_failsOf (ug (ug (ug (ug (ug G 6 (ix (V 0)) kind) 7 (ix (V 0)) a) 8 (ix (V 0)) (if fX0_takesSecond kind = 0 then 0 else b)) 9 (ix (V 0)) (fX0_sizeOf (ug (ug (ug G 6 (ix (V 0)) kind) 7 (ix (V 0)) a) 8 (ix (V 0)) (if fX0_takesSecond kind = 0 then 0 else b)) kind a b)) 10 (ix (V 0)) (fX0_readsOf (ug (ug (ug (ug G 6 (ix (V 0)) kind) 7 (ix (V 0)) a) 8 (ix (V 0)) (if fX0_takesSecond kind = 0 then 0 else b)) 9 (ix (V 0)) (fX0_sizeOf (ug (ug (ug G 6 (ix (V 0)) kind) 7 (ix (V 0)) a) 8 (ix (V 0)) (if fX0_takesSecond kind = 0 then 0 else b)) kind a b)) kind a b)) kind a b))
def fX0_add_V (G : Nat → Nat → Int32) (V : Nat → Int32) (kind : Int32) (a : Int32) (b : Int32) : Nat → Int32 := if fX0_hasRoom G V kind a b = 0 then V else (upd V 0 ((V 0) + 1))
set_option maxRecDepth 100000 in
set_option maxHeartbeats 800000 in
theorem c_X0_add {l : Launch} {k : Kt} {ad : Nat → Nat} {G : Nat → Nat → Int32} {V : Nat → Int32} {n : Nat} (kind : Int32) (a : Int32) (b : Int32) (ha : ¬ fX0_takesFirst kind = 0 → vp_in a 40) (hb : ¬ fX0_takesSecond kind = 0 → vp_in b 40) (h0 : ∃ j : Nat, j ≤ 40 ∧ V 0 = nI j) : CT l k yX0_add cX0_add 5 (some .int) 3 [.ref (ad 5), .int kind, .int a, .int b] (WC k ad G V n) (eqI (fX0_add G V kind a b) (WC k ad (fX0_add_G G V kind a b) (fX0_add_V G V kind a b) n)) 0 0 := by
  refine ct_of (own := RX0) (lv0 := [(0, .ref (ad 5)), (1, .int kind), (2, .int a), (3, .int b)]) (by decide) rfl (Nat.le_of_ble_eq_true rfl) rfl ?_
  rintro z rfl rfl hz - E T
  refine r_aload_n E (q := 1) 0 dX0_add_0 rfl rfl rfl ?_
  refine r_iload_n E (q := 2) 1 dX0_add_1 rfl rfl rfl ?_
  refine r_iload_n E (q := 3) 2 dX0_add_2 rfl rfl rfl ?_
  refine r_iload_n E (q := 4) 3 dX0_add_3 rfl rfl rfl ?_
  refine rVi E (q := 7) cvX0_52 T.rr 5 wc_5 rfl [.int kind, .int a, .int b] (c_X0_hasRoom kind a b (by assumption) (by assumption)) (by decide) rfl rfl (Nat.le_of_ble_eq_true rfl) ⟨(Nat.le_of_ble_eq_true rfl), (Nat.le_of_ble_eq_true rfl)⟩ dX0_add_4 rfl ?_
  refine r_if_ne E (q := 10) 13 dX0_add_7 (by decide) rfl (fun c1 => ?_) (fun c1 => ?_)
  · refine r_aload_n E (q := 14) 0 dX0_add_13 rfl rfl rfl ?_
    refine r_get E (q := 17) fX0_31 5 wc_5 rfl dX0_add_14 rfl ?_
    refine r_istore E (q := 19) (lv' := [(0, .ref (ad 5)), (1, .int kind), (2, .int a), (3, .int b), (4, .int (V 0))]) [1, 2, 3, 4, 0] dX0_add_17 (by rw [hz]; decide) rfl rfl ?_
    refine r_aload_n E (q := 20) 0 dX0_add_19 rfl rfl rfl ?_
    refine r_get E (q := 23) fX0_11 5 wc_5 rfl dX0_add_20 rfl ?_
    refine r_iload E (q := 25) 4 dX0_add_23 rfl rfl ?_
    refine r_iload_n E (q := 26) 1 dX0_add_25 rfl rfl rfl ?_
    refine r_iast E (q := 27) 6 wc_6 (hasRoom_in h0 (by assumption)) wcu_6 dX0_add_26 rfl ?_
    refine r_aload_n E (q := 28) 0 dX0_add_27 rfl rfl rfl ?_
    refine r_get E (q := 31) fX0_15 5 wc_5 rfl dX0_add_28 rfl ?_
    refine r_iload E (q := 33) 4 dX0_add_31 rfl rfl ?_
    refine r_iload_n E (q := 34) 2 dX0_add_33 rfl rfl rfl ?_
    refine r_iast E (q := 35) 7 wc_7 (hasRoom_in h0 (by assumption)) wcu_7 dX0_add_34 rfl ?_
    refine r_aload_n E (q := 36) 0 dX0_add_35 rfl rfl rfl ?_
    refine r_get E (q := 39) fX0_18 5 wc_5 rfl dX0_add_36 rfl ?_
    refine r_iload E (q := 41) 4 dX0_add_39 rfl rfl ?_
    refine r_iload_n E (q := 42) 1 dX0_add_41 rfl rfl rfl ?_
    refine rSi E (q := 45) csX0_45 T.rr [.int kind] (c_X0_takesSecond kind) (by decide) rfl rfl (Nat.le_of_ble_eq_true rfl) ⟨(Nat.le_of_ble_eq_true rfl), (Nat.le_of_ble_eq_true rfl)⟩ dX0_add_42 rfl ?_
    refine r_join 53 (if fX0_takesSecond kind = 0 then 0 else b) (rest := [.int (V 0), .ref (ad 8)]) ?_ (fun hj1 => ?_)
    · refine r_iast E (q := 54) 8 wc_8 (hasRoom_in h0 (by assumption)) wcu_8 dX0_add_53 rfl ?_
      refine r_aload_n E (q := 55) 0 dX0_add_54 rfl rfl rfl ?_
      refine r_get E (q := 58) fX0_21 5 wc_5 rfl dX0_add_55 rfl ?_
      refine r_iload E (q := 60) 4 dX0_add_58 rfl rfl ?_
      refine r_aload_n E (q := 61) 0 dX0_add_60 rfl rfl rfl ?_
      refine r_iload_n E (q := 62) 1 dX0_add_61 rfl rfl rfl ?_
      refine r_iload_n E (q := 63) 2 dX0_add_62 rfl rfl rfl ?_
      refine r_iload_n E (q := 64) 3 dX0_add_63 rfl rfl rfl ?_
      refine rVi E (q := 67) cvX0_48 T.rr 5 wc_5 rfl [.int kind, .int a, .int b] (c_X0_sizeOf kind a b (by assumption) (by assumption)) (by decide) rfl rfl (Nat.le_of_ble_eq_true rfl) ⟨(Nat.le_of_ble_eq_true rfl), (Nat.le_of_ble_eq_true rfl)⟩ dX0_add_64 rfl ?_
      refine r_iast E (q := 68) 9 wc_9 (hasRoom_in h0 (by assumption)) wcu_9 dX0_add_67 rfl ?_
      refine r_aload_n E (q := 69) 0 dX0_add_68 rfl rfl rfl ?_
      refine r_get E (q := 72) fX0_24 5 wc_5 rfl dX0_add_69 rfl ?_
      refine r_iload E (q := 74) 4 dX0_add_72 rfl rfl ?_
      refine r_aload_n E (q := 75) 0 dX0_add_74 rfl rfl rfl ?_
      refine r_iload_n E (q := 76) 1 dX0_add_75 rfl rfl rfl ?_
      refine r_iload_n E (q := 77) 2 dX0_add_76 rfl rfl rfl ?_
      refine r_iload_n E (q := 78) 3 dX0_add_77 rfl rfl rfl ?_
      refine rVi E (q := 81) cvX0_56 T.rr 5 wc_5 rfl [.int kind, .int a, .int b] (c_X0_readsOf kind a b (by assumption) (by assumption)) (by decide) rfl rfl (Nat.le_of_ble_eq_true rfl) ⟨(Nat.le_of_ble_eq_true rfl), (Nat.le_of_ble_eq_true rfl)⟩ dX0_add_78 rfl ?_
      refine r_iast E (q := 82) 10 wc_10 (hasRoom_in h0 (by assumption)) wcu_10 dX0_add_81 rfl ?_
      refine r_aload_n E (q := 83) 0 dX0_add_82 rfl rfl rfl ?_
      refine r_get E (q := 86) fX0_27 5 wc_5 rfl dX0_add_83 rfl ?_
      refine r_iload E (q := 88) 4 dX0_add_86 rfl rfl ?_
      refine r_aload_n E (q := 89) 0 dX0_add_88 rfl rfl rfl ?_
      refine r_iload_n E (q := 90) 1 dX0_add_89 rfl rfl rfl ?_
      refine r_iload_n E (q := 91) 2 dX0_add_90 rfl rfl rfl ?_
      refine r_iload_n E (q := 92) 3 dX0_add_91 rfl rfl rfl ?_
      refine rVi E (q := 95) cvX0_59 T.rr 5 wc_5 rfl [.int kind, .int a, .int b] (c_X0_failsOf kind a b (by assumption) (by assumption)) (by decide) rfl rfl (Nat.le_of_ble_eq_true rfl) ⟨(Nat.le_of_ble_eq_true rfl), (Nat.le_of_ble_eq_true rfl)⟩ dX0_add_92 rfl ?_
      refine r_zast E (q := 96) 11 wc_11 (hasRoom_in h0 (by assumption)) (nar_b (b_X0_failsOf _ _ _ _)) wcu_11 dX0_add_95 rfl ?_
      refine r_aload_n E (q := 97) 0 dX0_add_96 rfl rfl rfl ?_
      refine r_dup E (q := 98) dX0_add_97 rfl rfl ?_
      refine r_get E (q := 101) fX0_31 5 wc_5 rfl dX0_add_98 rfl ?_
      refine r_iconst E (q := 102) (v := 1) dX0_add_101 (by decide) rfl ?_
      refine r_iadd E (q := 103) dX0_add_102 rfl ?_
      refine r_put E (q := 106) pX0_31 rfl 5 wc_5 rfl rfl (Nat.le_of_ble_eq_true rfl) wcv_0 dX0_add_103 rfl ?_
      refine r_iload E (q := 108) 4 dX0_add_106 rfl rfl ?_
      exact r_iret E T dX0_add_108 (eqI.mk (by unfold fX0_add; exact (if_neg c1).symm) (cgC (by unfold fX0_add_G; exact (if_neg c1).symm) (by unfold fX0_add_V; exact (if_neg c1).symm)))
    · refine r_if_eq E (q := 48) 52 dX0_add_45 (by decide) rfl (fun c2 => ?_) (fun c2 => ?_)
      · refine r_iconst E (q := 53) (v := 0) dX0_add_52 (by decide) rfl ?_
        exact hj1 _ (if_pos c2).symm
      · refine r_iload_n E (q := 49) 3 dX0_add_48 rfl rfl rfl ?_
        refine r_goto E 53 dX0_add_49 (by decide) ?_
        exact hj1 _ (if_neg c2).symm
  · refine r_bipush E (q := 12) (v := (-2)) dX0_add_10 (by decide) rfl ?_
    exact r_iret E T dX0_add_12 (eqI.mk (by unfold fX0_add; exact (if_pos c1).symm) (cgC (by unfold fX0_add_G; exact (if_pos c1).symm) (by unfold fX0_add_V; exact (if_pos c1).symm)))
def fX1_takesRight (kind : Int32) : Int32 := if kind = 4 then 1 else (if kind = 5 then 1 else 0)
theorem b_X1_takesRight (kind : Int32) : fX1_takesRight kind = 0 ∨ fX1_takesRight kind = 1 := (b01 (Or.inr rfl) (b01 (Or.inr rfl) (Or.inl rfl)))
set_option maxRecDepth 100000 in
set_option maxHeartbeats 800000 in
theorem c_X1_takesRight {l : Launch} {k : Kt} {ad : Nat → Nat} {G : Nat → Nat → Int32} {V : Nat → Int32} {n : Nat} (kind : Int32) : CT l k yX1_takesRight cX1_takesRight 1 (some .boolean) 0 [.int kind] (WC k ad G V n) (eqI (fX1_takesRight kind) (WC k ad G V n)) 0 0 := by
  refine ct_of (own := RX1) (lv0 := [(0, .int kind)]) (by decide) rfl (Nat.le_of_ble_eq_true rfl) rfl ?_
  rintro z rfl rfl hz - E T
  refine r_iload_n E (q := 1) 0 dX1_takesRight_0 rfl rfl rfl ?_
  refine r_iconst E (q := 2) (v := 4) dX1_takesRight_1 (by decide) rfl ?_
  refine r_join 15 (if kind = 4 then 1 else (if kind = 5 then 1 else 0)) (rest := []) ?_ (fun hj1 => ?_)
  · exact r_zret E T (b01 (Or.inr rfl) (b01 (Or.inr rfl) (Or.inl rfl))) dX1_takesRight_15 (eqI.mk (by unfold fX1_takesRight; exact rfl) rfl)
  · refine r_icmp_eq E (q := 5) 10 dX1_takesRight_2 (by decide) rfl (fun c1 => ?_) (fun c1 => ?_)
    · refine r_iconst E (q := 11) (v := 1) dX1_takesRight_10 (by decide) rfl ?_
      refine r_goto E 15 dX1_takesRight_11 (by decide) ?_
      exact hj1 _ (if_pos c1).symm
    · refine r_iload_n E (q := 6) 0 dX1_takesRight_5 rfl rfl rfl ?_
      refine r_iconst E (q := 7) (v := 5) dX1_takesRight_6 (by decide) rfl ?_
      refine r_icmp_ne E (q := 10) 14 dX1_takesRight_7 (by decide) rfl (fun c2 => ?_) (fun c2 => ?_)
      · refine r_iconst E (q := 15) (v := 0) dX1_takesRight_14 (by decide) rfl ?_
        exact hj1 _ ((if_neg c1).trans (if_neg c2)).symm
      · refine r_iconst E (q := 11) (v := 1) dX1_takesRight_10 (by decide) rfl ?_
        refine r_goto E 15 dX1_takesRight_11 (by decide) ?_
        exact hj1 _ ((if_neg c1).trans (if_pos c2)).symm
def fX1_takesMember (kind : Int32) : Int32 := if kind = 2 then 1 else (if kind = 4 then 1 else (if kind = 6 then 1 else 0))
theorem b_X1_takesMember (kind : Int32) : fX1_takesMember kind = 0 ∨ fX1_takesMember kind = 1 := (b01 (Or.inr rfl) (b01 (Or.inr rfl) (b01 (Or.inr rfl) (Or.inl rfl))))
set_option maxRecDepth 100000 in
set_option maxHeartbeats 800000 in
theorem c_X1_takesMember {l : Launch} {k : Kt} {ad : Nat → Nat} {G : Nat → Nat → Int32} {V : Nat → Int32} {n : Nat} (kind : Int32) : CT l k yX1_takesMember cX1_takesMember 1 (some .boolean) 0 [.int kind] (WC k ad G V n) (eqI (fX1_takesMember kind) (WC k ad G V n)) 0 0 := by
  refine ct_of (own := RX1) (lv0 := [(0, .int kind)]) (by decide) rfl (Nat.le_of_ble_eq_true rfl) rfl ?_
  rintro z rfl rfl hz - E T
  refine r_iload_n E (q := 1) 0 dX1_takesMember_0 rfl rfl rfl ?_
  refine r_iconst E (q := 2) (v := 2) dX1_takesMember_1 (by decide) rfl ?_
  refine r_join 21 (if kind = 2 then 1 else (if kind = 4 then 1 else (if kind = 6 then 1 else 0))) (rest := []) ?_ (fun hj1 => ?_)
  · exact r_zret E T (b01 (Or.inr rfl) (b01 (Or.inr rfl) (b01 (Or.inr rfl) (Or.inl rfl)))) dX1_takesMember_21 (eqI.mk (by unfold fX1_takesMember; exact rfl) rfl)
  · refine r_icmp_eq E (q := 5) 16 dX1_takesMember_2 (by decide) rfl (fun c1 => ?_) (fun c1 => ?_)
    · refine r_iconst E (q := 17) (v := 1) dX1_takesMember_16 (by decide) rfl ?_
      refine r_goto E 21 dX1_takesMember_17 (by decide) ?_
      exact hj1 _ (if_pos c1).symm
    · refine r_iload_n E (q := 6) 0 dX1_takesMember_5 rfl rfl rfl ?_
      refine r_iconst E (q := 7) (v := 4) dX1_takesMember_6 (by decide) rfl ?_
      refine r_icmp_eq E (q := 10) 16 dX1_takesMember_7 (by decide) rfl (fun c2 => ?_) (fun c2 => ?_)
      · refine r_iconst E (q := 17) (v := 1) dX1_takesMember_16 (by decide) rfl ?_
        refine r_goto E 21 dX1_takesMember_17 (by decide) ?_
        exact hj1 _ ((if_neg c1).trans (if_pos c2)).symm
      · refine r_iload_n E (q := 11) 0 dX1_takesMember_10 rfl rfl rfl ?_
        refine r_bipush E (q := 13) (v := 6) dX1_takesMember_11 (by decide) rfl ?_
        refine r_icmp_ne E (q := 16) 20 dX1_takesMember_13 (by decide) rfl (fun c3 => ?_) (fun c3 => ?_)
        · refine r_iconst E (q := 21) (v := 0) dX1_takesMember_20 (by decide) rfl ?_
          exact hj1 _ ((if_neg c1).trans ((if_neg c2).trans (if_neg c3))).symm
        · refine r_iconst E (q := 17) (v := 1) dX1_takesMember_16 (by decide) rfl ?_
          refine r_goto E 21 dX1_takesMember_17 (by decide) ?_
          exact hj1 _ ((if_neg c1).trans ((if_neg c2).trans (if_pos c3))).symm
def fX1_takesValue (kind : Int32) : Int32 := if kind = 0 then 0 else (if kind = 5 then 0 else (if kind = 7 then 0 else 1))
theorem b_X1_takesValue (kind : Int32) : fX1_takesValue kind = 0 ∨ fX1_takesValue kind = 1 := (b01 (Or.inl rfl) (b01 (Or.inl rfl) (b01 (Or.inl rfl) (Or.inr rfl))))
set_option maxRecDepth 100000 in
set_option maxHeartbeats 800000 in
theorem c_X1_takesValue {l : Launch} {k : Kt} {ad : Nat → Nat} {G : Nat → Nat → Int32} {V : Nat → Int32} {n : Nat} (kind : Int32) : CT l k yX1_takesValue cX1_takesValue 1 (some .boolean) 0 [.int kind] (WC k ad G V n) (eqI (fX1_takesValue kind) (WC k ad G V n)) 0 0 := by
  refine ct_of (own := RX1) (lv0 := [(0, .int kind)]) (by decide) rfl (Nat.le_of_ble_eq_true rfl) rfl ?_
  rintro z rfl rfl hz - E T
  refine r_iload_n E (q := 1) 0 dX1_takesValue_0 rfl rfl rfl ?_
  refine r_join 20 (if kind = 0 then 0 else (if kind = 5 then 0 else (if kind = 7 then 0 else 1))) (rest := []) ?_ (fun hj1 => ?_)
  · exact r_zret E T (b01 (Or.inl rfl) (b01 (Or.inl rfl) (b01 (Or.inl rfl) (Or.inr rfl)))) dX1_takesValue_20 (eqI.mk (by unfold fX1_takesValue; exact rfl) rfl)
  · refine r_if_eq E (q := 4) 19 dX1_takesValue_1 (by decide) rfl (fun c1 => ?_) (fun c1 => ?_)
    · refine r_iconst E (q := 20) (v := 0) dX1_takesValue_19 (by decide) rfl ?_
      exact hj1 _ (if_pos c1).symm
    · refine r_iload_n E (q := 5) 0 dX1_takesValue_4 rfl rfl rfl ?_
      refine r_iconst E (q := 6) (v := 5) dX1_takesValue_5 (by decide) rfl ?_
      refine r_icmp_eq E (q := 9) 19 dX1_takesValue_6 (by decide) rfl (fun c2 => ?_) (fun c2 => ?_)
      · refine r_iconst E (q := 20) (v := 0) dX1_takesValue_19 (by decide) rfl ?_
        exact hj1 _ ((if_neg c1).trans (if_pos c2)).symm
      · refine r_iload_n E (q := 10) 0 dX1_takesValue_9 rfl rfl rfl ?_
        refine r_bipush E (q := 12) (v := 7) dX1_takesValue_10 (by decide) rfl ?_
        refine r_icmp_eq E (q := 15) 19 dX1_takesValue_12 (by decide) rfl (fun c3 => ?_) (fun c3 => ?_)
        · refine r_iconst E (q := 20) (v := 0) dX1_takesValue_19 (by decide) rfl ?_
          exact hj1 _ ((if_neg c1).trans ((if_neg c2).trans (if_pos c3))).symm
        · refine r_iconst E (q := 16) (v := 1) dX1_takesValue_15 (by decide) rfl ?_
          refine r_goto E 20 dX1_takesValue_16 (by decide) ?_
          exact hj1 _ ((if_neg c1).trans ((if_neg c2).trans (if_neg c3))).symm
def fX1_takesFormula (kind : Int32) : Int32 := if kind = 1 then 1 else (if kind = 2 then 1 else 0)
theorem b_X1_takesFormula (kind : Int32) : fX1_takesFormula kind = 0 ∨ fX1_takesFormula kind = 1 := (b01 (Or.inr rfl) (b01 (Or.inr rfl) (Or.inl rfl)))
set_option maxRecDepth 100000 in
set_option maxHeartbeats 800000 in
theorem c_X1_takesFormula {l : Launch} {k : Kt} {ad : Nat → Nat} {G : Nat → Nat → Int32} {V : Nat → Int32} {n : Nat} (kind : Int32) : CT l k yX1_takesFormula cX1_takesFormula 1 (some .boolean) 0 [.int kind] (WC k ad G V n) (eqI (fX1_takesFormula kind) (WC k ad G V n)) 0 0 := by
  refine ct_of (own := RX1) (lv0 := [(0, .int kind)]) (by decide) rfl (Nat.le_of_ble_eq_true rfl) rfl ?_
  rintro z rfl rfl hz - E T
  refine r_iload_n E (q := 1) 0 dX1_takesFormula_0 rfl rfl rfl ?_
  refine r_iconst E (q := 2) (v := 1) dX1_takesFormula_1 (by decide) rfl ?_
  refine r_join 15 (if kind = 1 then 1 else (if kind = 2 then 1 else 0)) (rest := []) ?_ (fun hj1 => ?_)
  · exact r_zret E T (b01 (Or.inr rfl) (b01 (Or.inr rfl) (Or.inl rfl))) dX1_takesFormula_15 (eqI.mk (by unfold fX1_takesFormula; exact rfl) rfl)
  · refine r_icmp_eq E (q := 5) 10 dX1_takesFormula_2 (by decide) rfl (fun c1 => ?_) (fun c1 => ?_)
    · refine r_iconst E (q := 11) (v := 1) dX1_takesFormula_10 (by decide) rfl ?_
      refine r_goto E 15 dX1_takesFormula_11 (by decide) ?_
      exact hj1 _ (if_pos c1).symm
    · refine r_iload_n E (q := 6) 0 dX1_takesFormula_5 rfl rfl rfl ?_
      refine r_iconst E (q := 7) (v := 2) dX1_takesFormula_6 (by decide) rfl ?_
      refine r_icmp_ne E (q := 10) 14 dX1_takesFormula_7 (by decide) rfl (fun c2 => ?_) (fun c2 => ?_)
      · refine r_iconst E (q := 15) (v := 0) dX1_takesFormula_14 (by decide) rfl ?_
        exact hj1 _ ((if_neg c1).trans (if_neg c2)).symm
      · refine r_iconst E (q := 11) (v := 1) dX1_takesFormula_10 (by decide) rfl ?_
        refine r_goto E 15 dX1_takesFormula_11 (by decide) ?_
        exact hj1 _ ((if_neg c1).trans (if_pos c2)).symm
def fX1_has (V : Nat → Int32) (x : Int32) : Int32 := if x < 0 then 0 else (if V 1 ≤ x then 0 else 1)
theorem b_X1_has (V : Nat → Int32) (x : Int32) : fX1_has V x = 0 ∨ fX1_has V x = 1 := (b01 (Or.inl rfl) (b01 (Or.inl rfl) (Or.inr rfl)))
set_option maxRecDepth 100000 in
set_option maxHeartbeats 800000 in
theorem c_X1_has {l : Launch} {k : Kt} {ad : Nat → Nat} {G : Nat → Nat → Int32} {V : Nat → Int32} {n : Nat} (x : Int32) : CT l k yX1_has cX1_has 2 (some .boolean) 0 [.ref (ad 12), .int x] (WC k ad G V n) (eqI (fX1_has V x) (WC k ad G V n)) 0 0 := by
  refine ct_of (own := RX1) (lv0 := [(0, .ref (ad 12)), (1, .int x)]) (by decide) rfl (Nat.le_of_ble_eq_true rfl) rfl ?_
  rintro z rfl rfl hz - E T
  refine r_iload_n E (q := 1) 1 dX1_has_0 rfl rfl rfl ?_
  refine r_join 17 (if x < 0 then 0 else (if V 1 ≤ x then 0 else 1)) (rest := []) ?_ (fun hj1 => ?_)
  · exact r_zret E T (b01 (Or.inl rfl) (b01 (Or.inl rfl) (Or.inr rfl))) dX1_has_17 (eqI.mk (by unfold fX1_has; exact rfl) rfl)
  · refine r_if_lt E (q := 4) 16 dX1_has_1 (by decide) rfl (fun c1 => ?_) (fun c1 => ?_)
    · refine r_iconst E (q := 17) (v := 0) dX1_has_16 (by decide) rfl ?_
      exact hj1 _ (if_pos c1).symm
    · refine r_iload_n E (q := 5) 1 dX1_has_4 rfl rfl rfl ?_
      refine r_aload_n E (q := 6) 0 dX1_has_5 rfl rfl rfl ?_
      refine r_get E (q := 9) fX1_45 12 wc_12 rfl dX1_has_6 rfl ?_
      refine r_icmp_ge E (q := 12) 16 dX1_has_9 (by decide) rfl (fun c2 => ?_) (fun c2 => ?_)
      · refine r_iconst E (q := 17) (v := 0) dX1_has_16 (by decide) rfl ?_
        exact hj1 _ ((if_neg c1).trans (if_pos c2)).symm
      · refine r_iconst E (q := 13) (v := 1) dX1_has_12 (by decide) rfl ?_
        refine r_goto E 17 dX1_has_13 (by decide) ?_
        exact hj1 _ ((if_neg c1).trans (if_neg c2)).symm
def fX1_hasRoom (V : Nat → Int32) (more : Int32) : Int32 := if 60 < (V 1) + more then 0 else 1
theorem b_X1_hasRoom (V : Nat → Int32) (more : Int32) : fX1_hasRoom V more = 0 ∨ fX1_hasRoom V more = 1 := (b01 (Or.inl rfl) (Or.inr rfl))
set_option maxRecDepth 100000 in
set_option maxHeartbeats 800000 in
theorem c_X1_hasRoom {l : Launch} {k : Kt} {ad : Nat → Nat} {G : Nat → Nat → Int32} {V : Nat → Int32} {n : Nat} (more : Int32) : CT l k yX1_hasRoom cX1_hasRoom 2 (some .boolean) 0 [.ref (ad 12), .int more] (WC k ad G V n) (eqI (fX1_hasRoom V more) (WC k ad G V n)) 0 0 := by
  refine ct_of (own := RX1) (lv0 := [(0, .ref (ad 12)), (1, .int more)]) (by decide) rfl (Nat.le_of_ble_eq_true rfl) rfl ?_
  rintro z rfl rfl hz - E T
  refine r_aload_n E (q := 1) 0 dX1_hasRoom_0 rfl rfl rfl ?_
  refine r_get E (q := 4) fX1_45 12 wc_12 rfl dX1_hasRoom_1 rfl ?_
  refine r_iload_n E (q := 5) 1 dX1_hasRoom_4 rfl rfl rfl ?_
  refine r_iadd E (q := 6) dX1_hasRoom_5 rfl ?_
  refine r_bipush E (q := 8) (v := 60) dX1_hasRoom_6 (by decide) rfl ?_
  refine r_join 16 (if 60 < (V 1) + more then 0 else 1) (rest := []) ?_ (fun hj1 => ?_)
  · exact r_zret E T (b01 (Or.inl rfl) (Or.inr rfl)) dX1_hasRoom_16 (eqI.mk (by unfold fX1_hasRoom; exact rfl) rfl)
  · refine r_icmp_gt E (q := 11) 15 dX1_hasRoom_8 (by decide) rfl (fun c1 => ?_) (fun c1 => ?_)
    · refine r_iconst E (q := 16) (v := 0) dX1_hasRoom_15 (by decide) rfl ?_
      exact hj1 _ (if_pos c1).symm
    · refine r_iconst E (q := 12) (v := 1) dX1_hasRoom_11 (by decide) rfl ?_
      refine r_goto E 16 dX1_hasRoom_12 (by decide) ?_
      exact hj1 _ (if_neg c1).symm
def fX1_isValue (V : Nat → Int32) (kind : Int32) (m : Int32) (v : Int32) : Int32 := if kind = 1 then (fX0_has V v) else (if kind = 2 then (fX0_has V v) else (if kind = 3 then (fX5_isSet v) else (if kind = 4 then (fX5_isSet v) else (if kind = 5 then 1 else (if kind = 6 then (if fX5_isMember v = 0 then 0 else (if v = m then 0 else 1)) else (if kind = 7 then 1 else (if kind = 8 then (if v < 0 then 0 else (if 100 < v then 0 else 1)) else 1)))))))
theorem b_X1_isValue (V : Nat → Int32) (kind : Int32) (m : Int32) (v : Int32) : fX1_isValue V kind m v = 0 ∨ fX1_isValue V kind m v = 1 := (b01 (b_X0_has _ _) (b01 (b_X0_has _ _) (b01 (b_X5_isSet _) (b01 (b_X5_isSet _) (b01 (Or.inr rfl) (b01 (b01 (Or.inl rfl) (b01 (Or.inl rfl) (Or.inr rfl))) (b01 (Or.inr rfl) (b01 (b01 (Or.inl rfl) (b01 (Or.inl rfl) (Or.inr rfl))) (Or.inr rfl)))))))))
set_option maxRecDepth 100000 in
set_option maxHeartbeats 800000 in
theorem c_X1_isValue {l : Launch} {k : Kt} {ad : Nat → Nat} {G : Nat → Nat → Int32} {V : Nat → Int32} {n : Nat} (kind : Int32) (m : Int32) (v : Int32) : CT l k yX1_isValue cX1_isValue 4 (some .boolean) 1 [.ref (ad 12), .int kind, .int m, .int v] (WC k ad G V n) (eqI (fX1_isValue V kind m v) (WC k ad G V n)) 0 0 := by
  refine ct_of (own := RX1) (lv0 := [(0, .ref (ad 12)), (1, .int kind), (2, .int m), (3, .int v)]) (by decide) rfl (Nat.le_of_ble_eq_true rfl) rfl ?_
  rintro z rfl rfl hz - E T
  refine r_iload_n E (q := 1) 1 dX1_isValue_0 rfl rfl rfl ?_
  by_cases c1 : kind = 1
  · refine r_tabIn E 1 c1 48 dX1_isValue_1 (by decide) (by rfl) (by decide) ?_
    refine r_aload_n E (q := 49) 0 dX1_isValue_48 rfl rfl rfl ?_
    refine r_get E (q := 52) fX1_41 12 wc_12 rfl dX1_isValue_49 rfl ?_
    refine r_iload_n E (q := 53) 3 dX1_isValue_52 rfl rfl rfl ?_
    refine rVi E (q := 56) cvX1_70 T.rr 5 wc_5 rfl [.int v] (c_X0_has v) (by decide) rfl rfl (Nat.le_of_ble_eq_true rfl) ⟨(Nat.le_of_ble_eq_true rfl), (Nat.le_of_ble_eq_true rfl)⟩ dX1_isValue_53 rfl ?_
    exact r_zret E T (b_X0_has _ _) dX1_isValue_56 (eqI.mk (by unfold fX1_isValue; exact (if_pos c1).symm) rfl)
  · by_cases c2 : kind = 2
    · refine r_tabIn E 2 c2 48 dX1_isValue_1 (by decide) (by rfl) (by decide) ?_
      refine r_aload_n E (q := 49) 0 dX1_isValue_48 rfl rfl rfl ?_
      refine r_get E (q := 52) fX1_41 12 wc_12 rfl dX1_isValue_49 rfl ?_
      refine r_iload_n E (q := 53) 3 dX1_isValue_52 rfl rfl rfl ?_
      refine rVi E (q := 56) cvX1_70 T.rr 5 wc_5 rfl [.int v] (c_X0_has v) (by decide) rfl rfl (Nat.le_of_ble_eq_true rfl) ⟨(Nat.le_of_ble_eq_true rfl), (Nat.le_of_ble_eq_true rfl)⟩ dX1_isValue_53 rfl ?_
      exact r_zret E T (b_X0_has _ _) dX1_isValue_56 (eqI.mk (by unfold fX1_isValue; exact ((if_neg c1).trans (if_pos c2)).symm) rfl)
    · by_cases c3 : kind = 3
      · refine r_tabIn E 3 c3 57 dX1_isValue_1 (by decide) (by rfl) (by decide) ?_
        refine r_iload_n E (q := 58) 3 dX1_isValue_57 rfl rfl rfl ?_
        refine rSNi E (q := 61) cnX1_73 T.rr [.int v] (c_X5_isSet v) (by decide) rfl rfl (Nat.le_of_ble_eq_true rfl) ⟨(Nat.le_of_ble_eq_true rfl), (Nat.le_of_ble_eq_true rfl)⟩ dX1_isValue_58 rfl ?_
        exact r_zret E T (b_X5_isSet _) dX1_isValue_61 (eqI.mk (by unfold fX1_isValue; exact ((if_neg c1).trans ((if_neg c2).trans (if_pos c3))).symm) rfl)
      · by_cases c4 : kind = 4
        · refine r_tabIn E 4 c4 57 dX1_isValue_1 (by decide) (by rfl) (by decide) ?_
          refine r_iload_n E (q := 58) 3 dX1_isValue_57 rfl rfl rfl ?_
          refine rSNi E (q := 61) cnX1_73 T.rr [.int v] (c_X5_isSet v) (by decide) rfl rfl (Nat.le_of_ble_eq_true rfl) ⟨(Nat.le_of_ble_eq_true rfl), (Nat.le_of_ble_eq_true rfl)⟩ dX1_isValue_58 rfl ?_
          exact r_zret E T (b_X5_isSet _) dX1_isValue_61 (eqI.mk (by unfold fX1_isValue; exact ((if_neg c1).trans ((if_neg c2).trans ((if_neg c3).trans (if_pos c4)))).symm) rfl)
        · by_cases c5 : kind = 5
          · refine r_tabIn E 5 c5 96 dX1_isValue_1 (by decide) (by rfl) (by decide) ?_
            refine r_iconst E (q := 97) (v := 1) dX1_isValue_96 (by decide) rfl ?_
            exact r_zret E T (Or.inr rfl) dX1_isValue_97 (eqI.mk (by unfold fX1_isValue; exact ((if_neg c1).trans ((if_neg c2).trans ((if_neg c3).trans ((if_neg c4).trans (if_pos c5))))).symm) rfl)
          · by_cases c6 : kind = 6
            · refine r_tabIn E 6 c6 62 dX1_isValue_1 (by decide) (by rfl) (by decide) ?_
              refine r_iload_n E (q := 63) 3 dX1_isValue_62 rfl rfl rfl ?_
              refine rSNi E (q := 66) cnX1_61 T.rr [.int v] (c_X5_isMember v) (by decide) rfl rfl (Nat.le_of_ble_eq_true rfl) ⟨(Nat.le_of_ble_eq_true rfl), (Nat.le_of_ble_eq_true rfl)⟩ dX1_isValue_63 rfl ?_
              refine r_join 79 (if fX5_isMember v = 0 then 0 else (if v = m then 0 else 1)) (rest := []) ?_ (fun hj1 => ?_)
              · exact r_zret E T (b01 (Or.inl rfl) (b01 (Or.inl rfl) (Or.inr rfl))) dX1_isValue_79 (eqI.mk (by unfold fX1_isValue; exact ((if_neg c1).trans ((if_neg c2).trans ((if_neg c3).trans ((if_neg c4).trans ((if_neg c5).trans (if_pos c6)))))).symm) rfl)
              · refine r_if_eq E (q := 69) 78 dX1_isValue_66 (by decide) rfl (fun c7 => ?_) (fun c7 => ?_)
                · refine r_iconst E (q := 79) (v := 0) dX1_isValue_78 (by decide) rfl ?_
                  exact hj1 _ (if_pos c7).symm
                · refine r_iload_n E (q := 70) 3 dX1_isValue_69 rfl rfl rfl ?_
                  refine r_iload_n E (q := 71) 2 dX1_isValue_70 rfl rfl rfl ?_
                  refine r_icmp_eq E (q := 74) 78 dX1_isValue_71 (by decide) rfl (fun c8 => ?_) (fun c8 => ?_)
                  · refine r_iconst E (q := 79) (v := 0) dX1_isValue_78 (by decide) rfl ?_
                    exact hj1 _ ((if_neg c7).trans (if_pos c8)).symm
                  · refine r_iconst E (q := 75) (v := 1) dX1_isValue_74 (by decide) rfl ?_
                    refine r_goto E 79 dX1_isValue_75 (by decide) ?_
                    exact hj1 _ ((if_neg c7).trans (if_neg c8)).symm
            · by_cases c9 : kind = 7
              · refine r_tabIn E 7 c9 96 dX1_isValue_1 (by decide) (by rfl) (by decide) ?_
                refine r_iconst E (q := 97) (v := 1) dX1_isValue_96 (by decide) rfl ?_
                exact r_zret E T (Or.inr rfl) dX1_isValue_97 (eqI.mk (by unfold fX1_isValue; exact ((if_neg c1).trans ((if_neg c2).trans ((if_neg c3).trans ((if_neg c4).trans ((if_neg c5).trans ((if_neg c6).trans (if_pos c9))))))).symm) rfl)
              · by_cases c10 : kind = 8
                · refine r_tabIn E 8 c10 80 dX1_isValue_1 (by decide) (by rfl) (by decide) ?_
                  refine r_iload_n E (q := 81) 3 dX1_isValue_80 rfl rfl rfl ?_
                  refine r_join 95 (if v < 0 then 0 else (if 100 < v then 0 else 1)) (rest := []) ?_ (fun hj2 => ?_)
                  · exact r_zret E T (b01 (Or.inl rfl) (b01 (Or.inl rfl) (Or.inr rfl))) dX1_isValue_95 (eqI.mk (by unfold fX1_isValue; exact ((if_neg c1).trans ((if_neg c2).trans ((if_neg c3).trans ((if_neg c4).trans ((if_neg c5).trans ((if_neg c6).trans ((if_neg c9).trans (if_pos c10)))))))).symm) rfl)
                  · refine r_if_lt E (q := 84) 94 dX1_isValue_81 (by decide) rfl (fun c11 => ?_) (fun c11 => ?_)
                    · refine r_iconst E (q := 95) (v := 0) dX1_isValue_94 (by decide) rfl ?_
                      exact hj2 _ (if_pos c11).symm
                    · refine r_iload_n E (q := 85) 3 dX1_isValue_84 rfl rfl rfl ?_
                      refine r_bipush E (q := 87) (v := 100) dX1_isValue_85 (by decide) rfl ?_
                      refine r_icmp_gt E (q := 90) 94 dX1_isValue_87 (by decide) rfl (fun c12 => ?_) (fun c12 => ?_)
                      · refine r_iconst E (q := 95) (v := 0) dX1_isValue_94 (by decide) rfl ?_
                        exact hj2 _ ((if_neg c11).trans (if_pos c12)).symm
                      · refine r_iconst E (q := 91) (v := 1) dX1_isValue_90 (by decide) rfl ?_
                        refine r_goto E 95 dX1_isValue_91 (by decide) ?_
                        exact hj2 _ ((if_neg c11).trans (if_neg c12)).symm
                · refine r_tabOut E 96 dX1_isValue_1 (sw_out (fun j hj e => by match j with | 0 => exact c1 (e.trans (by decide)) | 1 => exact c2 (e.trans (by decide)) | 2 => exact c3 (e.trans (by decide)) | 3 => exact c4 (e.trans (by decide)) | 4 => exact c5 (e.trans (by decide)) | 5 => exact c6 (e.trans (by decide)) | 6 => exact c9 (e.trans (by decide)) | 7 => exact c10 (e.trans (by decide)) | j + 8 => omega)) (by decide) ?_
                  refine r_iconst E (q := 97) (v := 1) dX1_isValue_96 (by decide) rfl ?_
                  exact r_zret E T (Or.inr rfl) dX1_isValue_97 (eqI.mk (by unfold fX1_isValue; exact ((if_neg c1).trans ((if_neg c2).trans ((if_neg c3).trans ((if_neg c4).trans ((if_neg c5).trans ((if_neg c6).trans ((if_neg c9).trans (if_neg c10)))))))).symm) rfl)
def fX1_isAsTold (V : Nat → Int32) (kind : Int32) (a : Int32) (b : Int32) (m : Int32) (v : Int32) : Int32 := if kind < 0 then 0 else (if kind < 9 then (if kind = 0 then (if a < 0 then 0 else (if 4 ≤ a then 0 else 1)) else (if fX1_has V a = 0 then 0 else (if fX1_takesRight kind = 0 then (if fX1_takesMember kind = 0 then (if fX1_isValue V kind m v = 0 then 0 else 1) else (if fX5_isMember m = 0 then 0 else (if fX1_isValue V kind m v = 0 then 0 else 1))) else (if fX1_has V b = 0 then 0 else (if fX1_takesMember kind = 0 then (if fX1_isValue V kind m v = 0 then 0 else 1) else (if fX5_isMember m = 0 then 0 else (if fX1_isValue V kind m v = 0 then 0 else 1))))))) else 0)
theorem b_X1_isAsTold (V : Nat → Int32) (kind : Int32) (a : Int32) (b : Int32) (m : Int32) (v : Int32) : fX1_isAsTold V kind a b m v = 0 ∨ fX1_isAsTold V kind a b m v = 1 := (b01 (Or.inl rfl) (b01 (b01 (b01 (Or.inl rfl) (b01 (Or.inl rfl) (Or.inr rfl))) (b01 (Or.inl rfl) (b01 (b01 (b01 (Or.inl rfl) (Or.inr rfl)) (b01 (Or.inl rfl) (b01 (Or.inl rfl) (Or.inr rfl)))) (b01 (Or.inl rfl) (b01 (b01 (Or.inl rfl) (Or.inr rfl)) (b01 (Or.inl rfl) (b01 (Or.inl rfl) (Or.inr rfl)))))))) (Or.inl rfl)))
set_option maxRecDepth 100000 in
set_option maxHeartbeats 800000 in
theorem c_X1_isAsTold {l : Launch} {k : Kt} {ad : Nat → Nat} {G : Nat → Nat → Int32} {V : Nat → Int32} {n : Nat} (kind : Int32) (a : Int32) (b : Int32) (m : Int32) (v : Int32) : CT l k yX1_isAsTold cX1_isAsTold 6 (some .boolean) 2 [.ref (ad 12), .int kind, .int a, .int b, .int m, .int v] (WC k ad G V n) (eqI (fX1_isAsTold V kind a b m v) (WC k ad G V n)) 0 0 := by
  refine ct_of (own := RX1) (lv0 := [(0, .ref (ad 12)), (1, .int kind), (2, .int a), (3, .int b), (4, .int m), (5, .int v)]) (by decide) rfl (Nat.le_of_ble_eq_true rfl) rfl ?_
  rintro z rfl rfl hz - E T
  refine r_iload_n E (q := 1) 1 dX1_isAsTold_0 rfl rfl rfl ?_
  refine r_if_lt E (q := 4) 10 dX1_isAsTold_1 (by decide) rfl (fun c1 => ?_) (fun c1 => ?_)
  · refine r_iconst E (q := 11) (v := 0) dX1_isAsTold_10 (by decide) rfl ?_
    exact r_zret E T (Or.inl rfl) dX1_isAsTold_11 (eqI.mk (by unfold fX1_isAsTold; exact (if_pos c1).symm) rfl)
  · refine r_iload_n E (q := 5) 1 dX1_isAsTold_4 rfl rfl rfl ?_
    refine r_bipush E (q := 7) (v := 9) dX1_isAsTold_5 (by decide) rfl ?_
    refine r_icmp_lt E (q := 10) 12 dX1_isAsTold_7 (by decide) rfl (fun c2 => ?_) (fun c2 => ?_)
    · refine r_iload_n E (q := 13) 1 dX1_isAsTold_12 rfl rfl rfl ?_
      refine r_if_ne E (q := 16) 31 dX1_isAsTold_13 (by decide) rfl (fun c3 => ?_) (fun c3 => ?_)
      · refine r_aload_n E (q := 32) 0 dX1_isAsTold_31 rfl rfl rfl ?_
        refine r_iload_n E (q := 33) 2 dX1_isAsTold_32 rfl rfl rfl ?_
        refine rVi E (q := 36) cvX1_51 T.rr 12 wc_12 rfl [.int a] (c_X1_has a) (by decide) rfl rfl (Nat.le_of_ble_eq_true rfl) ⟨(Nat.le_of_ble_eq_true rfl), (Nat.le_of_ble_eq_true rfl)⟩ dX1_isAsTold_33 rfl ?_
        refine r_join 86 (if fX1_has V a = 0 then 0 else (if fX1_takesRight kind = 0 then (if fX1_takesMember kind = 0 then (if fX1_isValue V kind m v = 0 then 0 else 1) else (if fX5_isMember m = 0 then 0 else (if fX1_isValue V kind m v = 0 then 0 else 1))) else (if fX1_has V b = 0 then 0 else (if fX1_takesMember kind = 0 then (if fX1_isValue V kind m v = 0 then 0 else 1) else (if fX5_isMember m = 0 then 0 else (if fX1_isValue V kind m v = 0 then 0 else 1)))))) (rest := []) ?_ (fun hj1 => ?_)
        · exact r_zret E T (b01 (Or.inl rfl) (b01 (b01 (b01 (Or.inl rfl) (Or.inr rfl)) (b01 (Or.inl rfl) (b01 (Or.inl rfl) (Or.inr rfl)))) (b01 (Or.inl rfl) (b01 (b01 (Or.inl rfl) (Or.inr rfl)) (b01 (Or.inl rfl) (b01 (Or.inl rfl) (Or.inr rfl))))))) dX1_isAsTold_86 (eqI.mk (by unfold fX1_isAsTold; exact ((if_neg c1).trans ((if_pos c2).trans (if_neg c3))).symm) rfl)
        · refine r_if_eq E (q := 39) 85 dX1_isAsTold_36 (by decide) rfl (fun c4 => ?_) (fun c4 => ?_)
          · refine r_iconst E (q := 86) (v := 0) dX1_isAsTold_85 (by decide) rfl ?_
            exact hj1 _ (if_pos c4).symm
          · refine r_iload_n E (q := 40) 1 dX1_isAsTold_39 rfl rfl rfl ?_
            refine rSi E (q := 43) csX1_55 T.rr [.int kind] (c_X1_takesRight kind) (by decide) rfl rfl (Nat.le_of_ble_eq_true rfl) ⟨(Nat.le_of_ble_eq_true rfl), (Nat.le_of_ble_eq_true rfl)⟩ dX1_isAsTold_40 rfl ?_
            refine r_if_eq E (q := 46) 54 dX1_isAsTold_43 (by decide) rfl (fun c5 => ?_) (fun c5 => ?_)
            · refine r_iload_n E (q := 55) 1 dX1_isAsTold_54 rfl rfl rfl ?_
              refine rSi E (q := 58) csX1_58 T.rr [.int kind] (c_X1_takesMember kind) (by decide) rfl rfl (Nat.le_of_ble_eq_true rfl) ⟨(Nat.le_of_ble_eq_true rfl), (Nat.le_of_ble_eq_true rfl)⟩ dX1_isAsTold_55 rfl ?_
              refine r_if_eq E (q := 61) 69 dX1_isAsTold_58 (by decide) rfl (fun c6 => ?_) (fun c6 => ?_)
              · refine r_aload_n E (q := 70) 0 dX1_isAsTold_69 rfl rfl rfl ?_
                refine r_iload_n E (q := 71) 1 dX1_isAsTold_70 rfl rfl rfl ?_
                refine r_iload E (q := 73) 4 dX1_isAsTold_71 rfl rfl ?_
                refine r_iload E (q := 75) 5 dX1_isAsTold_73 rfl rfl ?_
                refine rVi E (q := 78) cvX1_66 T.rr 12 wc_12 rfl [.int kind, .int m, .int v] (c_X1_isValue kind m v) (by decide) rfl rfl (Nat.le_of_ble_eq_true rfl) ⟨(Nat.le_of_ble_eq_true rfl), (Nat.le_of_ble_eq_true rfl)⟩ dX1_isAsTold_75 rfl ?_
                refine r_if_eq E (q := 81) 85 dX1_isAsTold_78 (by decide) rfl (fun c7 => ?_) (fun c7 => ?_)
                · refine r_iconst E (q := 86) (v := 0) dX1_isAsTold_85 (by decide) rfl ?_
                  exact hj1 _ ((if_neg c4).trans ((if_pos c5).trans ((if_pos c6).trans (if_pos c7)))).symm
                · refine r_iconst E (q := 82) (v := 1) dX1_isAsTold_81 (by decide) rfl ?_
                  refine r_goto E 86 dX1_isAsTold_82 (by decide) ?_
                  exact hj1 _ ((if_neg c4).trans ((if_pos c5).trans ((if_pos c6).trans (if_neg c7)))).symm
              · refine r_iload E (q := 63) 4 dX1_isAsTold_61 rfl rfl ?_
                refine rSNi E (q := 66) cnX1_61 T.rr [.int m] (c_X5_isMember m) (by decide) rfl rfl (Nat.le_of_ble_eq_true rfl) ⟨(Nat.le_of_ble_eq_true rfl), (Nat.le_of_ble_eq_true rfl)⟩ dX1_isAsTold_63 rfl ?_
                refine r_if_eq E (q := 69) 85 dX1_isAsTold_66 (by decide) rfl (fun c8 => ?_) (fun c8 => ?_)
                · refine r_iconst E (q := 86) (v := 0) dX1_isAsTold_85 (by decide) rfl ?_
                  exact hj1 _ ((if_neg c4).trans ((if_pos c5).trans ((if_neg c6).trans (if_pos c8)))).symm
                · refine r_aload_n E (q := 70) 0 dX1_isAsTold_69 rfl rfl rfl ?_
                  refine r_iload_n E (q := 71) 1 dX1_isAsTold_70 rfl rfl rfl ?_
                  refine r_iload E (q := 73) 4 dX1_isAsTold_71 rfl rfl ?_
                  refine r_iload E (q := 75) 5 dX1_isAsTold_73 rfl rfl ?_
                  refine rVi E (q := 78) cvX1_66 T.rr 12 wc_12 rfl [.int kind, .int m, .int v] (c_X1_isValue kind m v) (by decide) rfl rfl (Nat.le_of_ble_eq_true rfl) ⟨(Nat.le_of_ble_eq_true rfl), (Nat.le_of_ble_eq_true rfl)⟩ dX1_isAsTold_75 rfl ?_
                  refine r_if_eq E (q := 81) 85 dX1_isAsTold_78 (by decide) rfl (fun c9 => ?_) (fun c9 => ?_)
                  · refine r_iconst E (q := 86) (v := 0) dX1_isAsTold_85 (by decide) rfl ?_
                    exact hj1 _ ((if_neg c4).trans ((if_pos c5).trans ((if_neg c6).trans ((if_neg c8).trans (if_pos c9))))).symm
                  · refine r_iconst E (q := 82) (v := 1) dX1_isAsTold_81 (by decide) rfl ?_
                    refine r_goto E 86 dX1_isAsTold_82 (by decide) ?_
                    exact hj1 _ ((if_neg c4).trans ((if_pos c5).trans ((if_neg c6).trans ((if_neg c8).trans (if_neg c9))))).symm
            · refine r_aload_n E (q := 47) 0 dX1_isAsTold_46 rfl rfl rfl ?_
              refine r_iload_n E (q := 48) 3 dX1_isAsTold_47 rfl rfl rfl ?_
              refine rVi E (q := 51) cvX1_51 T.rr 12 wc_12 rfl [.int b] (c_X1_has b) (by decide) rfl rfl (Nat.le_of_ble_eq_true rfl) ⟨(Nat.le_of_ble_eq_true rfl), (Nat.le_of_ble_eq_true rfl)⟩ dX1_isAsTold_48 rfl ?_
              refine r_if_eq E (q := 54) 85 dX1_isAsTold_51 (by decide) rfl (fun c10 => ?_) (fun c10 => ?_)
              · refine r_iconst E (q := 86) (v := 0) dX1_isAsTold_85 (by decide) rfl ?_
                exact hj1 _ ((if_neg c4).trans ((if_neg c5).trans (if_pos c10))).symm
              · refine r_iload_n E (q := 55) 1 dX1_isAsTold_54 rfl rfl rfl ?_
                refine rSi E (q := 58) csX1_58 T.rr [.int kind] (c_X1_takesMember kind) (by decide) rfl rfl (Nat.le_of_ble_eq_true rfl) ⟨(Nat.le_of_ble_eq_true rfl), (Nat.le_of_ble_eq_true rfl)⟩ dX1_isAsTold_55 rfl ?_
                refine r_if_eq E (q := 61) 69 dX1_isAsTold_58 (by decide) rfl (fun c11 => ?_) (fun c11 => ?_)
                · refine r_aload_n E (q := 70) 0 dX1_isAsTold_69 rfl rfl rfl ?_
                  refine r_iload_n E (q := 71) 1 dX1_isAsTold_70 rfl rfl rfl ?_
                  refine r_iload E (q := 73) 4 dX1_isAsTold_71 rfl rfl ?_
                  refine r_iload E (q := 75) 5 dX1_isAsTold_73 rfl rfl ?_
                  refine rVi E (q := 78) cvX1_66 T.rr 12 wc_12 rfl [.int kind, .int m, .int v] (c_X1_isValue kind m v) (by decide) rfl rfl (Nat.le_of_ble_eq_true rfl) ⟨(Nat.le_of_ble_eq_true rfl), (Nat.le_of_ble_eq_true rfl)⟩ dX1_isAsTold_75 rfl ?_
                  refine r_if_eq E (q := 81) 85 dX1_isAsTold_78 (by decide) rfl (fun c12 => ?_) (fun c12 => ?_)
                  · refine r_iconst E (q := 86) (v := 0) dX1_isAsTold_85 (by decide) rfl ?_
                    exact hj1 _ ((if_neg c4).trans ((if_neg c5).trans ((if_neg c10).trans ((if_pos c11).trans (if_pos c12))))).symm
                  · refine r_iconst E (q := 82) (v := 1) dX1_isAsTold_81 (by decide) rfl ?_
                    refine r_goto E 86 dX1_isAsTold_82 (by decide) ?_
                    exact hj1 _ ((if_neg c4).trans ((if_neg c5).trans ((if_neg c10).trans ((if_pos c11).trans (if_neg c12))))).symm
                · refine r_iload E (q := 63) 4 dX1_isAsTold_61 rfl rfl ?_
                  refine rSNi E (q := 66) cnX1_61 T.rr [.int m] (c_X5_isMember m) (by decide) rfl rfl (Nat.le_of_ble_eq_true rfl) ⟨(Nat.le_of_ble_eq_true rfl), (Nat.le_of_ble_eq_true rfl)⟩ dX1_isAsTold_63 rfl ?_
                  refine r_if_eq E (q := 69) 85 dX1_isAsTold_66 (by decide) rfl (fun c13 => ?_) (fun c13 => ?_)
                  · refine r_iconst E (q := 86) (v := 0) dX1_isAsTold_85 (by decide) rfl ?_
                    exact hj1 _ ((if_neg c4).trans ((if_neg c5).trans ((if_neg c10).trans ((if_neg c11).trans (if_pos c13))))).symm
                  · refine r_aload_n E (q := 70) 0 dX1_isAsTold_69 rfl rfl rfl ?_
                    refine r_iload_n E (q := 71) 1 dX1_isAsTold_70 rfl rfl rfl ?_
                    refine r_iload E (q := 73) 4 dX1_isAsTold_71 rfl rfl ?_
                    refine r_iload E (q := 75) 5 dX1_isAsTold_73 rfl rfl ?_
                    refine rVi E (q := 78) cvX1_66 T.rr 12 wc_12 rfl [.int kind, .int m, .int v] (c_X1_isValue kind m v) (by decide) rfl rfl (Nat.le_of_ble_eq_true rfl) ⟨(Nat.le_of_ble_eq_true rfl), (Nat.le_of_ble_eq_true rfl)⟩ dX1_isAsTold_75 rfl ?_
                    refine r_if_eq E (q := 81) 85 dX1_isAsTold_78 (by decide) rfl (fun c14 => ?_) (fun c14 => ?_)
                    · refine r_iconst E (q := 86) (v := 0) dX1_isAsTold_85 (by decide) rfl ?_
                      exact hj1 _ ((if_neg c4).trans ((if_neg c5).trans ((if_neg c10).trans ((if_neg c11).trans ((if_neg c13).trans (if_pos c14)))))).symm
                    · refine r_iconst E (q := 82) (v := 1) dX1_isAsTold_81 (by decide) rfl ?_
                      refine r_goto E 86 dX1_isAsTold_82 (by decide) ?_
                      exact hj1 _ ((if_neg c4).trans ((if_neg c5).trans ((if_neg c10).trans ((if_neg c11).trans ((if_neg c13).trans (if_neg c14)))))).symm
      · refine r_iload_n E (q := 17) 2 dX1_isAsTold_16 rfl rfl rfl ?_
        refine r_join 30 (if a < 0 then 0 else (if 4 ≤ a then 0 else 1)) (rest := []) ?_ (fun hj2 => ?_)
        · exact r_zret E T (b01 (Or.inl rfl) (b01 (Or.inl rfl) (Or.inr rfl))) dX1_isAsTold_30 (eqI.mk (by unfold fX1_isAsTold; exact ((if_neg c1).trans ((if_pos c2).trans (if_pos c3))).symm) rfl)
        · refine r_if_lt E (q := 20) 29 dX1_isAsTold_17 (by decide) rfl (fun c15 => ?_) (fun c15 => ?_)
          · refine r_iconst E (q := 30) (v := 0) dX1_isAsTold_29 (by decide) rfl ?_
            exact hj2 _ (if_pos c15).symm
          · refine r_iload_n E (q := 21) 2 dX1_isAsTold_20 rfl rfl rfl ?_
            refine r_iconst E (q := 22) (v := 4) dX1_isAsTold_21 (by decide) rfl ?_
            refine r_icmp_ge E (q := 25) 29 dX1_isAsTold_22 (by decide) rfl (fun c16 => ?_) (fun c16 => ?_)
            · refine r_iconst E (q := 30) (v := 0) dX1_isAsTold_29 (by decide) rfl ?_
              exact hj2 _ ((if_neg c15).trans (if_pos c16)).symm
            · refine r_iconst E (q := 26) (v := 1) dX1_isAsTold_25 (by decide) rfl ?_
              refine r_goto E 30 dX1_isAsTold_26 (by decide) ?_
              exact hj2 _ ((if_neg c15).trans (if_neg c16)).symm
    · refine r_iconst E (q := 11) (v := 0) dX1_isAsTold_10 (by decide) rfl ?_
      exact r_zret E T (Or.inl rfl) dX1_isAsTold_11 (eqI.mk (by unfold fX1_isAsTold; exact ((if_neg c1).trans (if_neg c2)).symm) rfl)
theorem tr_of {kind : Int32} (h : ¬ fX1_takesRight kind = 0) : kind = 4 ∨ kind = 5 := by
  unfold fX1_takesRight at h
  by_cases c : kind = 4
  · exact Or.inl c
  · by_cases c5 : kind = 5
    · exact Or.inr c5
    · rw [if_neg c, if_neg c5] at h; exact absurd rfl h
theorem tf_of {kind : Int32} (h : ¬ fX1_takesFormula kind = 0) : kind = 1 ∨ kind = 2 := by
  unfold fX1_takesFormula at h
  by_cases c : kind = 1
  · exact Or.inl c
  · by_cases c5 : kind = 2
    · exact Or.inr c5
    · rw [if_neg c, if_neg c5] at h; exact absurd rfl h
def fX1_boundOf (G : Nat → Nat → Int32) (kind : Int32) (a : Int32) (b : Int32) (v : Int32) : Int32 := if kind = 0 then 6 else (if kind = 1 then (G 18 (ix a)) else (if kind = 2 then (G 18 (ix a)) else (if kind = 3 then (G 18 (ix a)) else (if kind = 4 then ((G 18 (ix a)) * (G 18 (ix b))) else (if kind = 5 then ((G 18 (ix a)) + (G 18 (ix b))) else (if kind = 6 then (G 18 (ix a)) else (if kind = 7 then (G 18 (ix a)) else (if kind = 8 then (if G 18 (ix a) < v then G 18 (ix a) else v) else (G 18 (ix a))))))))))
set_option maxRecDepth 100000 in
set_option maxHeartbeats 800000 in
theorem c_X1_boundOf {l : Launch} {k : Kt} {ad : Nat → Nat} {G : Nat → Nat → Int32} {V : Nat → Int32} {n : Nat} (kind : Int32) (a : Int32) (b : Int32) (v : Int32) (ha : ¬ kind = 0 → vp_in a 60) (hb : kind = 4 ∨ kind = 5 → vp_in b 60) : CT l k yX1_boundOf cX1_boundOf 5 (some .int) 1 [.ref (ad 12), .int kind, .int a, .int b, .int v] (WC k ad G V n) (eqI (fX1_boundOf G kind a b v) (WC k ad G V n)) 0 0 := by
  refine ct_of (own := RX1) (lv0 := [(0, .ref (ad 12)), (1, .int kind), (2, .int a), (3, .int b), (4, .int v)]) (by decide) rfl (Nat.le_of_ble_eq_true rfl) rfl ?_
  rintro z rfl rfl hz - E T
  refine r_iload_n E (q := 1) 1 dX1_boundOf_0 rfl rfl rfl ?_
  by_cases c1 : kind = 0
  · refine r_tabIn E 0 c1 52 dX1_boundOf_1 (by decide) (by rfl) (by decide) ?_
    refine r_bipush E (q := 54) (v := 6) dX1_boundOf_52 (by decide) rfl ?_
    exact r_iret E T dX1_boundOf_54 (eqI.mk (by unfold fX1_boundOf; exact (if_pos c1).symm) rfl)
  · by_cases c2 : kind = 1
    · refine r_tabIn E 1 c2 95 dX1_boundOf_1 (by decide) (by rfl) (by decide) ?_
      refine r_aload_n E (q := 96) 0 dX1_boundOf_95 rfl rfl rfl ?_
      refine r_get E (q := 99) fX1_25 12 wc_12 rfl dX1_boundOf_96 rfl ?_
      refine r_iload_n E (q := 100) 2 dX1_boundOf_99 rfl rfl rfl ?_
      refine r_iald E (q := 101) 18 wc_18 (by first | exact ha (by assumption) | exact hb (Or.inl (by assumption)) | exact hb (Or.inr (by assumption)) | exact hb (tr_of (by assumption)) | exact hv (tf_of (by assumption))) dX1_boundOf_100 rfl ?_
      exact r_iret E T dX1_boundOf_101 (eqI.mk (by unfold fX1_boundOf; exact ((if_neg c1).trans (if_pos c2)).symm) rfl)
    · by_cases c3 : kind = 2
      · refine r_tabIn E 2 c3 95 dX1_boundOf_1 (by decide) (by rfl) (by decide) ?_
        refine r_aload_n E (q := 96) 0 dX1_boundOf_95 rfl rfl rfl ?_
        refine r_get E (q := 99) fX1_25 12 wc_12 rfl dX1_boundOf_96 rfl ?_
        refine r_iload_n E (q := 100) 2 dX1_boundOf_99 rfl rfl rfl ?_
        refine r_iald E (q := 101) 18 wc_18 (by first | exact ha (by assumption) | exact hb (Or.inl (by assumption)) | exact hb (Or.inr (by assumption)) | exact hb (tr_of (by assumption)) | exact hv (tf_of (by assumption))) dX1_boundOf_100 rfl ?_
        exact r_iret E T dX1_boundOf_101 (eqI.mk (by unfold fX1_boundOf; exact ((if_neg c1).trans ((if_neg c2).trans (if_pos c3))).symm) rfl)
      · by_cases c4 : kind = 3
        · refine r_tabIn E 3 c4 95 dX1_boundOf_1 (by decide) (by rfl) (by decide) ?_
          refine r_aload_n E (q := 96) 0 dX1_boundOf_95 rfl rfl rfl ?_
          refine r_get E (q := 99) fX1_25 12 wc_12 rfl dX1_boundOf_96 rfl ?_
          refine r_iload_n E (q := 100) 2 dX1_boundOf_99 rfl rfl rfl ?_
          refine r_iald E (q := 101) 18 wc_18 (by first | exact ha (by assumption) | exact hb (Or.inl (by assumption)) | exact hb (Or.inr (by assumption)) | exact hb (tr_of (by assumption)) | exact hv (tf_of (by assumption))) dX1_boundOf_100 rfl ?_
          exact r_iret E T dX1_boundOf_101 (eqI.mk (by unfold fX1_boundOf; exact ((if_neg c1).trans ((if_neg c2).trans ((if_neg c3).trans (if_pos c4)))).symm) rfl)
        · by_cases c5 : kind = 4
          · refine r_tabIn E 4 c5 55 dX1_boundOf_1 (by decide) (by rfl) (by decide) ?_
            refine r_aload_n E (q := 56) 0 dX1_boundOf_55 rfl rfl rfl ?_
            refine r_get E (q := 59) fX1_25 12 wc_12 rfl dX1_boundOf_56 rfl ?_
            refine r_iload_n E (q := 60) 2 dX1_boundOf_59 rfl rfl rfl ?_
            refine r_iald E (q := 61) 18 wc_18 (by first | exact ha (by assumption) | exact hb (Or.inl (by assumption)) | exact hb (Or.inr (by assumption)) | exact hb (tr_of (by assumption)) | exact hv (tf_of (by assumption))) dX1_boundOf_60 rfl ?_
            refine r_aload_n E (q := 62) 0 dX1_boundOf_61 rfl rfl rfl ?_
            refine r_get E (q := 65) fX1_25 12 wc_12 rfl dX1_boundOf_62 rfl ?_
            refine r_iload_n E (q := 66) 3 dX1_boundOf_65 rfl rfl rfl ?_
            refine r_iald E (q := 67) 18 wc_18 (by first | exact ha (by assumption) | exact hb (Or.inl (by assumption)) | exact hb (Or.inr (by assumption)) | exact hb (tr_of (by assumption)) | exact hv (tf_of (by assumption))) dX1_boundOf_66 rfl ?_
            refine r_imul E (q := 68) dX1_boundOf_67 rfl ?_
            exact r_iret E T dX1_boundOf_68 (eqI.mk (by unfold fX1_boundOf; exact ((if_neg c1).trans ((if_neg c2).trans ((if_neg c3).trans ((if_neg c4).trans (if_pos c5))))).symm) rfl)
          · by_cases c6 : kind = 5
            · refine r_tabIn E 5 c6 69 dX1_boundOf_1 (by decide) (by rfl) (by decide) ?_
              refine r_aload_n E (q := 70) 0 dX1_boundOf_69 rfl rfl rfl ?_
              refine r_get E (q := 73) fX1_25 12 wc_12 rfl dX1_boundOf_70 rfl ?_
              refine r_iload_n E (q := 74) 2 dX1_boundOf_73 rfl rfl rfl ?_
              refine r_iald E (q := 75) 18 wc_18 (by first | exact ha (by assumption) | exact hb (Or.inl (by assumption)) | exact hb (Or.inr (by assumption)) | exact hb (tr_of (by assumption)) | exact hv (tf_of (by assumption))) dX1_boundOf_74 rfl ?_
              refine r_aload_n E (q := 76) 0 dX1_boundOf_75 rfl rfl rfl ?_
              refine r_get E (q := 79) fX1_25 12 wc_12 rfl dX1_boundOf_76 rfl ?_
              refine r_iload_n E (q := 80) 3 dX1_boundOf_79 rfl rfl rfl ?_
              refine r_iald E (q := 81) 18 wc_18 (by first | exact ha (by assumption) | exact hb (Or.inl (by assumption)) | exact hb (Or.inr (by assumption)) | exact hb (tr_of (by assumption)) | exact hv (tf_of (by assumption))) dX1_boundOf_80 rfl ?_
              refine r_iadd E (q := 82) dX1_boundOf_81 rfl ?_
              exact r_iret E T dX1_boundOf_82 (eqI.mk (by unfold fX1_boundOf; exact ((if_neg c1).trans ((if_neg c2).trans ((if_neg c3).trans ((if_neg c4).trans ((if_neg c5).trans (if_pos c6)))))).symm) rfl)
            · by_cases c7 : kind = 6
              · refine r_tabIn E 6 c7 95 dX1_boundOf_1 (by decide) (by rfl) (by decide) ?_
                refine r_aload_n E (q := 96) 0 dX1_boundOf_95 rfl rfl rfl ?_
                refine r_get E (q := 99) fX1_25 12 wc_12 rfl dX1_boundOf_96 rfl ?_
                refine r_iload_n E (q := 100) 2 dX1_boundOf_99 rfl rfl rfl ?_
                refine r_iald E (q := 101) 18 wc_18 (by first | exact ha (by assumption) | exact hb (Or.inl (by assumption)) | exact hb (Or.inr (by assumption)) | exact hb (tr_of (by assumption)) | exact hv (tf_of (by assumption))) dX1_boundOf_100 rfl ?_
                exact r_iret E T dX1_boundOf_101 (eqI.mk (by unfold fX1_boundOf; exact ((if_neg c1).trans ((if_neg c2).trans ((if_neg c3).trans ((if_neg c4).trans ((if_neg c5).trans ((if_neg c6).trans (if_pos c7))))))).symm) rfl)
              · by_cases c8 : kind = 7
                · refine r_tabIn E 7 c8 95 dX1_boundOf_1 (by decide) (by rfl) (by decide) ?_
                  refine r_aload_n E (q := 96) 0 dX1_boundOf_95 rfl rfl rfl ?_
                  refine r_get E (q := 99) fX1_25 12 wc_12 rfl dX1_boundOf_96 rfl ?_
                  refine r_iload_n E (q := 100) 2 dX1_boundOf_99 rfl rfl rfl ?_
                  refine r_iald E (q := 101) 18 wc_18 (by first | exact ha (by assumption) | exact hb (Or.inl (by assumption)) | exact hb (Or.inr (by assumption)) | exact hb (tr_of (by assumption)) | exact hv (tf_of (by assumption))) dX1_boundOf_100 rfl ?_
                  exact r_iret E T dX1_boundOf_101 (eqI.mk (by unfold fX1_boundOf; exact ((if_neg c1).trans ((if_neg c2).trans ((if_neg c3).trans ((if_neg c4).trans ((if_neg c5).trans ((if_neg c6).trans ((if_neg c7).trans (if_pos c8)))))))).symm) rfl)
                · by_cases c9 : kind = 8
                  · refine r_tabIn E 8 c9 83 dX1_boundOf_1 (by decide) (by rfl) (by decide) ?_
                    refine r_iload E (q := 85) 4 dX1_boundOf_83 rfl rfl ?_
                    refine r_aload_n E (q := 86) 0 dX1_boundOf_85 rfl rfl rfl ?_
                    refine r_get E (q := 89) fX1_25 12 wc_12 rfl dX1_boundOf_86 rfl ?_
                    refine r_iload_n E (q := 90) 2 dX1_boundOf_89 rfl rfl rfl ?_
                    refine r_iald E (q := 91) 18 wc_18 (by first | exact ha (by assumption) | exact hb (Or.inl (by assumption)) | exact hb (Or.inr (by assumption)) | exact hb (tr_of (by assumption)) | exact hv (tf_of (by assumption))) dX1_boundOf_90 rfl ?_
                    refine r_min E (q := 94) (d := 0) T.rr mnX1_76 mn_s mn_i mn_c (Nat.le_of_ble_eq_true rfl) (Nat.le_of_ble_eq_true rfl) (Nat.le_of_ble_eq_true rfl) dX1_boundOf_91 rfl ?_
                    exact r_iret E T dX1_boundOf_94 (eqI.mk (by unfold fX1_boundOf; exact ((if_neg c1).trans ((if_neg c2).trans ((if_neg c3).trans ((if_neg c4).trans ((if_neg c5).trans ((if_neg c6).trans ((if_neg c7).trans ((if_neg c8).trans (if_pos c9))))))))).symm) rfl)
                  · refine r_tabOut E 95 dX1_boundOf_1 (sw_out (fun j hj e => by match j with | 0 => exact c1 (e.trans (by decide)) | 1 => exact c2 (e.trans (by decide)) | 2 => exact c3 (e.trans (by decide)) | 3 => exact c4 (e.trans (by decide)) | 4 => exact c5 (e.trans (by decide)) | 5 => exact c6 (e.trans (by decide)) | 6 => exact c7 (e.trans (by decide)) | 7 => exact c8 (e.trans (by decide)) | 8 => exact c9 (e.trans (by decide)) | j + 9 => omega)) (by decide) ?_
                    refine r_aload_n E (q := 96) 0 dX1_boundOf_95 rfl rfl rfl ?_
                    refine r_get E (q := 99) fX1_25 12 wc_12 rfl dX1_boundOf_96 rfl ?_
                    refine r_iload_n E (q := 100) 2 dX1_boundOf_99 rfl rfl rfl ?_
                    refine r_iald E (q := 101) 18 wc_18 (by first | exact ha (by assumption) | exact hb (Or.inl (by assumption)) | exact hb (Or.inr (by assumption)) | exact hb (tr_of (by assumption)) | exact hv (tf_of (by assumption))) dX1_boundOf_100 rfl ?_
                    exact r_iret E T dX1_boundOf_101 (eqI.mk (by unfold fX1_boundOf; exact ((if_neg c1).trans ((if_neg c2).trans ((if_neg c3).trans ((if_neg c4).trans ((if_neg c5).trans ((if_neg c6).trans ((if_neg c7).trans ((if_neg c8).trans (if_neg c9))))))))).symm) rfl)
def fX1_failsOf (G : Nat → Nat → Int32) (kind : Int32) (a : Int32) (b : Int32) (v : Int32) : Int32 := if kind = 0 then 0 else (if G 19 (ix a) = 0 then (if fX1_takesRight kind = 0 then (if fX1_takesFormula kind = 0 then 0 else (if G 11 (ix v) = 0 then 0 else 1)) else (if G 19 (ix b) = 0 then (if fX1_takesFormula kind = 0 then 0 else (if G 11 (ix v) = 0 then 0 else 1)) else 1)) else 1)
theorem b_X1_failsOf (G : Nat → Nat → Int32) (kind : Int32) (a : Int32) (b : Int32) (v : Int32) : fX1_failsOf G kind a b v = 0 ∨ fX1_failsOf G kind a b v = 1 := (b01 (Or.inl rfl) (b01 (b01 (b01 (Or.inl rfl) (b01 (Or.inl rfl) (Or.inr rfl))) (b01 (b01 (Or.inl rfl) (b01 (Or.inl rfl) (Or.inr rfl))) (Or.inr rfl))) (Or.inr rfl)))
set_option maxRecDepth 100000 in
set_option maxHeartbeats 800000 in
theorem c_X1_failsOf {l : Launch} {k : Kt} {ad : Nat → Nat} {G : Nat → Nat → Int32} {V : Nat → Int32} {n : Nat} (kind : Int32) (a : Int32) (b : Int32) (v : Int32) (ha : ¬ kind = 0 → vp_in a 60) (hb : kind = 4 ∨ kind = 5 → vp_in b 60) (hv : kind = 1 ∨ kind = 2 → vp_in v 40) : CT l k yX1_failsOf cX1_failsOf 5 (some .boolean) 1 [.ref (ad 12), .int kind, .int a, .int b, .int v] (WC k ad G V n) (eqI (fX1_failsOf G kind a b v) (WC k ad G V n)) 0 0 := by
  refine ct_of (own := RX1) (lv0 := [(0, .ref (ad 12)), (1, .int kind), (2, .int a), (3, .int b), (4, .int v)]) (by decide) rfl (Nat.le_of_ble_eq_true rfl) rfl ?_
  rintro z rfl rfl hz - E T
  refine r_iload_n E (q := 1) 1 dX1_failsOf_0 rfl rfl rfl ?_
  refine r_if_ne E (q := 4) 6 dX1_failsOf_1 (by decide) rfl (fun c1 => ?_) (fun c1 => ?_)
  · refine r_aload_n E (q := 7) 0 dX1_failsOf_6 rfl rfl rfl ?_
    refine r_get E (q := 10) fX1_28 12 wc_12 rfl dX1_failsOf_7 rfl ?_
    refine r_iload_n E (q := 11) 2 dX1_failsOf_10 rfl rfl rfl ?_
    refine r_zald E (q := 12) 19 wc_19 (by first | exact ha (by assumption) | exact hb (Or.inl (by assumption)) | exact hb (Or.inr (by assumption)) | exact hb (tr_of (by assumption)) | exact hv (tf_of (by assumption))) dX1_failsOf_11 rfl ?_
    refine r_join 56 (if G 19 (ix a) = 0 then (if fX1_takesRight kind = 0 then (if fX1_takesFormula kind = 0 then 0 else (if G 11 (ix v) = 0 then 0 else 1)) else (if G 19 (ix b) = 0 then (if fX1_takesFormula kind = 0 then 0 else (if G 11 (ix v) = 0 then 0 else 1)) else 1)) else 1) (rest := []) ?_ (fun hj1 => ?_)
    · exact r_zret E T (b01 (b01 (b01 (Or.inl rfl) (b01 (Or.inl rfl) (Or.inr rfl))) (b01 (b01 (Or.inl rfl) (b01 (Or.inl rfl) (Or.inr rfl))) (Or.inr rfl))) (Or.inr rfl)) dX1_failsOf_56 (eqI.mk (by unfold fX1_failsOf; exact (if_neg c1).symm) rfl)
    · refine r_if_ne E (q := 15) 51 dX1_failsOf_12 (by decide) rfl (fun c2 => ?_) (fun c2 => ?_)
      · refine r_iconst E (q := 52) (v := 1) dX1_failsOf_51 (by decide) rfl ?_
        refine r_goto E 56 dX1_failsOf_52 (by decide) ?_
        exact hj1 _ (if_neg c2).symm
      · refine r_iload_n E (q := 16) 1 dX1_failsOf_15 rfl rfl rfl ?_
        refine rSi E (q := 19) csX1_55 T.rr [.int kind] (c_X1_takesRight kind) (by decide) rfl rfl (Nat.le_of_ble_eq_true rfl) ⟨(Nat.le_of_ble_eq_true rfl), (Nat.le_of_ble_eq_true rfl)⟩ dX1_failsOf_16 rfl ?_
        refine r_if_eq E (q := 22) 31 dX1_failsOf_19 (by decide) rfl (fun c3 => ?_) (fun c3 => ?_)
        · refine r_iload_n E (q := 32) 1 dX1_failsOf_31 rfl rfl rfl ?_
          refine rSi E (q := 35) csX1_82 T.rr [.int kind] (c_X1_takesFormula kind) (by decide) rfl rfl (Nat.le_of_ble_eq_true rfl) ⟨(Nat.le_of_ble_eq_true rfl), (Nat.le_of_ble_eq_true rfl)⟩ dX1_failsOf_32 rfl ?_
          refine r_if_eq E (q := 38) 55 dX1_failsOf_35 (by decide) rfl (fun c4 => ?_) (fun c4 => ?_)
          · refine r_iconst E (q := 56) (v := 0) dX1_failsOf_55 (by decide) rfl ?_
            exact hj1 _ ((if_pos c2).trans ((if_pos c3).trans (if_pos c4))).symm
          · refine r_aload_n E (q := 39) 0 dX1_failsOf_38 rfl rfl rfl ?_
            refine r_get E (q := 42) fX1_41 12 wc_12 rfl dX1_failsOf_39 rfl ?_
            refine r_get E (q := 45) fX1_85 5 wc_5 rfl dX1_failsOf_42 rfl ?_
            refine r_iload E (q := 47) 4 dX1_failsOf_45 rfl rfl ?_
            refine r_zald E (q := 48) 11 wc_11 (by first | exact ha (by assumption) | exact hb (Or.inl (by assumption)) | exact hb (Or.inr (by assumption)) | exact hb (tr_of (by assumption)) | exact hv (tf_of (by assumption))) dX1_failsOf_47 rfl ?_
            refine r_if_eq E (q := 51) 55 dX1_failsOf_48 (by decide) rfl (fun c5 => ?_) (fun c5 => ?_)
            · refine r_iconst E (q := 56) (v := 0) dX1_failsOf_55 (by decide) rfl ?_
              exact hj1 _ ((if_pos c2).trans ((if_pos c3).trans ((if_neg c4).trans (if_pos c5)))).symm
            · refine r_iconst E (q := 52) (v := 1) dX1_failsOf_51 (by decide) rfl ?_
              refine r_goto E 56 dX1_failsOf_52 (by decide) ?_
              exact hj1 _ ((if_pos c2).trans ((if_pos c3).trans ((if_neg c4).trans (if_neg c5)))).symm
        · refine r_aload_n E (q := 23) 0 dX1_failsOf_22 rfl rfl rfl ?_
          refine r_get E (q := 26) fX1_28 12 wc_12 rfl dX1_failsOf_23 rfl ?_
          refine r_iload_n E (q := 27) 3 dX1_failsOf_26 rfl rfl rfl ?_
          refine r_zald E (q := 28) 19 wc_19 (by first | exact ha (by assumption) | exact hb (Or.inl (by assumption)) | exact hb (Or.inr (by assumption)) | exact hb (tr_of (by assumption)) | exact hv (tf_of (by assumption))) dX1_failsOf_27 rfl ?_
          refine r_if_ne E (q := 31) 51 dX1_failsOf_28 (by decide) rfl (fun c6 => ?_) (fun c6 => ?_)
          · refine r_iconst E (q := 52) (v := 1) dX1_failsOf_51 (by decide) rfl ?_
            refine r_goto E 56 dX1_failsOf_52 (by decide) ?_
            exact hj1 _ ((if_pos c2).trans ((if_neg c3).trans (if_neg c6))).symm
          · refine r_iload_n E (q := 32) 1 dX1_failsOf_31 rfl rfl rfl ?_
            refine rSi E (q := 35) csX1_82 T.rr [.int kind] (c_X1_takesFormula kind) (by decide) rfl rfl (Nat.le_of_ble_eq_true rfl) ⟨(Nat.le_of_ble_eq_true rfl), (Nat.le_of_ble_eq_true rfl)⟩ dX1_failsOf_32 rfl ?_
            refine r_if_eq E (q := 38) 55 dX1_failsOf_35 (by decide) rfl (fun c7 => ?_) (fun c7 => ?_)
            · refine r_iconst E (q := 56) (v := 0) dX1_failsOf_55 (by decide) rfl ?_
              exact hj1 _ ((if_pos c2).trans ((if_neg c3).trans ((if_pos c6).trans (if_pos c7)))).symm
            · refine r_aload_n E (q := 39) 0 dX1_failsOf_38 rfl rfl rfl ?_
              refine r_get E (q := 42) fX1_41 12 wc_12 rfl dX1_failsOf_39 rfl ?_
              refine r_get E (q := 45) fX1_85 5 wc_5 rfl dX1_failsOf_42 rfl ?_
              refine r_iload E (q := 47) 4 dX1_failsOf_45 rfl rfl ?_
              refine r_zald E (q := 48) 11 wc_11 (by first | exact ha (by assumption) | exact hb (Or.inl (by assumption)) | exact hb (Or.inr (by assumption)) | exact hb (tr_of (by assumption)) | exact hv (tf_of (by assumption))) dX1_failsOf_47 rfl ?_
              refine r_if_eq E (q := 51) 55 dX1_failsOf_48 (by decide) rfl (fun c8 => ?_) (fun c8 => ?_)
              · refine r_iconst E (q := 56) (v := 0) dX1_failsOf_55 (by decide) rfl ?_
                exact hj1 _ ((if_pos c2).trans ((if_neg c3).trans ((if_pos c6).trans ((if_neg c7).trans (if_pos c8))))).symm
              · refine r_iconst E (q := 52) (v := 1) dX1_failsOf_51 (by decide) rfl ?_
                refine r_goto E 56 dX1_failsOf_52 (by decide) ?_
                exact hj1 _ ((if_pos c2).trans ((if_neg c3).trans ((if_pos c6).trans ((if_neg c7).trans (if_neg c8))))).symm
  · refine r_iconst E (q := 5) (v := 0) dX1_failsOf_4 (by decide) rfl ?_
    exact r_zret E T (Or.inl rfl) dX1_failsOf_5 (eqI.mk (by unfold fX1_failsOf; exact (if_pos c1).symm) rfl)
def fX1_write_G (G : Nat → Nat → Int32) (x : Int32) (kind : Int32) (a : Int32) (b : Int32) (m : Int32) (v : Int32) : Nat → Nat → Int32 := ug (ug (ug (ug (ug (ug (ug G 18 (ix x) (fX1_boundOf G kind a b v)) 19 (ix x) (fX1_failsOf (ug G 18 (ix x) (fX1_boundOf G kind a b v)) kind a b v)) 13 (ix x) kind) 14 (ix x) a) 15 (ix x) (if fX1_takesRight kind = 0 then 0 else b)) 16 (ix x) (if fX1_takesMember kind = 0 then 0 else m)) 17 (ix x) (if fX1_takesValue kind = 0 then 0 else v)
set_option maxRecDepth 100000 in
set_option maxHeartbeats 800000 in
theorem c_X1_write {l : Launch} {k : Kt} {ad : Nat → Nat} {G : Nat → Nat → Int32} {V : Nat → Int32} {n : Nat} (x : Int32) (kind : Int32) (a : Int32) (b : Int32) (m : Int32) (v : Int32) (hx : vp_in x 60) (ha : ¬ kind = 0 → vp_in a 60) (hb : kind = 4 ∨ kind = 5 → vp_in b 60) (hv : kind = 1 ∨ kind = 2 → vp_in v 40) : CT l k yX1_write cX1_write 7 none 2 [.ref (ad 12), .int x, .int kind, .int a, .int b, .int m, .int v] (WC k ad G V n) (eqV (WC k ad (fX1_write_G G x kind a b m v) V n)) 0 0 := by
  refine ct_of (own := RX1) (lv0 := [(0, .ref (ad 12)), (1, .int x), (2, .int kind), (3, .int a), (4, .int b), (5, .int m), (6, .int v)]) (by decide) rfl (Nat.le_of_ble_eq_true rfl) rfl ?_
  rintro z rfl rfl hz - E T
  refine r_aload_n E (q := 1) 0 dX1_write_0 rfl rfl rfl ?_
  refine r_get E (q := 4) fX1_25 12 wc_12 rfl dX1_write_1 rfl ?_
  refine r_iload_n E (q := 5) 1 dX1_write_4 rfl rfl rfl ?_
  refine r_aload_n E (q := 6) 0 dX1_write_5 rfl rfl rfl ?_
  refine r_iload_n E (q := 7) 2 dX1_write_6 rfl rfl rfl ?_
  refine r_iload_n E (q := 8) 3 dX1_write_7 rfl rfl rfl ?_
  refine r_iload E (q := 10) 4 dX1_write_8 rfl rfl ?_
  refine r_iload E (q := 12) 6 dX1_write_10 rfl rfl ?_
  refine rVi E (q := 15) cvX1_90 T.rr 12 wc_12 rfl [.int kind, .int a, .int b, .int v] (c_X1_boundOf kind a b v (by assumption) (by assumption)) (by decide) rfl rfl (Nat.le_of_ble_eq_true rfl) ⟨(Nat.le_of_ble_eq_true rfl), (Nat.le_of_ble_eq_true rfl)⟩ dX1_write_12 rfl ?_
  refine r_iast E (q := 16) 18 wc_18 (by assumption) wcu_18 dX1_write_15 rfl ?_
  refine r_aload_n E (q := 17) 0 dX1_write_16 rfl rfl rfl ?_
  refine r_get E (q := 20) fX1_28 12 wc_12 rfl dX1_write_17 rfl ?_
  refine r_iload_n E (q := 21) 1 dX1_write_20 rfl rfl rfl ?_
  refine r_aload_n E (q := 22) 0 dX1_write_21 rfl rfl rfl ?_
  refine r_iload_n E (q := 23) 2 dX1_write_22 rfl rfl rfl ?_
  refine r_iload_n E (q := 24) 3 dX1_write_23 rfl rfl rfl ?_
  refine r_iload E (q := 26) 4 dX1_write_24 rfl rfl ?_
  refine r_iload E (q := 28) 6 dX1_write_26 rfl rfl ?_
  refine rVi E (q := 31) cvX1_94 T.rr 12 wc_12 rfl [.int kind, .int a, .int b, .int v] (c_X1_failsOf kind a b v (by assumption) (by assumption) (by assumption)) (by decide) rfl rfl (Nat.le_of_ble_eq_true rfl) ⟨(Nat.le_of_ble_eq_true rfl), (Nat.le_of_ble_eq_true rfl)⟩ dX1_write_28 rfl ?_
  refine r_zast E (q := 32) 19 wc_19 (by assumption) (nar_b (b_X1_failsOf _ _ _ _ _)) wcu_19 dX1_write_31 rfl ?_
  refine r_aload_n E (q := 33) 0 dX1_write_32 rfl rfl rfl ?_
  refine r_get E (q := 36) fX1_9 12 wc_12 rfl dX1_write_33 rfl ?_
  refine r_iload_n E (q := 37) 1 dX1_write_36 rfl rfl rfl ?_
  refine r_iload_n E (q := 38) 2 dX1_write_37 rfl rfl rfl ?_
  refine r_iast E (q := 39) 13 wc_13 (by assumption) wcu_13 dX1_write_38 rfl ?_
  refine r_aload_n E (q := 40) 0 dX1_write_39 rfl rfl rfl ?_
  refine r_get E (q := 43) fX1_13 12 wc_12 rfl dX1_write_40 rfl ?_
  refine r_iload_n E (q := 44) 1 dX1_write_43 rfl rfl rfl ?_
  refine r_iload_n E (q := 45) 3 dX1_write_44 rfl rfl rfl ?_
  refine r_iast E (q := 46) 14 wc_14 (by assumption) wcu_14 dX1_write_45 rfl ?_
  refine r_aload_n E (q := 47) 0 dX1_write_46 rfl rfl rfl ?_
  refine r_get E (q := 50) fX1_16 12 wc_12 rfl dX1_write_47 rfl ?_
  refine r_iload_n E (q := 51) 1 dX1_write_50 rfl rfl rfl ?_
  refine r_iload_n E (q := 52) 2 dX1_write_51 rfl rfl rfl ?_
  refine rSi E (q := 55) csX1_55 T.rr [.int kind] (c_X1_takesRight kind) (by decide) rfl rfl (Nat.le_of_ble_eq_true rfl) ⟨(Nat.le_of_ble_eq_true rfl), (Nat.le_of_ble_eq_true rfl)⟩ dX1_write_52 rfl ?_
  refine r_join 64 (if fX1_takesRight kind = 0 then 0 else b) (rest := [.int x, .ref (ad 15)]) ?_ (fun hj1 => ?_)
  · refine r_iast E (q := 65) 15 wc_15 (by assumption) wcu_15 dX1_write_64 rfl ?_
    refine r_aload_n E (q := 66) 0 dX1_write_65 rfl rfl rfl ?_
    refine r_get E (q := 69) fX1_19 12 wc_12 rfl dX1_write_66 rfl ?_
    refine r_iload_n E (q := 70) 1 dX1_write_69 rfl rfl rfl ?_
    refine r_iload_n E (q := 71) 2 dX1_write_70 rfl rfl rfl ?_
    refine rSi E (q := 74) csX1_58 T.rr [.int kind] (c_X1_takesMember kind) (by decide) rfl rfl (Nat.le_of_ble_eq_true rfl) ⟨(Nat.le_of_ble_eq_true rfl), (Nat.le_of_ble_eq_true rfl)⟩ dX1_write_71 rfl ?_
    refine r_join 83 (if fX1_takesMember kind = 0 then 0 else m) (rest := [.int x, .ref (ad 16)]) ?_ (fun hj2 => ?_)
    · refine r_iast E (q := 84) 16 wc_16 (by assumption) wcu_16 dX1_write_83 rfl ?_
      refine r_aload_n E (q := 85) 0 dX1_write_84 rfl rfl rfl ?_
      refine r_get E (q := 88) fX1_22 12 wc_12 rfl dX1_write_85 rfl ?_
      refine r_iload_n E (q := 89) 1 dX1_write_88 rfl rfl rfl ?_
      refine r_iload_n E (q := 90) 2 dX1_write_89 rfl rfl rfl ?_
      refine rSi E (q := 93) csX1_98 T.rr [.int kind] (c_X1_takesValue kind) (by decide) rfl rfl (Nat.le_of_ble_eq_true rfl) ⟨(Nat.le_of_ble_eq_true rfl), (Nat.le_of_ble_eq_true rfl)⟩ dX1_write_90 rfl ?_
      refine r_join 102 (if fX1_takesValue kind = 0 then 0 else v) (rest := [.int x, .ref (ad 17)]) ?_ (fun hj3 => ?_)
      · refine r_iast E (q := 103) 17 wc_17 (by assumption) wcu_17 dX1_write_102 rfl ?_
        exact r_vret E T dX1_write_103 (eqV.mk (cgC (by unfold fX1_write_G; exact rfl) rfl))
      · refine r_if_eq E (q := 96) 101 dX1_write_93 (by decide) rfl (fun c3 => ?_) (fun c3 => ?_)
        · refine r_iconst E (q := 102) (v := 0) dX1_write_101 (by decide) rfl ?_
          exact hj3 _ (if_pos c3).symm
        · refine r_iload E (q := 98) 6 dX1_write_96 rfl rfl ?_
          refine r_goto E 102 dX1_write_98 (by decide) ?_
          exact hj3 _ (if_neg c3).symm
    · refine r_if_eq E (q := 77) 82 dX1_write_74 (by decide) rfl (fun c2 => ?_) (fun c2 => ?_)
      · refine r_iconst E (q := 83) (v := 0) dX1_write_82 (by decide) rfl ?_
        exact hj2 _ (if_pos c2).symm
      · refine r_iload E (q := 79) 5 dX1_write_77 rfl rfl ?_
        refine r_goto E 83 dX1_write_79 (by decide) ?_
        exact hj2 _ (if_neg c2).symm
  · refine r_if_eq E (q := 58) 63 dX1_write_55 (by decide) rfl (fun c1 => ?_) (fun c1 => ?_)
    · refine r_iconst E (q := 64) (v := 0) dX1_write_63 (by decide) rfl ?_
      exact hj1 _ (if_pos c1).symm
    · refine r_iload E (q := 60) 4 dX1_write_58 rfl rfl ?_
      refine r_goto E 64 dX1_write_60 (by decide) ?_
      exact hj1 _ (if_neg c1).symm
def fX1_add (G : Nat → Nat → Int32) (V : Nat → Int32) (kind : Int32) (a : Int32) (b : Int32) (m : Int32) (v : Int32) : Int32 := V 1
def fX1_add_G (G : Nat → Nat → Int32) (V : Nat → Int32) (kind : Int32) (a : Int32) (b : Int32) (m : Int32) (v : Int32) : Nat → Nat → Int32 := fX1_write_G G (V 1) kind a b m v
def fX1_add_V (G : Nat → Nat → Int32) (V : Nat → Int32) (kind : Int32) (a : Int32) (b : Int32) (m : Int32) (v : Int32) : Nat → Int32 := upd V 1 ((V 1) + 1)
set_option maxRecDepth 100000 in
set_option maxHeartbeats 800000 in
theorem c_X1_add {l : Launch} {k : Kt} {ad : Nat → Nat} {G : Nat → Nat → Int32} {V : Nat → Int32} {n : Nat} (kind : Int32) (a : Int32) (b : Int32) (m : Int32) (v : Int32) (hx : vp_in (V 1) 60) (ha : ¬ kind = 0 → vp_in a 60) (hb : kind = 4 ∨ kind = 5 → vp_in b 60) (hv : kind = 1 ∨ kind = 2 → vp_in v 40) : CT l k yX1_add cX1_add 7 (some .int) 3 [.ref (ad 12), .int kind, .int a, .int b, .int m, .int v] (WC k ad G V n) (eqI (fX1_add G V kind a b m v) (WC k ad (fX1_add_G G V kind a b m v) (fX1_add_V G V kind a b m v) n)) 0 0 := by
  refine ct_of (own := RX1) (lv0 := [(0, .ref (ad 12)), (1, .int kind), (2, .int a), (3, .int b), (4, .int m), (5, .int v)]) (by decide) rfl (Nat.le_of_ble_eq_true rfl) rfl ?_
  rintro z rfl rfl hz - E T
  refine r_aload_n E (q := 1) 0 dX1_add_0 rfl rfl rfl ?_
  refine r_get E (q := 4) fX1_45 12 wc_12 rfl dX1_add_1 rfl ?_
  refine r_istore E (q := 6) (lv' := [(0, .ref (ad 12)), (1, .int kind), (2, .int a), (3, .int b), (4, .int m), (5, .int v), (6, .int (V 1))]) [1, 2, 3, 4, 5, 6, 0] dX1_add_4 (by rw [hz]; decide) rfl rfl ?_
  refine r_aload_n E (q := 7) 0 dX1_add_6 rfl rfl rfl ?_
  refine r_dup E (q := 8) dX1_add_7 rfl rfl ?_
  refine r_get E (q := 11) fX1_45 12 wc_12 rfl dX1_add_8 rfl ?_
  refine r_iconst E (q := 12) (v := 1) dX1_add_11 (by decide) rfl ?_
  refine r_iadd E (q := 13) dX1_add_12 rfl ?_
  refine r_put E (q := 16) pX1_45 rfl 12 wc_12 rfl rfl (Nat.le_of_ble_eq_true rfl) wcv_1 dX1_add_13 rfl ?_
  refine r_aload_n E (q := 17) 0 dX1_add_16 rfl rfl rfl ?_
  refine r_iload E (q := 19) 6 dX1_add_17 rfl rfl ?_
  refine r_iload_n E (q := 20) 1 dX1_add_19 rfl rfl rfl ?_
  refine r_iload_n E (q := 21) 2 dX1_add_20 rfl rfl rfl ?_
  refine r_iload_n E (q := 22) 3 dX1_add_21 rfl rfl rfl ?_
  refine r_iload E (q := 24) 4 dX1_add_22 rfl rfl ?_
  refine r_iload E (q := 26) 5 dX1_add_24 rfl rfl ?_
  refine rVv E (q := 29) cvX1_86 T.rr 12 wc_12 rfl [.int (V 1), .int kind, .int a, .int b, .int m, .int v] (c_X1_write (V 1) kind a b m v (by assumption) (by assumption) (by assumption) (by assumption)) (by decide) rfl rfl (Nat.le_of_ble_eq_true rfl) ⟨(Nat.le_of_ble_eq_true rfl), (Nat.le_of_ble_eq_true rfl)⟩ dX1_add_26 rfl ?_
  refine r_iload E (q := 31) 6 dX1_add_29 rfl rfl ?_
  exact r_iret E T dX1_add_31 (eqI.mk (by unfold fX1_add; exact rfl) (cgC (by unfold fX1_add_G; exact rfl) (by unfold fX1_add_V; exact rfl)))
def fX1_isListed (G : Nat → Nat → Int32) (x : Int32) : Int32 := if G 22 (ix x) ≤ 0 then 0 else 1
theorem b_X1_isListed (G : Nat → Nat → Int32) (x : Int32) : fX1_isListed G x = 0 ∨ fX1_isListed G x = 1 := (b01 (Or.inl rfl) (Or.inr rfl))
set_option maxRecDepth 100000 in
set_option maxHeartbeats 800000 in
theorem c_X1_isListed {l : Launch} {k : Kt} {ad : Nat → Nat} {G : Nat → Nat → Int32} {V : Nat → Int32} {n : Nat} (x : Int32) (hx : vp_in x 60) : CT l k yX1_isListed cX1_isListed 2 (some .boolean) 0 [.ref (ad 12), .int x] (WC k ad G V n) (eqI (fX1_isListed G x) (WC k ad G V n)) 0 0 := by
  refine ct_of (own := RX1) (lv0 := [(0, .ref (ad 12)), (1, .int x)]) (by decide) rfl (Nat.le_of_ble_eq_true rfl) rfl ?_
  rintro z rfl rfl hz - E T
  refine r_aload_n E (q := 1) 0 dX1_isListed_0 rfl rfl rfl ?_
  refine r_get E (q := 4) fX1_38 12 wc_12 rfl dX1_isListed_1 rfl ?_
  refine r_iload_n E (q := 5) 1 dX1_isListed_4 rfl rfl rfl ?_
  refine r_iald E (q := 6) 22 wc_22 (by assumption) dX1_isListed_5 rfl ?_
  refine r_join 14 (if G 22 (ix x) ≤ 0 then 0 else 1) (rest := []) ?_ (fun hj1 => ?_)
  · exact r_zret E T (b01 (Or.inl rfl) (Or.inr rfl)) dX1_isListed_14 (eqI.mk (by unfold fX1_isListed; exact rfl) rfl)
  · refine r_if_le E (q := 9) 13 dX1_isListed_6 (by decide) rfl (fun c1 => ?_) (fun c1 => ?_)
    · refine r_iconst E (q := 14) (v := 0) dX1_isListed_13 (by decide) rfl ?_
      exact hj1 _ (if_pos c1).symm
    · refine r_iconst E (q := 10) (v := 1) dX1_isListed_9 (by decide) rfl ?_
      refine r_goto E 14 dX1_isListed_10 (by decide) ?_
      exact hj1 _ (if_neg c1).symm
def fX1_leftBelow (G : Nat → Nat → Int32) (x : Int32) : Int32 := if G 13 (ix x) = 0 then (-1) else (G 14 (ix x))
set_option maxRecDepth 100000 in
set_option maxHeartbeats 800000 in
theorem c_X1_leftBelow {l : Launch} {k : Kt} {ad : Nat → Nat} {G : Nat → Nat → Int32} {V : Nat → Int32} {n : Nat} (x : Int32) (hx : vp_in x 60) : CT l k yX1_leftBelow cX1_leftBelow 2 (some .int) 0 [.ref (ad 12), .int x] (WC k ad G V n) (eqI (fX1_leftBelow G x) (WC k ad G V n)) 0 0 := by
  refine ct_of (own := RX1) (lv0 := [(0, .ref (ad 12)), (1, .int x)]) (by decide) rfl (Nat.le_of_ble_eq_true rfl) rfl ?_
  rintro z rfl rfl hz - E T
  refine r_aload_n E (q := 1) 0 dX1_leftBelow_0 rfl rfl rfl ?_
  refine r_get E (q := 4) fX1_9 12 wc_12 rfl dX1_leftBelow_1 rfl ?_
  refine r_iload_n E (q := 5) 1 dX1_leftBelow_4 rfl rfl rfl ?_
  refine r_iald E (q := 6) 13 wc_13 (by assumption) dX1_leftBelow_5 rfl ?_
  refine r_join 19 (if G 13 (ix x) = 0 then (-1) else (G 14 (ix x))) (rest := []) ?_ (fun hj1 => ?_)
  · exact r_iret E T dX1_leftBelow_19 (eqI.mk (by unfold fX1_leftBelow; exact rfl) rfl)
  · refine r_if_ne E (q := 9) 13 dX1_leftBelow_6 (by decide) rfl (fun c1 => ?_) (fun c1 => ?_)
    · refine r_aload_n E (q := 14) 0 dX1_leftBelow_13 rfl rfl rfl ?_
      refine r_get E (q := 17) fX1_13 12 wc_12 rfl dX1_leftBelow_14 rfl ?_
      refine r_iload_n E (q := 18) 1 dX1_leftBelow_17 rfl rfl rfl ?_
      refine r_iald E (q := 19) 14 wc_14 (by assumption) dX1_leftBelow_18 rfl ?_
      exact hj1 _ (if_neg c1).symm
    · refine r_iconst E (q := 10) (v := (-1)) dX1_leftBelow_9 (by decide) rfl ?_
      refine r_goto E 19 dX1_leftBelow_10 (by decide) ?_
      exact hj1 _ (if_pos c1).symm
def fX1_rightBelow (G : Nat → Nat → Int32) (x : Int32) : Int32 := if fX1_takesRight (G 13 (ix x)) = 0 then (-1) else (G 15 (ix x))
set_option maxRecDepth 100000 in
set_option maxHeartbeats 800000 in
theorem c_X1_rightBelow {l : Launch} {k : Kt} {ad : Nat → Nat} {G : Nat → Nat → Int32} {V : Nat → Int32} {n : Nat} (x : Int32) (hx : vp_in x 60) : CT l k yX1_rightBelow cX1_rightBelow 2 (some .int) 1 [.ref (ad 12), .int x] (WC k ad G V n) (eqI (fX1_rightBelow G x) (WC k ad G V n)) 0 0 := by
  refine ct_of (own := RX1) (lv0 := [(0, .ref (ad 12)), (1, .int x)]) (by decide) rfl (Nat.le_of_ble_eq_true rfl) rfl ?_
  rintro z rfl rfl hz - E T
  refine r_aload_n E (q := 1) 0 dX1_rightBelow_0 rfl rfl rfl ?_
  refine r_get E (q := 4) fX1_9 12 wc_12 rfl dX1_rightBelow_1 rfl ?_
  refine r_iload_n E (q := 5) 1 dX1_rightBelow_4 rfl rfl rfl ?_
  refine r_iald E (q := 6) 13 wc_13 (by assumption) dX1_rightBelow_5 rfl ?_
  refine rSi E (q := 9) csX1_55 T.rr [.int (G 13 (ix x))] (c_X1_takesRight (G 13 (ix x))) (by decide) rfl rfl (Nat.le_of_ble_eq_true rfl) ⟨(Nat.le_of_ble_eq_true rfl), (Nat.le_of_ble_eq_true rfl)⟩ dX1_rightBelow_6 rfl ?_
  refine r_join 22 (if fX1_takesRight (G 13 (ix x)) = 0 then (-1) else (G 15 (ix x))) (rest := []) ?_ (fun hj1 => ?_)
  · exact r_iret E T dX1_rightBelow_22 (eqI.mk (by unfold fX1_rightBelow; exact rfl) rfl)
  · refine r_if_eq E (q := 12) 21 dX1_rightBelow_9 (by decide) rfl (fun c1 => ?_) (fun c1 => ?_)
    · refine r_iconst E (q := 22) (v := (-1)) dX1_rightBelow_21 (by decide) rfl ?_
      exact hj1 _ (if_pos c1).symm
    · refine r_aload_n E (q := 13) 0 dX1_rightBelow_12 rfl rfl rfl ?_
      refine r_get E (q := 16) fX1_16 12 wc_12 rfl dX1_rightBelow_13 rfl ?_
      refine r_iload_n E (q := 17) 1 dX1_rightBelow_16 rfl rfl rfl ?_
      refine r_iald E (q := 18) 15 wc_15 (by assumption) dX1_rightBelow_17 rfl ?_
      refine r_goto E 22 dX1_rightBelow_18 (by decide) ?_
      exact hj1 _ (if_neg c1).symm
