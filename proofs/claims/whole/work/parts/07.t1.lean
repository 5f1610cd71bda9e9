def fX5_isMember (G : Nat → Nat → Int32) (V : Nat → Int32) (m : Int32) : Int32 := if m < 0 then 0 else (if 6 ≤ m then 0 else 1)
theorem b_X5_isMember (G : Nat → Nat → Int32) (V : Nat → Int32) (m : Int32) : fX5_isMember G V m = 0 ∨ fX5_isMember G V m = 1 := (b01 (Or.inl rfl) (b01 (Or.inl rfl) (Or.inr rfl)))
set_option maxRecDepth 100000 in
set_option maxHeartbeats 4000000 in
theorem c_X5_isMember {l : Launch} {k : Kt} {ad : Nat → Nat} {G : Nat → Nat → Int32} {V : Nat → Int32} {n : Nat} (m : Int32) : CT l k yX5_isMember cX5_isMember 1 (some .boolean) 0 [.int m] (WC k ad G V n) (eqI (fX5_isMember G V m) (WC k ad G V n)) 0 0 := by
  refine ct_of (own := RX5) (lv0 := [(0, .int m)]) (by decide) rfl (Nat.le_of_ble_eq_true rfl) rfl ?_
  rintro z rfl rfl hz - E T
  refine r_iload_n E 0 dX5_isMember_0 rfl rfl rfl ?_
  refine r_join 15 (if m < 0 then 0 else (if 6 ≤ m then 0 else 1)) (rest := []) ?_ (fun hj1 => ?_)
  · exact r_zret E T (b01 (Or.inl rfl) (b01 (Or.inl rfl) (Or.inr rfl))) dX5_isMember_15 (eqI.mk (by rw [fX5_isMember]) rfl)
  · refine r_if_lt E 14 dX5_isMember_1 (by decide) rfl (fun c1 => ?_) (fun c1 => ?_)
    · refine r_iconst E (v := 0) dX5_isMember_14 (by decide) rfl ?_
      exact hj1 _ (by rw [if_pos c1])
    · refine r_iload_n E 0 dX5_isMember_4 rfl rfl rfl ?_
      refine r_bipush E (v := 6) dX5_isMember_5 (by decide) rfl ?_
      refine r_icmp_ge E 14 dX5_isMember_7 (by decide) rfl (fun c2 => ?_) (fun c2 => ?_)
      · refine r_iconst E (v := 0) dX5_isMember_14 (by decide) rfl ?_
        exact hj1 _ (by rw [if_neg c1, if_pos c2])
      · refine r_iconst E (v := 1) dX5_isMember_10 (by decide) rfl ?_
        refine r_goto E 15 dX5_isMember_11 (by decide) ?_
        exact hj1 _ (by rw [if_neg c1, if_neg c2])
def fX5_isSet (G : Nat → Nat → Int32) (V : Nat → Int32) (s : Int32) : Int32 := if s < 0 then 0 else (if 64 ≤ s then 0 else 1)
theorem b_X5_isSet (G : Nat → Nat → Int32) (V : Nat → Int32) (s : Int32) : fX5_isSet G V s = 0 ∨ fX5_isSet G V s = 1 := (b01 (Or.inl rfl) (b01 (Or.inl rfl) (Or.inr rfl)))
set_option maxRecDepth 100000 in
set_option maxHeartbeats 4000000 in
theorem c_X5_isSet {l : Launch} {k : Kt} {ad : Nat → Nat} {G : Nat → Nat → Int32} {V : Nat → Int32} {n : Nat} (s : Int32) : CT l k yX5_isSet cX5_isSet 1 (some .boolean) 0 [.int s] (WC k ad G V n) (eqI (fX5_isSet G V s) (WC k ad G V n)) 0 0 := by
  refine ct_of (own := RX5) (lv0 := [(0, .int s)]) (by decide) rfl (Nat.le_of_ble_eq_true rfl) rfl ?_
  rintro z rfl rfl hz - E T
  refine r_iload_n E 0 dX5_isSet_0 rfl rfl rfl ?_
  refine r_join 15 (if s < 0 then 0 else (if 64 ≤ s then 0 else 1)) (rest := []) ?_ (fun hj1 => ?_)
  · exact r_zret E T (b01 (Or.inl rfl) (b01 (Or.inl rfl) (Or.inr rfl))) dX5_isSet_15 (eqI.mk (by rw [fX5_isSet]) rfl)
  · refine r_if_lt E 14 dX5_isSet_1 (by decide) rfl (fun c1 => ?_) (fun c1 => ?_)
    · refine r_iconst E (v := 0) dX5_isSet_14 (by decide) rfl ?_
      exact hj1 _ (by rw [if_pos c1])
    · refine r_iload_n E 0 dX5_isSet_4 rfl rfl rfl ?_
      refine r_bipush E (v := 64) dX5_isSet_5 (by decide) rfl ?_
      refine r_icmp_ge E 14 dX5_isSet_7 (by decide) rfl (fun c2 => ?_) (fun c2 => ?_)
      · refine r_iconst E (v := 0) dX5_isSet_14 (by decide) rfl ?_
        exact hj1 _ (by rw [if_neg c1, if_pos c2])
      · refine r_iconst E (v := 1) dX5_isSet_10 (by decide) rfl ?_
        refine r_goto E 15 dX5_isSet_11 (by decide) ?_
        exact hj1 _ (by rw [if_neg c1, if_neg c2])
def fX5_isIn (G : Nat → Nat → Int32) (V : Nat → Int32) (m : Int32) (set : Int32) : Int32 := if (set >>> (m &&& 31)) &&& 1 = 1 then 1 else 0
theorem b_X5_isIn (G : Nat → Nat → Int32) (V : Nat → Int32) (m : Int32) (set : Int32) : fX5_isIn G V m set = 0 ∨ fX5_isIn G V m set = 1 := (b01 (Or.inr rfl) (Or.inl rfl))
set_option maxRecDepth 100000 in
set_option maxHeartbeats 4000000 in
theorem c_X5_isIn {l : Launch} {k : Kt} {ad : Nat → Nat} {G : Nat → Nat → Int32} {V : Nat → Int32} {n : Nat} (m : Int32) (set : Int32) : CT l k yX5_isIn cX5_isIn 2 (some .boolean) 0 [.int m, .int set] (WC k ad G V n) (eqI (fX5_isIn G V m set) (WC k ad G V n)) 0 0 := by
  refine ct_of (own := RX5) (lv0 := [(0, .int m), (1, .int set)]) (by decide) rfl (Nat.le_of_ble_eq_true rfl) rfl ?_
  rintro z rfl rfl hz - E T
  refine r_iload_n E 1 dX5_isIn_0 rfl rfl rfl ?_
  refine r_iload_n E 0 dX5_isIn_1 rfl rfl rfl ?_
  refine r_ishr E dX5_isIn_2 rfl ?_
  refine r_iconst E (v := 1) dX5_isIn_3 (by decide) rfl ?_
  refine r_iand E dX5_isIn_4 rfl ?_
  refine r_iconst E (v := 1) dX5_isIn_5 (by decide) rfl ?_
  refine r_join 14 (if (set >>> (m &&& 31)) &&& 1 = 1 then 1 else 0) (rest := []) ?_ (fun hj1 => ?_)
  · exact r_zret E T (b01 (Or.inr rfl) (Or.inl rfl)) dX5_isIn_14 (eqI.mk (by rw [fX5_isIn]) rfl)
  · refine r_icmp_ne E 13 dX5_isIn_6 (by decide) rfl (fun c1 => ?_) (fun c1 => ?_)
    · refine r_iconst E (v := 0) dX5_isIn_13 (by decide) rfl ?_
      exact hj1 _ (by rw [if_neg c1])
    · refine r_iconst E (v := 1) dX5_isIn_9 (by decide) rfl ?_
      refine r_goto E 14 dX5_isIn_10 (by decide) ?_
      exact hj1 _ (by rw [if_pos c1])
def fX5_isWithin (G : Nat → Nat → Int32) (V : Nat → Int32) (part : Int32) (set : Int32) : Int32 := if part &&& (set ^^^ (-1)) = 0 then 1 else 0
theorem b_X5_isWithin (G : Nat → Nat → Int32) (V : Nat → Int32) (part : Int32) (set : Int32) : fX5_isWithin G V part set = 0 ∨ fX5_isWithin G V part set = 1 := (b01 (Or.inr rfl) (Or.inl rfl))
set_option maxRecDepth 100000 in
set_option maxHeartbeats 4000000 in
theorem c_X5_isWithin {l : Launch} {k : Kt} {ad : Nat → Nat} {G : Nat → Nat → Int32} {V : Nat → Int32} {n : Nat} (part : Int32) (set : Int32) : CT l k yX5_isWithin cX5_isWithin 2 (some .boolean) 0 [.int part, .int set] (WC k ad G V n) (eqI (fX5_isWithin G V part set) (WC k ad G V n)) 0 0 := by
  refine ct_of (own := RX5) (lv0 := [(0, .int part), (1, .int set)]) (by decide) rfl (Nat.le_of_ble_eq_true rfl) rfl ?_
  rintro z rfl rfl hz - E T
  refine r_iload_n E 0 dX5_isWithin_0 rfl rfl rfl ?_
  refine r_iload_n E 1 dX5_isWithin_1 rfl rfl rfl ?_
  refine r_iconst E (v := (-1)) dX5_isWithin_2 (by decide) rfl ?_
  refine r_ixor E dX5_isWithin_3 rfl ?_
  refine r_iand E dX5_isWithin_4 rfl ?_
  refine r_join 13 (if part &&& (set ^^^ (-1)) = 0 then 1 else 0) (rest := []) ?_ (fun hj1 => ?_)
  · exact r_zret E T (b01 (Or.inr rfl) (Or.inl rfl)) dX5_isWithin_13 (eqI.mk (by rw [fX5_isWithin]) rfl)
  · refine r_if_ne E 12 dX5_isWithin_5 (by decide) rfl (fun c1 => ?_) (fun c1 => ?_)
    · refine r_iconst E (v := 0) dX5_isWithin_12 (by decide) rfl ?_
      exact hj1 _ (by rw [if_neg c1])
    · refine r_iconst E (v := 1) dX5_isWithin_8 (by decide) rfl ?_
      refine r_goto E 13 dX5_isWithin_9 (by decide) ?_
      exact hj1 _ (by rw [if_pos c1])
def fX5_asNumber (G : Nat → Nat → Int32) (V : Nat → Int32) (holds : Int32) : Int32 := if holds = 0 then 0 else 1
set_option maxRecDepth 100000 in
set_option maxHeartbeats 4000000 in
theorem c_X5_asNumber {l : Launch} {k : Kt} {ad : Nat → Nat} {G : Nat → Nat → Int32} {V : Nat → Int32} {n : Nat} (holds : Int32) : CT l k yX5_asNumber cX5_asNumber 1 (some .int) 0 [.int holds] (WC k ad G V n) (eqI (fX5_asNumber G V holds) (WC k ad G V n)) 0 0 := by
  refine ct_of (own := RX5) (lv0 := [(0, .int holds)]) (by decide) rfl (Nat.le_of_ble_eq_true rfl) rfl ?_
  rintro z rfl rfl hz - E T
  refine r_iload_n E 0 dX5_asNumber_0 rfl rfl rfl ?_
  refine r_join 9 (if holds = 0 then 0 else 1) (rest := []) ?_ (fun hj1 => ?_)
  · exact r_iret E T dX5_asNumber_9 (eqI.mk (by rw [fX5_asNumber]) rfl)
  · refine r_if_eq E 8 dX5_asNumber_1 (by decide) rfl (fun c1 => ?_) (fun c1 => ?_)
    · refine r_iconst E (v := 0) dX5_asNumber_8 (by decide) rfl ?_
      exact hj1 _ (by rw [if_pos c1])
    · refine r_iconst E (v := 1) dX5_asNumber_4 (by decide) rfl ?_
      refine r_goto E 9 dX5_asNumber_5 (by decide) ?_
      exact hj1 _ (by rw [if_neg c1])
def fX0_takesFirst (G : Nat → Nat → Int32) (V : Nat → Int32) (kind : Int32) : Int32 := if kind < 2 then 0 else 1
theorem b_X0_takesFirst (G : Nat → Nat → Int32) (V : Nat → Int32) (kind : Int32) : fX0_takesFirst G V kind = 0 ∨ fX0_takesFirst G V kind = 1 := (b01 (Or.inl rfl) (Or.inr rfl))
set_option maxRecDepth 100000 in
set_option maxHeartbeats 4000000 in
theorem c_X0_takesFirst {l : Launch} {k : Kt} {ad : Nat → Nat} {G : Nat → Nat → Int32} {V : Nat → Int32} {n : Nat} (kind : Int32) : CT l k yX0_takesFirst cX0_takesFirst 1 (some .boolean) 0 [.int kind] (WC k ad G V n) (eqI (fX0_takesFirst G V kind) (WC k ad G V n)) 0 0 := by
  refine ct_of (own := RX0) (lv0 := [(0, .int kind)]) (by decide) rfl (Nat.le_of_ble_eq_true rfl) rfl ?_
  rintro z rfl rfl hz - E T
  refine r_iload_n E 0 dX0_takesFirst_0 rfl rfl rfl ?_
  refine r_iconst E (v := 2) dX0_takesFirst_1 (by decide) rfl ?_
  refine r_join 10 (if kind < 2 then 0 else 1) (rest := []) ?_ (fun hj1 => ?_)
  · exact r_zret E T (b01 (Or.inl rfl) (Or.inr rfl)) dX0_takesFirst_10 (eqI.mk (by rw [fX0_takesFirst]) rfl)
  · refine r_icmp_lt E 9 dX0_takesFirst_2 (by decide) rfl (fun c1 => ?_) (fun c1 => ?_)
    · refine r_iconst E (v := 0) dX0_takesFirst_9 (by decide) rfl ?_
      exact hj1 _ (by rw [if_pos c1])
    · refine r_iconst E (v := 1) dX0_takesFirst_5 (by decide) rfl ?_
      refine r_goto E 10 dX0_takesFirst_6 (by decide) ?_
      exact hj1 _ (by rw [if_neg c1])
def fX0_takesSecond (G : Nat → Nat → Int32) (V : Nat → Int32) (kind : Int32) : Int32 := if kind < 2 then 0 else (if kind = 6 then 0 else (if kind = 11 then 0 else 1))
theorem b_X0_takesSecond (G : Nat → Nat → Int32) (V : Nat → Int32) (kind : Int32) : fX0_takesSecond G V kind = 0 ∨ fX0_takesSecond G V kind = 1 := (b01 (Or.inl rfl) (b01 (Or.inl rfl) (b01 (Or.inl rfl) (Or.inr rfl))))
set_option maxRecDepth 100000 in
set_option maxHeartbeats 4000000 in
theorem c_X0_takesSecond {l : Launch} {k : Kt} {ad : Nat → Nat} {G : Nat → Nat → Int32} {V : Nat → Int32} {n : Nat} (kind : Int32) : CT l k yX0_takesSecond cX0_takesSecond 1 (some .boolean) 0 [.int kind] (WC k ad G V n) (eqI (fX0_takesSecond G V kind) (WC k ad G V n)) 0 0 := by
  refine ct_of (own := RX0) (lv0 := [(0, .int kind)]) (by decide) rfl (Nat.le_of_ble_eq_true rfl) rfl ?_
  rintro z rfl rfl hz - E T
  refine r_iload_n E 0 dX0_takesSecond_0 rfl rfl rfl ?_
  refine r_iconst E (v := 2) dX0_takesSecond_1 (by decide) rfl ?_
  refine r_join 22 (if kind < 2 then 0 else (if kind = 6 then 0 else (if kind = 11 then 0 else 1))) (rest := []) ?_ (fun hj1 => ?_)
  · exact r_zret E T (b01 (Or.inl rfl) (b01 (Or.inl rfl) (b01 (Or.inl rfl) (Or.inr rfl)))) dX0_takesSecond_22 (eqI.mk (by rw [fX0_takesSecond]) rfl)
  · refine r_icmp_lt E 21 dX0_takesSecond_2 (by decide) rfl (fun c1 => ?_) (fun c1 => ?_)
    · refine r_iconst E (v := 0) dX0_takesSecond_21 (by decide) rfl ?_
      exact hj1 _ (by rw [if_pos c1])
    · refine r_iload_n E 0 dX0_takesSecond_5 rfl rfl rfl ?_
      refine r_bipush E (v := 6) dX0_takesSecond_6 (by decide) rfl ?_
      refine r_icmp_eq E 21 dX0_takesSecond_8 (by decide) rfl (fun c2 => ?_) (fun c2 => ?_)
      · refine r_iconst E (v := 0) dX0_takesSecond_21 (by decide) rfl ?_
        exact hj1 _ (by rw [if_neg c1, if_pos c2])
      · refine r_iload_n E 0 dX0_takesSecond_11 rfl rfl rfl ?_
        refine r_bipush E (v := 11) dX0_takesSecond_12 (by decide) rfl ?_
        refine r_icmp_eq E 21 dX0_takesSecond_14 (by decide) rfl (fun c3 => ?_) (fun c3 => ?_)
        · refine r_iconst E (v := 0) dX0_takesSecond_21 (by decide) rfl ?_
          exact hj1 _ (by rw [if_neg c1, if_neg c2, if_pos c3])
        · refine r_iconst E (v := 1) dX0_takesSecond_17 (by decide) rfl ?_
          refine r_goto E 22 dX0_takesSecond_18 (by decide) ?_
          exact hj1 _ (by rw [if_neg c1, if_neg c2, if_neg c3])
def fX0_has (G : Nat → Nat → Int32) (V : Nat → Int32) (f : Int32) : Int32 := if f < 0 then 0 else (if V 0 ≤ f then 0 else 1)
theorem b_X0_has (G : Nat → Nat → Int32) (V : Nat → Int32) (f : Int32) : fX0_has G V f = 0 ∨ fX0_has G V f = 1 := (b01 (Or.inl rfl) (b01 (Or.inl rfl) (Or.inr rfl)))
set_option maxRecDepth 100000 in
set_option maxHeartbeats 4000000 in
theorem c_X0_has {l : Launch} {k : Kt} {ad : Nat → Nat} {G : Nat → Nat → Int32} {V : Nat → Int32} {n : Nat} (f : Int32) : CT l k yX0_has cX0_has 2 (some .boolean) 0 [.ref (ad 5), .int f] (WC k ad G V n) (eqI (fX0_has G V f) (WC k ad G V n)) 0 0 := by
  refine ct_of (own := RX0) (lv0 := [(0, .ref (ad 5)), (1, .int f)]) (by decide) rfl (Nat.le_of_ble_eq_true rfl) rfl ?_
  rintro z rfl rfl hz - E T
  refine r_iload_n E 1 dX0_has_0 rfl rfl rfl ?_
  refine r_join 17 (if f < 0 then 0 else (if V 0 ≤ f then 0 else 1)) (rest := []) ?_ (fun hj1 => ?_)
  · exact r_zret E T (b01 (Or.inl rfl) (b01 (Or.inl rfl) (Or.inr rfl))) dX0_has_17 (eqI.mk (by rw [fX0_has]) rfl)
  · refine r_if_lt E 16 dX0_has_1 (by decide) rfl (fun c1 => ?_) (fun c1 => ?_)
    · refine r_iconst E (v := 0) dX0_has_16 (by decide) rfl ?_
      exact hj1 _ (by rw [if_pos c1])
    · refine r_iload_n E 1 dX0_has_4 rfl rfl rfl ?_
      refine r_aload_n E 0 dX0_has_5 rfl rfl rfl ?_
      refine r_get E fX0_31 5 wc_5 rfl dX0_has_6 rfl ?_
      refine r_icmp_ge E 16 dX0_has_9 (by decide) rfl (fun c2 => ?_) (fun c2 => ?_)
      · refine r_iconst E (v := 0) dX0_has_16 (by decide) rfl ?_
        exact hj1 _ (by rw [if_neg c1, if_pos c2])
      · refine r_iconst E (v := 1) dX0_has_12 (by decide) rfl ?_
        refine r_goto E 17 dX0_has_13 (by decide) ?_
        exact hj1 _ (by rw [if_neg c1, if_neg c2])
def fX0_isAsTold (G : Nat → Nat → Int32) (V : Nat → Int32) (kind : Int32) (a : Int32) (b : Int32) : Int32 := if kind < 0 then 0 else (if 12 ≤ kind then 0 else (if kind = 0 then (if fX5_isMember G V a = 0 then 0 else (if fX0_takesFirst G V kind = 0 then (if fX0_takesSecond G V kind = 0 then 1 else (if fX0_has G V b = 0 then 0 else 1)) else (if fX0_has G V a = 0 then 0 else (if fX0_takesSecond G V kind = 0 then 1 else (if fX0_has G V b = 0 then 0 else 1))))) else (if fX0_takesFirst G V kind = 0 then (if fX0_takesSecond G V kind = 0 then 1 else (if fX0_has G V b = 0 then 0 else 1)) else (if fX0_has G V a = 0 then 0 else (if fX0_takesSecond G V kind = 0 then 1 else (if fX0_has G V b = 0 then 0 else 1))))))
theorem b_X0_isAsTold (G : Nat → Nat → Int32) (V : Nat → Int32) (kind : Int32) (a : Int32) (b : Int32) : fX0_isAsTold G V kind a b = 0 ∨ fX0_isAsTold G V kind a b = 1 := (b01 (Or.inl rfl) (b01 (Or.inl rfl) (b01 (b01 (Or.inl rfl) (b01 (b01 (Or.inr rfl) (b01 (Or.inl rfl) (Or.inr rfl))) (b01 (Or.inl rfl) (b01 (Or.inr rfl) (b01 (Or.inl rfl) (Or.inr rfl)))))) (b01 (b01 (Or.inr rfl) (b01 (Or.inl rfl) (Or.inr rfl))) (b01 (Or.inl rfl) (b01 (Or.inr rfl) (b01 (Or.inl rfl) (Or.inr rfl))))))))
set_option maxRecDepth 100000 in
set_option maxHeartbeats 4000000 in
theorem c_X0_isAsTold {l : Launch} {k : Kt} {ad : Nat → Nat} {G : Nat → Nat → Int32} {V : Nat → Int32} {n : Nat} (kind : Int32) (a : Int32) (b : Int32) : CT l k yX0_isAsTold cX0_isAsTold 4 (some .boolean) 1 [.ref (ad 5), .int kind, .int a, .int b] (WC k ad G V n) (eqI (fX0_isAsTold G V kind a b) (WC k ad G V n)) 0 0 := by
  refine ct_of (own := RX0) (lv0 := [(0, .ref (ad 5)), (1, .int kind), (2, .int a), (3, .int b)]) (by decide) rfl (Nat.le_of_ble_eq_true rfl) rfl ?_
  rintro z rfl rfl hz - E T
  refine r_iload_n E 1 dX0_isAsTold_0 rfl rfl rfl ?_
  refine r_if_lt E 21 dX0_isAsTold_1 (by decide) rfl (fun c1 => ?_) (fun c1 => ?_)
  · refine r_iconst E (v := 0) dX0_isAsTold_21 (by decide) rfl ?_
    exact r_zret E T (Or.inl rfl) dX0_isAsTold_22 (eqI.mk (by rw [fX0_isAsTold, if_pos c1]) rfl)
  · refine r_iload_n E 1 dX0_isAsTold_4 rfl rfl rfl ?_
    refine r_bipush E (v := 12) dX0_isAsTold_5 (by decide) rfl ?_
    refine r_icmp_ge E 21 dX0_isAsTold_7 (by decide) rfl (fun c2 => ?_) (fun c2 => ?_)
    · refine r_iconst E (v := 0) dX0_isAsTold_21 (by decide) rfl ?_
      exact r_zret E T (Or.inl rfl) dX0_isAsTold_22 (eqI.mk (by rw [fX0_isAsTold, if_neg c1, if_pos c2]) rfl)
    · refine r_iload_n E 1 dX0_isAsTold_10 rfl rfl rfl ?_
      refine r_if_ne E 23 dX0_isAsTold_11 (by decide) rfl (fun c3 => ?_) (fun c3 => ?_)
      · refine r_iload_n E 1 dX0_isAsTold_23 rfl rfl rfl ?_
        refine rSi E csX0_39 T.rr [.int kind] (c_X0_takesFirst kind) (by decide) rfl rfl (Nat.le_of_ble_eq_true rfl) ⟨(Nat.le_of_ble_eq_true rfl), (Nat.le_of_ble_eq_true rfl)⟩ dX0_isAsTold_24 rfl ?_
        refine r_join 58 (if fX0_takesFirst G V kind = 0 then (if fX0_takesSecond G V kind = 0 then 1 else (if fX0_has G V b = 0 then 0 else 1)) else (if fX0_has G V a = 0 then 0 else (if fX0_takesSecond G V kind = 0 then 1 else (if fX0_has G V b = 0 then 0 else 1)))) (rest := []) ?_ (fun hj1 => ?_)
        · exact r_zret E T (b01 (b01 (Or.inr rfl) (b01 (Or.inl rfl) (Or.inr rfl))) (b01 (Or.inl rfl) (b01 (Or.inr rfl) (b01 (Or.inl rfl) (Or.inr rfl))))) dX0_isAsTold_58 (eqI.mk (by rw [fX0_isAsTold, if_neg c1, if_neg c2, if_neg c3]) rfl)
        · refine r_if_eq E 38 dX0_isAsTold_27 (by decide) rfl (fun c4 => ?_) (fun c4 => ?_)
          · refine r_iload_n E 1 dX0_isAsTold_38 rfl rfl rfl ?_
            refine rSi E csX0_45 T.rr [.int kind] (c_X0_takesSecond kind) (by decide) rfl rfl (Nat.le_of_ble_eq_true rfl) ⟨(Nat.le_of_ble_eq_true rfl), (Nat.le_of_ble_eq_true rfl)⟩ dX0_isAsTold_39 rfl ?_
            refine r_if_eq E 53 dX0_isAsTold_42 (by decide) rfl (fun c5 => ?_) (fun c5 => ?_)
            · refine r_iconst E (v := 1) dX0_isAsTold_53 (by decide) rfl ?_
              refine r_goto E 58 dX0_isAsTold_54 (by decide) ?_
              exact hj1 _ (by rw [if_pos c4, if_pos c5])
            · refine r_aload_n E 0 dX0_isAsTold_45 rfl rfl rfl ?_
              refine r_iload_n E 3 dX0_isAsTold_46 rfl rfl rfl ?_
              refine rVi E cvX0_42 T.rr 5 wc_5 rfl [.int b] (c_X0_has b) (by decide) rfl rfl (Nat.le_of_ble_eq_true rfl) ⟨(Nat.le_of_ble_eq_true rfl), (Nat.le_of_ble_eq_true rfl)⟩ dX0_isAsTold_47 rfl ?_
              refine r_if_eq E 57 dX0_isAsTold_50 (by decide) rfl (fun c6 => ?_) (fun c6 => ?_)
              · refine r_iconst E (v := 0) dX0_isAsTold_57 (by decide) rfl ?_
                exact hj1 _ (by rw [if_pos c4, if_neg c5, if_pos c6])
              · refine r_iconst E (v := 1) dX0_isAsTold_53 (by decide) rfl ?_
                refine r_goto E 58 dX0_isAsTold_54 (by decide) ?_
                exact hj1 _ (by rw [if_pos c4, if_neg c5, if_neg c6])
          · refine r_aload_n E 0 dX0_isAsTold_30 rfl rfl rfl ?_
            refine r_iload_n E 2 dX0_isAsTold_31 rfl rfl rfl ?_
            refine rVi E cvX0_42 T.rr 5 wc_5 rfl [.int a] (c_X0_has a) (by decide) rfl rfl (Nat.le_of_ble_eq_true rfl) ⟨(Nat.le_of_ble_eq_true rfl), (Nat.le_of_ble_eq_true rfl)⟩ dX0_isAsTold_32 rfl ?_
            refine r_if_eq E 57 dX0_isAsTold_35 (by decide) rfl (fun c7 => ?_) (fun c7 => ?_)
            · refine r_iconst E (v := 0) dX0_isAsTold_57 (by decide) rfl ?_
              exact hj1 _ (by rw [if_neg c4, if_pos c7])
            · refine r_iload_n E 1 dX0_isAsTold_38 rfl rfl rfl ?_
              refine rSi E csX0_45 T.rr [.int kind] (c_X0_takesSecond kind) (by decide) rfl rfl (Nat.le_of_ble_eq_true rfl) ⟨(Nat.le_of_ble_eq_true rfl), (Nat.le_of_ble_eq_true rfl)⟩ dX0_isAsTold_39 rfl ?_
              refine r_if_eq E 53 dX0_isAsTold_42 (by decide) rfl (fun c8 => ?_) (fun c8 => ?_)
              · refine r_iconst E (v := 1) dX0_isAsTold_53 (by decide) rfl ?_
                refine r_goto E 58 dX0_isAsTold_54 (by decide) ?_
                exact hj1 _ (by rw [if_neg c4, if_neg c7, if_pos c8])
              · refine r_aload_n E 0 dX0_isAsTold_45 rfl rfl rfl ?_
                refine r_iload_n E 3 dX0_isAsTold_46 rfl rfl rfl ?_
                refine rVi E cvX0_42 T.rr 5 wc_5 rfl [.int b] (c_X0_has b) (by decide) rfl rfl (Nat.le_of_ble_eq_true rfl) ⟨(Nat.le_of_ble_eq_true rfl), (Nat.le_of_ble_eq_true rfl)⟩ dX0_isAsTold_47 rfl ?_
                refine r_if_eq E 57 dX0_isAsTold_50 (by decide) rfl (fun c9 => ?_) (fun c9 => ?_)
                · refine r_iconst E (v := 0) dX0_isAsTold_57 (by decide) rfl ?_
                  exact hj1 _ (by rw [if_neg c4, if_neg c7, if_neg c8, if_pos c9])
                · refine r_iconst E (v := 1) dX0_isAsTold_53 (by decide) rfl ?_
                  refine r_goto E 58 dX0_isAsTold_54 (by decide) ?_
                  exact hj1 _ (by rw [if_neg c4, if_neg c7, if_neg c8, if_neg c9])
      · refine r_iload_n E 2 dX0_isAsTold_14 rfl rfl rfl ?_
        refine rSNi E cnX0_35 T.rr [.int a] (c_X5_isMember a) (by decide) rfl rfl (Nat.le_of_ble_eq_true rfl) ⟨(Nat.le_of_ble_eq_true rfl), (Nat.le_of_ble_eq_true rfl)⟩ dX0_isAsTold_15 rfl ?_
        refine r_if_ne E 23 dX0_isAsTold_18 (by decide) rfl (fun c10 => ?_) (fun c10 => ?_)
        · refine r_iload_n E 1 dX0_isAsTold_23 rfl rfl rfl ?_
          refine rSi E csX0_39 T.rr [.int kind] (c_X0_takesFirst kind) (by decide) rfl rfl (Nat.le_of_ble_eq_true rfl) ⟨(Nat.le_of_ble_eq_true rfl), (Nat.le_of_ble_eq_true rfl)⟩ dX0_isAsTold_24 rfl ?_
          refine r_join 58 (if fX0_takesFirst G V kind = 0 then (if fX0_takesSecond G V kind = 0 then 1 else (if fX0_has G V b = 0 then 0 else 1)) else (if fX0_has G V a = 0 then 0 else (if fX0_takesSecond G V kind = 0 then 1 else (if fX0_has G V b = 0 then 0 else 1)))) (rest := []) ?_ (fun hj2 => ?_)
          · exact r_zret E T (b01 (b01 (Or.inr rfl) (b01 (Or.inl rfl) (Or.inr rfl))) (b01 (Or.inl rfl) (b01 (Or.inr rfl) (b01 (Or.inl rfl) (Or.inr rfl))))) dX0_isAsTold_58 (eqI.mk (by rw [fX0_isAsTold, if_neg c1, if_neg c2, if_pos c3, if_neg c10]) rfl)
          · refine r_if_eq E 38 dX0_isAsTold_27 (by decide) rfl (fun c11 => ?_) (fun c11 => ?_)
            · refine r_iload_n E 1 dX0_isAsTold_38 rfl rfl rfl ?_
              refine rSi E csX0_45 T.rr [.int kind] (c_X0_takesSecond kind) (by decide) rfl rfl (Nat.le_of_ble_eq_true rfl) ⟨(Nat.le_of_ble_eq_true rfl), (Nat.le_of_ble_eq_true rfl)⟩ dX0_isAsTold_39 rfl ?_
              refine r_if_eq E 53 dX0_isAsTold_42 (by decide) rfl (fun c12 => ?_) (fun c12 => ?_)
              · refine r_iconst E (v := 1) dX0_isAsTold_53 (by decide) rfl ?_
                refine r_goto E 58 dX0_isAsTold_54 (by decide) ?_
                exact hj2 _ (by rw [if_pos c11, if_pos c12])
              · refine r_aload_n E 0 dX0_isAsTold_45 rfl rfl rfl ?_
                refine r_iload_n E 3 dX0_isAsTold_46 rfl rfl rfl ?_
                refine rVi E cvX0_42 T.rr 5 wc_5 rfl [.int b] (c_X0_has b) (by decide) rfl rfl (Nat.le_of_ble_eq_true rfl) ⟨(Nat.le_of_ble_eq_true rfl), (Nat.le_of_ble_eq_true rfl)⟩ dX0_isAsTold_47 rfl ?_
                refine r_if_eq E 57 dX0_isAsTold_50 (by decide) rfl (fun c13 => ?_) (fun c13 => ?_)
                · refine r_iconst E (v := 0) dX0_isAsTold_57 (by decide) rfl ?_
                  exact hj2 _ (by rw [if_pos c11, if_neg c12, if_pos c13])
                · refine r_iconst E (v := 1) dX0_isAsTold_53 (by decide) rfl ?_
                  refine r_goto E 58 dX0_isAsTold_54 (by decide) ?_
                  exact hj2 _ (by rw [if_pos c11, if_neg c12, if_neg c13])
            · refine r_aload_n E 0 dX0_isAsTold_30 rfl rfl rfl ?_
              refine r_iload_n E 2 dX0_isAsTold_31 rfl rfl rfl ?_
              refine rVi E cvX0_42 T.rr 5 wc_5 rfl [.int a] (c_X0_has a) (by decide) rfl rfl (Nat.le_of_ble_eq_true rfl) ⟨(Nat.le_of_ble_eq_true rfl), (Nat.le_of_ble_eq_true rfl)⟩ dX0_isAsTold_32 rfl ?_
              refine r_if_eq E 57 dX0_isAsTold_35 (by decide) rfl (fun c14 => ?_) (fun c14 => ?_)
              · refine r_iconst E (v := 0) dX0_isAsTold_57 (by decide) rfl ?_
                exact hj2 _ (by rw [if_neg c11, if_pos c14])
              · refine r_iload_n E 1 dX0_isAsTold_38 rfl rfl rfl ?_
                refine rSi E csX0_45 T.rr [.int kind] (c_X0_takesSecond kind) (by decide) rfl rfl (Nat.le_of_ble_eq_true rfl) ⟨(Nat.le_of_ble_eq_true rfl), (Nat.le_of_ble_eq_true rfl)⟩ dX0_isAsTold_39 rfl ?_
                refine r_if_eq E 53 dX0_isAsTold_42 (by decide) rfl (fun c15 => ?_) (fun c15 => ?_)
                · refine r_iconst E (v := 1) dX0_isAsTold_53 (by decide) rfl ?_
                  refine r_goto E 58 dX0_isAsTold_54 (by decide) ?_
                  exact hj2 _ (by rw [if_neg c11, if_neg c14, if_pos c15])
                · refine r_aload_n E 0 dX0_isAsTold_45 rfl rfl rfl ?_
                  refine r_iload_n E 3 dX0_isAsTold_46 rfl rfl rfl ?_
                  refine rVi E cvX0_42 T.rr 5 wc_5 rfl [.int b] (c_X0_has b) (by decide) rfl rfl (Nat.le_of_ble_eq_true rfl) ⟨(Nat.le_of_ble_eq_true rfl), (Nat.le_of_ble_eq_true rfl)⟩ dX0_isAsTold_47 rfl ?_
                  refine r_if_eq E 57 dX0_isAsTold_50 (by decide) rfl (fun c16 => ?_) (fun c16 => ?_)
                  · refine r_iconst E (v := 0) dX0_isAsTold_57 (by decide) rfl ?_
                    exact hj2 _ (by rw [if_neg c11, if_neg c14, if_neg c15, if_pos c16])
                  · refine r_iconst E (v := 1) dX0_isAsTold_53 (by decide) rfl ?_
                    refine r_goto E 58 dX0_isAsTold_54 (by decide) ?_
                    exact hj2 _ (by rw [if_neg c11, if_neg c14, if_neg c15, if_neg c16])
        · refine r_iconst E (v := 0) dX0_isAsTold_21 (by decide) rfl ?_
          exact r_zret E T (Or.inl rfl) dX0_isAsTold_22 (eqI.mk (by rw [fX0_isAsTold, if_neg c1, if_neg c2, if_pos c3, if_pos c10]) rfl)
