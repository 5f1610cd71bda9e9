/-- one place of one array -/
def ug (G : Nat → Nat → Int32) (p i : Nat) (x : Int32) : Nat → Nat → Int32 := va_up G p (upd (G p) i x)
def WC (k : Kt) (ad : Nat → Nat) (G : Nat → Nat → Int32) (V : Nat → Int32) (n : Nat) : va_W := [
  (ad 0, .inr (5, [.ref (ad 1), .ref (ad 5), .ref (ad 12), .ref (ad 23), .ref (ad 27)])),
  (ad 1, .inr (4, [.ref (ad 2), .ref (ad 3), .ref (ad 4)])),
  (ad 2, .inl (k.2.1, 72, .inl (G 2))),
  (ad 3, .inl (k.2.1, 4, .inl (G 3))),
  (ad 4, .inl (k.2.1, 8, .inl (G 4))),
  (ad 5, .inr (0, [.ref (ad 6), .ref (ad 7), .ref (ad 8), .ref (ad 9), .ref (ad 10), .ref (ad 11), .int (V 0)])),
  (ad 6, .inl (k.2.1, 40, .inl (G 6))),
  (ad 7, .inl (k.2.1, 40, .inl (G 7))),
  (ad 8, .inl (k.2.1, 40, .inl (G 8))),
  (ad 9, .inl (k.2.1, 40, .inl (G 9))),
  (ad 10, .inl (k.2.1, 40, .inl (G 10))),
  (ad 11, .inl (k.2.2, 40, .inl (G 11))),
  (ad 12, .inr (1, [.ref (ad 5), .ref (ad 13), .ref (ad 14), .ref (ad 15), .ref (ad 16), .ref (ad 17), .ref (ad 18), .ref (ad 19), .int (V 1), .ref (ad 20), .ref (ad 21), .ref (ad 22)])),
  (ad 13, .inl (k.2.1, 60, .inl (G 13))),
  (ad 14, .inl (k.2.1, 60, .inl (G 14))),
  (ad 15, .inl (k.2.1, 60, .inl (G 15))),
  (ad 16, .inl (k.2.1, 60, .inl (G 16))),
  (ad 17, .inl (k.2.1, 60, .inl (G 17))),
  (ad 18, .inl (k.2.1, 60, .inl (G 18))),
  (ad 19, .inl (k.2.2, 60, .inl (G 19))),
  (ad 20, .inl (k.2.1, 60, .inl (G 20))),
  (ad 21, .inl (k.2.1, 60, .inl (G 21))),
  (ad 22, .inl (k.2.1, 60, .inl (G 22))),
  (ad 23, .inr (3, [.ref (ad 1), .ref (ad 5), .ref (ad 12), .ref (ad 24), .int (V 2), .ref (ad 25), .ref (ad 26), .int (V 3), .int (V 4), .int (V 5), .int (V 6), .int (V 7), .int (V 8)])),
  (ad 24, .inl (k.2.1, n, .inl (G 24))),
  (ad 25, .inl (k.2.1, 60, .inl (G 25))),
  (ad 26, .inl (k.2.1, 60, .inl (G 26))),
  (ad 27, .inr (2, [.ref (ad 5), .ref (ad 12), .int (V 9)]))]
theorem wc_0 {k : Kt} {ad : Nat → Nat} {G : Nat → Nat → Int32} {V : Nat → Int32} {n : Nat} : (WC k ad G V n)[0]? = some (ad 0, .inr (5, [.ref (ad 1), .ref (ad 5), .ref (ad 12), .ref (ad 23), .ref (ad 27)])) := rfl
theorem wc_1 {k : Kt} {ad : Nat → Nat} {G : Nat → Nat → Int32} {V : Nat → Int32} {n : Nat} : (WC k ad G V n)[1]? = some (ad 1, .inr (4, [.ref (ad 2), .ref (ad 3), .ref (ad 4)])) := rfl
theorem wc_2 {k : Kt} {ad : Nat → Nat} {G : Nat → Nat → Int32} {V : Nat → Int32} {n : Nat} : (WC k ad G V n)[2]? = some (ad 2, .inl (k.2.1, 72, .inl (G 2))) := rfl
theorem wcs_2 {k : Kt} {ad : Nat → Nat} {G : Nat → Nat → Int32} {V : Nat → Int32} {n : Nat} {f : Nat → Int32} : (WC k ad G V n).set 2 (ad 2, .inl (k.2.1, 72, .inl f)) = WC k ad (va_up G 2 f) V n := rfl
theorem wcu_2 {k : Kt} {ad : Nat → Nat} {G : Nat → Nat → Int32} {V : Nat → Int32} {n : Nat} {i : Nat} {x : Int32} : (WC k ad G V n).set 2 (ad 2, .inl (k.2.1, 72, .inl (upd (G 2) i x))) = WC k ad (ug G 2 i x) V n := rfl
theorem wc_3 {k : Kt} {ad : Nat → Nat} {G : Nat → Nat → Int32} {V : Nat → Int32} {n : Nat} : (WC k ad G V n)[3]? = some (ad 3, .inl (k.2.1, 4, .inl (G 3))) := rfl
theorem wcs_3 {k : Kt} {ad : Nat → Nat} {G : Nat → Nat → Int32} {V : Nat → Int32} {n : Nat} {f : Nat → Int32} : (WC k ad G V n).set 3 (ad 3, .inl (k.2.1, 4, .inl f)) = WC k ad (va_up G 3 f) V n := rfl
theorem wcu_3 {k : Kt} {ad : Nat → Nat} {G : Nat → Nat → Int32} {V : Nat → Int32} {n : Nat} {i : Nat} {x : Int32} : (WC k ad G V n).set 3 (ad 3, .inl (k.2.1, 4, .inl (upd (G 3) i x))) = WC k ad (ug G 3 i x) V n := rfl
theorem wc_4 {k : Kt} {ad : Nat → Nat} {G : Nat → Nat → Int32} {V : Nat → Int32} {n : Nat} : (WC k ad G V n)[4]? = some (ad 4, .inl (k.2.1, 8, .inl (G 4))) := rfl
theorem wcs_4 {k : Kt} {ad : Nat → Nat} {G : Nat → Nat → Int32} {V : Nat → Int32} {n : Nat} {f : Nat → Int32} : (WC k ad G V n).set 4 (ad 4, .inl (k.2.1, 8, .inl f)) = WC k ad (va_up G 4 f) V n := rfl
theorem wcu_4 {k : Kt} {ad : Nat → Nat} {G : Nat → Nat → Int32} {V : Nat → Int32} {n : Nat} {i : Nat} {x : Int32} : (WC k ad G V n).set 4 (ad 4, .inl (k.2.1, 8, .inl (upd (G 4) i x))) = WC k ad (ug G 4 i x) V n := rfl
theorem wc_5 {k : Kt} {ad : Nat → Nat} {G : Nat → Nat → Int32} {V : Nat → Int32} {n : Nat} : (WC k ad G V n)[5]? = some (ad 5, .inr (0, [.ref (ad 6), .ref (ad 7), .ref (ad 8), .ref (ad 9), .ref (ad 10), .ref (ad 11), .int (V 0)])) := rfl
theorem wcv_0 {k : Kt} {ad : Nat → Nat} {G : Nat → Nat → Int32} {V : Nat → Int32} {n : Nat} {x : Int32} : (WC k ad G V n).set 5 (ad 5, .inr (0, [.ref (ad 6), .ref (ad 7), .ref (ad 8), .ref (ad 9), .ref (ad 10), .ref (ad 11), .int x])) = WC k ad G (upd V 0 x) n := rfl
theorem wc_6 {k : Kt} {ad : Nat → Nat} {G : Nat → Nat → Int32} {V : Nat → Int32} {n : Nat} : (WC k ad G V n)[6]? = some (ad 6, .inl (k.2.1, 40, .inl (G 6))) := rfl
theorem wcs_6 {k : Kt} {ad : Nat → Nat} {G : Nat → Nat → Int32} {V : Nat → Int32} {n : Nat} {f : Nat → Int32} : (WC k ad G V n).set 6 (ad 6, .inl (k.2.1, 40, .inl f)) = WC k ad (va_up G 6 f) V n := rfl
theorem wcu_6 {k : Kt} {ad : Nat → Nat} {G : Nat → Nat → Int32} {V : Nat → Int32} {n : Nat} {i : Nat} {x : Int32} : (WC k ad G V n).set 6 (ad 6, .inl (k.2.1, 40, .inl (upd (G 6) i x))) = WC k ad (ug G 6 i x) V n := rfl
theorem wc_7 {k : Kt} {ad : Nat → Nat} {G : Nat → Nat → Int32} {V : Nat → Int32} {n : Nat} : (WC k ad G V n)[7]? = some (ad 7, .inl (k.2.1, 40, .inl (G 7))) := rfl
theorem wcs_7 {k : Kt} {ad : Nat → Nat} {G : Nat → Nat → Int32} {V : Nat → Int32} {n : Nat} {f : Nat → Int32} : (WC k ad G V n).set 7 (ad 7, .inl (k.2.1, 40, .inl f)) = WC k ad (va_up G 7 f) V n := rfl
theorem wcu_7 {k : Kt} {ad : Nat → Nat} {G : Nat → Nat → Int32} {V : Nat → Int32} {n : Nat} {i : Nat} {x : Int32} : (WC k ad G V n).set 7 (ad 7, .inl (k.2.1, 40, .inl (upd (G 7) i x))) = WC k ad (ug G 7 i x) V n := rfl
theorem wc_8 {k : Kt} {ad : Nat → Nat} {G : Nat → Nat → Int32} {V : Nat → Int32} {n : Nat} : (WC k ad G V n)[8]? = some (ad 8, .inl (k.2.1, 40, .inl (G 8))) := rfl
theorem wcs_8 {k : Kt} {ad : Nat → Nat} {G : Nat → Nat → Int32} {V : Nat → Int32} {n : Nat} {f : Nat → Int32} : (WC k ad G V n).set 8 (ad 8, .inl (k.2.1, 40, .inl f)) = WC k ad (va_up G 8 f) V n := rfl
theorem wcu_8 {k : Kt} {ad : Nat → Nat} {G : Nat → Nat → Int32} {V : Nat → Int32} {n : Nat} {i : Nat} {x : Int32} : (WC k ad G V n).set 8 (ad 8, .inl (k.2.1, 40, .inl (upd (G 8) i x))) = WC k ad (ug G 8 i x) V n := rfl
theorem wc_9 {k : Kt} {ad : Nat → Nat} {G : Nat → Nat → Int32} {V : Nat → Int32} {n : Nat} : (WC k ad G V n)[9]? = some (ad 9, .inl (k.2.1, 40, .inl (G 9))) := rfl
theorem wcs_9 {k : Kt} {ad : Nat → Nat} {G : Nat → Nat → Int32} {V : Nat → Int32} {n : Nat} {f : Nat → Int32} : (WC k ad G V n).set 9 (ad 9, .inl (k.2.1, 40, .inl f)) = WC k ad (va_up G 9 f) V n := rfl
theorem wcu_9 {k : Kt} {ad : Nat → Nat} {G : Nat → Nat → Int32} {V : Nat → Int32} {n : Nat} {i : Nat} {x : Int32} : (WC k ad G V n).set 9 (ad 9, .inl (k.2.1, 40, .inl (upd (G 9) i x))) = WC k ad (ug G 9 i x) V n := rfl
theorem wc_10 {k : Kt} {ad : Nat → Nat} {G : Nat → Nat → Int32} {V : Nat → Int32} {n : Nat} : (WC k ad G V n)[10]? = some (ad 10, .inl (k.2.1, 40, .inl (G 10))) := rfl
theorem wcs_10 {k : Kt} {ad : Nat → Nat} {G : Nat → Nat → Int32} {V : Nat → Int32} {n : Nat} {f : Nat → Int32} : (WC k ad G V n).set 10 (ad 10, .inl (k.2.1, 40, .inl f)) = WC k ad (va_up G 10 f) V n := rfl
theorem wcu_10 {k : Kt} {ad : Nat → Nat} {G : Nat → Nat → Int32} {V : Nat → Int32} {n : Nat} {i : Nat} {x : Int32} : (WC k ad G V n).set 10 (ad 10, .inl (k.2.1, 40, .inl (upd (G 10) i x))) = WC k ad (ug G 10 i x) V n := rfl
theorem wc_11 {k : Kt} {ad : Nat → Nat} {G : Nat → Nat → Int32} {V : Nat → Int32} {n : Nat} : (WC k ad G V n)[11]? = some (ad 11, .inl (k.2.2, 40, .inl (G 11))) := rfl
theorem wcs_11 {k : Kt} {ad : Nat → Nat} {G : Nat → Nat → Int32} {V : Nat → Int32} {n : Nat} {f : Nat → Int32} : (WC k ad G V n).set 11 (ad 11, .inl (k.2.2, 40, .inl f)) = WC k ad (va_up G 11 f) V n := rfl
theorem wcu_11 {k : Kt} {ad : Nat → Nat} {G : Nat → Nat → Int32} {V : Nat → Int32} {n : Nat} {i : Nat} {x : Int32} : (WC k ad G V n).set 11 (ad 11, .inl (k.2.2, 40, .inl (upd (G 11) i x))) = WC k ad (ug G 11 i x) V n := rfl
theorem wc_12 {k : Kt} {ad : Nat → Nat} {G : Nat → Nat → Int32} {V : Nat → Int32} {n : Nat} : (WC k ad G V n)[12]? = some (ad 12, .inr (1, [.ref (ad 5), .ref (ad 13), .ref (ad 14), .ref (ad 15), .ref (ad 16), .ref (ad 17), .ref (ad 18), .ref (ad 19), .int (V 1), .ref (ad 20), .ref (ad 21), .ref (ad 22)])) := rfl
theorem wcv_1 {k : Kt} {ad : Nat → Nat} {G : Nat → Nat → Int32} {V : Nat → Int32} {n : Nat} {x : Int32} : (WC k ad G V n).set 12 (ad 12, .inr (1, [.ref (ad 5), .ref (ad 13), .ref (ad 14), .ref (ad 15), .ref (ad 16), .ref (ad 17), .ref (ad 18), .ref (ad 19), .int x, .ref (ad 20), .ref (ad 21), .ref (ad 22)])) = WC k ad G (upd V 1 x) n := rfl
theorem wc_13 {k : Kt} {ad : Nat → Nat} {G : Nat → Nat → Int32} {V : Nat → Int32} {n : Nat} : (WC k ad G V n)[13]? = some (ad 13, .inl (k.2.1, 60, .inl (G 13))) := rfl
theorem wcs_13 {k : Kt} {ad : Nat → Nat} {G : Nat → Nat → Int32} {V : Nat → Int32} {n : Nat} {f : Nat → Int32} : (WC k ad G V n).set 13 (ad 13, .inl (k.2.1, 60, .inl f)) = WC k ad (va_up G 13 f) V n := rfl
theorem wcu_13 {k : Kt} {ad : Nat → Nat} {G : Nat → Nat → Int32} {V : Nat → Int32} {n : Nat} {i : Nat} {x : Int32} : (WC k ad G V n).set 13 (ad 13, .inl (k.2.1, 60, .inl (upd (G 13) i x))) = WC k ad (ug G 13 i x) V n := rfl
theorem wc_14 {k : Kt} {ad : Nat → Nat} {G : Nat → Nat → Int32} {V : Nat → Int32} {n : Nat} : (WC k ad G V n)[14]? = some (ad 14, .inl (k.2.1, 60, .inl (G 14))) := rfl
theorem wcs_14 {k : Kt} {ad : Nat → Nat} {G : Nat → Nat → Int32} {V : Nat → Int32} {n : Nat} {f : Nat → Int32} : (WC k ad G V n).set 14 (ad 14, .inl (k.2.1, 60, .inl f)) = WC k ad (va_up G 14 f) V n := rfl
theorem wcu_14 {k : Kt} {ad : Nat → Nat} {G : Nat → Nat → Int32} {V : Nat → Int32} {n : Nat} {i : Nat} {x : Int32} : (WC k ad G V n).set 14 (ad 14, .inl (k.2.1, 60, .inl (upd (G 14) i x))) = WC k ad (ug G 14 i x) V n := rfl
theorem wc_15 {k : Kt} {ad : Nat → Nat} {G : Nat → Nat → Int32} {V : Nat → Int32} {n : Nat} : (WC k ad G V n)[15]? = some (ad 15, .inl (k.2.1, 60, .inl (G 15))) := rfl
theorem wcs_15 {k : Kt} {ad : Nat → Nat} {G : Nat → Nat → Int32} {V : Nat → Int32} {n : Nat} {f : Nat → Int32} : (WC k ad G V n).set 15 (ad 15, .inl (k.2.1, 60, .inl f)) = WC k ad (va_up G 15 f) V n := rfl
theorem wcu_15 {k : Kt} {ad : Nat → Nat} {G : Nat → Nat → Int32} {V : Nat → Int32} {n : Nat} {i : Nat} {x : Int32} : (WC k ad G V n).set 15 (ad 15, .inl (k.2.1, 60, .inl (upd (G 15) i x))) = WC k ad (ug G 15 i x) V n := rfl
theorem wc_16 {k : Kt} {ad : Nat → Nat} {G : Nat → Nat → Int32} {V : Nat → Int32} {n : Nat} : (WC k ad G V n)[16]? = some (ad 16, .inl (k.2.1, 60, .inl (G 16))) := rfl
theorem wcs_16 {k : Kt} {ad : Nat → Nat} {G : Nat → Nat → Int32} {V : Nat → Int32} {n : Nat} {f : Nat → Int32} : (WC k ad G V n).set 16 (ad 16, .inl (k.2.1, 60, .inl f)) = WC k ad (va_up G 16 f) V n := rfl
theorem wcu_16 {k : Kt} {ad : Nat → Nat} {G : Nat → Nat → Int32} {V : Nat → Int32} {n : Nat} {i : Nat} {x : Int32} : (WC k ad G V n).set 16 (ad 16, .inl (k.2.1, 60, .inl (upd (G 16) i x))) = WC k ad (ug G 16 i x) V n := rfl
theorem wc_17 {k : Kt} {ad : Nat → Nat} {G : Nat → Nat → Int32} {V : Nat → Int32} {n : Nat} : (WC k ad G V n)[17]? = some (ad 17, .inl (k.2.1, 60, .inl (G 17))) := rfl
theorem wcs_17 {k : Kt} {ad : Nat → Nat} {G : Nat → Nat → Int32} {V : Nat → Int32} {n : Nat} {f : Nat → Int32} : (WC k ad G V n).set 17 (ad 17, .inl (k.2.1, 60, .inl f)) = WC k ad (va_up G 17 f) V n := rfl
theorem wcu_17 {k : Kt} {ad : Nat → Nat} {G : Nat → Nat → Int32} {V : Nat → Int32} {n : Nat} {i : Nat} {x : Int32} : (WC k ad G V n).set 17 (ad 17, .inl (k.2.1, 60, .inl (upd (G 17) i x))) = WC k ad (ug G 17 i x) V n := rfl
theorem wc_18 {k : Kt} {ad : Nat → Nat} {G : Nat → Nat → Int32} {V : Nat → Int32} {n : Nat} : (WC k ad G V n)[18]? = some (ad 18, .inl (k.2.1, 60, .inl (G 18))) := rfl
theorem wcs_18 {k : Kt} {ad : Nat → Nat} {G : Nat → Nat → Int32} {V : Nat → Int32} {n : Nat} {f : Nat → Int32} : (WC k ad G V n).set 18 (ad 18, .inl (k.2.1, 60, .inl f)) = WC k ad (va_up G 18 f) V n := rfl
theorem wcu_18 {k : Kt} {ad : Nat → Nat} {G : Nat → Nat → Int32} {V : Nat → Int32} {n : Nat} {i : Nat} {x : Int32} : (WC k ad G V n).set 18 (ad 18, .inl (k.2.1, 60, .inl (upd (G 18) i x))) = WC k ad (ug G 18 i x) V n := rfl
theorem wc_19 {k : Kt} {ad : Nat → Nat} {G : Nat → Nat → Int32} {V : Nat → Int32} {n : Nat} : (WC k ad G V n)[19]? = some (ad 19, .inl (k.2.2, 60, .inl (G 19))) := rfl
theorem wcs_19 {k : Kt} {ad : Nat → Nat} {G : Nat → Nat → Int32} {V : Nat → Int32} {n : Nat} {f : Nat → Int32} : (WC k ad G V n).set 19 (ad 19, .inl (k.2.2, 60, .inl f)) = WC k ad (va_up G 19 f) V n := rfl
theorem wcu_19 {k : Kt} {ad : Nat → Nat} {G : Nat → Nat → Int32} {V : Nat → Int32} {n : Nat} {i : Nat} {x : Int32} : (WC k ad G V n).set 19 (ad 19, .inl (k.2.2, 60, .inl (upd (G 19) i x))) = WC k ad (ug G 19 i x) V n := rfl
theorem wc_20 {k : Kt} {ad : Nat → Nat} {G : Nat → Nat → Int32} {V : Nat → Int32} {n : Nat} : (WC k ad G V n)[20]? = some (ad 20, .inl (k.2.1, 60, .inl (G 20))) := rfl
theorem wcs_20 {k : Kt} {ad : Nat → Nat} {G : Nat → Nat → Int32} {V : Nat → Int32} {n : Nat} {f : Nat → Int32} : (WC k ad G V n).set 20 (ad 20, .inl (k.2.1, 60, .inl f)) = WC k ad (va_up G 20 f) V n := rfl
theorem wcu_20 {k : Kt} {ad : Nat → Nat} {G : Nat → Nat → Int32} {V : Nat → Int32} {n : Nat} {i : Nat} {x : Int32} : (WC k ad G V n).set 20 (ad 20, .inl (k.2.1, 60, .inl (upd (G 20) i x))) = WC k ad (ug G 20 i x) V n := rfl
theorem wc_21 {k : Kt} {ad : Nat → Nat} {G : Nat → Nat → Int32} {V : Nat → Int32} {n : Nat} : (WC k ad G V n)[21]? = some (ad 21, .inl (k.2.1, 60, .inl (G 21))) := rfl
theorem wcs_21 {k : Kt} {ad : Nat → Nat} {G : Nat → Nat → Int32} {V : Nat → Int32} {n : Nat} {f : Nat → Int32} : (WC k ad G V n).set 21 (ad 21, .inl (k.2.1, 60, .inl f)) = WC k ad (va_up G 21 f) V n := rfl
theorem wcu_21 {k : Kt} {ad : Nat → Nat} {G : Nat → Nat → Int32} {V : Nat → Int32} {n : Nat} {i : Nat} {x : Int32} : (WC k ad G V n).set 21 (ad 21, .inl (k.2.1, 60, .inl (upd (G 21) i x))) = WC k ad (ug G 21 i x) V n := rfl
theorem wc_22 {k : Kt} {ad : Nat → Nat} {G : Nat → Nat → Int32} {V : Nat → Int32} {n : Nat} : (WC k ad G V n)[22]? = some (ad 22, .inl (k.2.1, 60, .inl (G 22))) := rfl
theorem wcs_22 {k : Kt} {ad : Nat → Nat} {G : Nat → Nat → Int32} {V : Nat → Int32} {n : Nat} {f : Nat → Int32} : (WC k ad G V n).set 22 (ad 22, .inl (k.2.1, 60, .inl f)) = WC k ad (va_up G 22 f) V n := rfl
theorem wcu_22 {k : Kt} {ad : Nat → Nat} {G : Nat → Nat → Int32} {V : Nat → Int32} {n : Nat} {i : Nat} {x : Int32} : (WC k ad G V n).set 22 (ad 22, .inl (k.2.1, 60, .inl (upd (G 22) i x))) = WC k ad (ug G 22 i x) V n := rfl
theorem wc_23 {k : Kt} {ad : Nat → Nat} {G : Nat → Nat → Int32} {V : Nat → Int32} {n : Nat} : (WC k ad G V n)[23]? = some (ad 23, .inr (3, [.ref (ad 1), .ref (ad 5), .ref (ad 12), .ref (ad 24), .int (V 2), .ref (ad 25), .ref (ad 26), .int (V 3), .int (V 4), .int (V 5), .int (V 6), .int (V 7), .int (V 8)])) := rfl
theorem wcv_2 {k : Kt} {ad : Nat → Nat} {G : Nat → Nat → Int32} {V : Nat → Int32} {n : Nat} {x : Int32} : (WC k ad G V n).set 23 (ad 23, .inr (3, [.ref (ad 1), .ref (ad 5), .ref (ad 12), .ref (ad 24), .int x, .ref (ad 25), .ref (ad 26), .int (V 3), .int (V 4), .int (V 5), .int (V 6), .int (V 7), .int (V 8)])) = WC k ad G (upd V 2 x) n := rfl
theorem wcv_3 {k : Kt} {ad : Nat → Nat} {G : Nat → Nat → Int32} {V : Nat → Int32} {n : Nat} {x : Int32} : (WC k ad G V n).set 23 (ad 23, .inr (3, [.ref (ad 1), .ref (ad 5), .ref (ad 12), .ref (ad 24), .int (V 2), .ref (ad 25), .ref (ad 26), .int x, .int (V 4), .int (V 5), .int (V 6), .int (V 7), .int (V 8)])) = WC k ad G (upd V 3 x) n := rfl
theorem wcv_4 {k : Kt} {ad : Nat → Nat} {G : Nat → Nat → Int32} {V : Nat → Int32} {n : Nat} {x : Int32} : (WC k ad G V n).set 23 (ad 23, .inr (3, [.ref (ad 1), .ref (ad 5), .ref (ad 12), .ref (ad 24), .int (V 2), .ref (ad 25), .ref (ad 26), .int (V 3), .int x, .int (V 5), .int (V 6), .int (V 7), .int (V 8)])) = WC k ad G (upd V 4 x) n := rfl
theorem wcv_5 {k : Kt} {ad : Nat → Nat} {G : Nat → Nat → Int32} {V : Nat → Int32} {n : Nat} {x : Int32} : (WC k ad G V n).set 23 (ad 23, .inr (3, [.ref (ad 1), .ref (ad 5), .ref (ad 12), .ref (ad 24), .int (V 2), .ref (ad 25), .ref (ad 26), .int (V 3), .int (V 4), .int x, .int (V 6), .int (V 7), .int (V 8)])) = WC k ad G (upd V 5 x) n := rfl
theorem wcv_6 {k : Kt} {ad : Nat → Nat} {G : Nat → Nat → Int32} {V : Nat → Int32} {n : Nat} {x : Int32} : (WC k ad G V n).set 23 (ad 23, .inr (3, [.ref (ad 1), .ref (ad 5), .ref (ad 12), .ref (ad 24), .int (V 2), .ref (ad 25), .ref (ad 26), .int (V 3), .int (V 4), .int (V 5), .int x, .int (V 7), .int (V 8)])) = WC k ad G (upd V 6 x) n := rfl
theorem wcv_7 {k : Kt} {ad : Nat → Nat} {G : Nat → Nat → Int32} {V : Nat → Int32} {n : Nat} {x : Int32} : (WC k ad G V n).set 23 (ad 23, .inr (3, [.ref (ad 1), .ref (ad 5), .ref (ad 12), .ref (ad 24), .int (V 2), .ref (ad 25), .ref (ad 26), .int (V 3), .int (V 4), .int (V 5), .int (V 6), .int x, .int (V 8)])) = WC k ad G (upd V 7 x) n := rfl
theorem wcv_8 {k : Kt} {ad : Nat → Nat} {G : Nat → Nat → Int32} {V : Nat → Int32} {n : Nat} {x : Int32} : (WC k ad G V n).set 23 (ad 23, .inr (3, [.ref (ad 1), .ref (ad 5), .ref (ad 12), .ref (ad 24), .int (V 2), .ref (ad 25), .ref (ad 26), .int (V 3), .int (V 4), .int (V 5), .int (V 6), .int (V 7), .int x])) = WC k ad G (upd V 8 x) n := rfl
theorem wc_24 {k : Kt} {ad : Nat → Nat} {G : Nat → Nat → Int32} {V : Nat → Int32} {n : Nat} : (WC k ad G V n)[24]? = some (ad 24, .inl (k.2.1, n, .inl (G 24))) := rfl
theorem wcs_24 {k : Kt} {ad : Nat → Nat} {G : Nat → Nat → Int32} {V : Nat → Int32} {n : Nat} {f : Nat → Int32} : (WC k ad G V n).set 24 (ad 24, .inl (k.2.1, n, .inl f)) = WC k ad (va_up G 24 f) V n := rfl
theorem wcu_24 {k : Kt} {ad : Nat → Nat} {G : Nat → Nat → Int32} {V : Nat → Int32} {n : Nat} {i : Nat} {x : Int32} : (WC k ad G V n).set 24 (ad 24, .inl (k.2.1, n, .inl (upd (G 24) i x))) = WC k ad (ug G 24 i x) V n := rfl
theorem wc_25 {k : Kt} {ad : Nat → Nat} {G : Nat → Nat → Int32} {V : Nat → Int32} {n : Nat} : (WC k ad G V n)[25]? = some (ad 25, .inl (k.2.1, 60, .inl (G 25))) := rfl
theorem wcs_25 {k : Kt} {ad : Nat → Nat} {G : Nat → Nat → Int32} {V : Nat → Int32} {n : Nat} {f : Nat → Int32} : (WC k ad G V n).set 25 (ad 25, .inl (k.2.1, 60, .inl f)) = WC k ad (va_up G 25 f) V n := rfl
theorem wcu_25 {k : Kt} {ad : Nat → Nat} {G : Nat → Nat → Int32} {V : Nat → Int32} {n : Nat} {i : Nat} {x : Int32} : (WC k ad G V n).set 25 (ad 25, .inl (k.2.1, 60, .inl (upd (G 25) i x))) = WC k ad (ug G 25 i x) V n := rfl
theorem wc_26 {k : Kt} {ad : Nat → Nat} {G : Nat → Nat → Int32} {V : Nat → Int32} {n : Nat} : (WC k ad G V n)[26]? = some (ad 26, .inl (k.2.1, 60, .inl (G 26))) := rfl
theorem wcs_26 {k : Kt} {ad : Nat → Nat} {G : Nat → Nat → Int32} {V : Nat → Int32} {n : Nat} {f : Nat → Int32} : (WC k ad G V n).set 26 (ad 26, .inl (k.2.1, 60, .inl f)) = WC k ad (va_up G 26 f) V n := rfl
theorem wcu_26 {k : Kt} {ad : Nat → Nat} {G : Nat → Nat → Int32} {V : Nat → Int32} {n : Nat} {i : Nat} {x : Int32} : (WC k ad G V n).set 26 (ad 26, .inl (k.2.1, 60, .inl (upd (G 26) i x))) = WC k ad (ug G 26 i x) V n := rfl
theorem wc_27 {k : Kt} {ad : Nat → Nat} {G : Nat → Nat → Int32} {V : Nat → Int32} {n : Nat} : (WC k ad G V n)[27]? = some (ad 27, .inr (2, [.ref (ad 5), .ref (ad 12), .int (V 9)])) := rfl
theorem wcv_9 {k : Kt} {ad : Nat → Nat} {G : Nat → Nat → Int32} {V : Nat → Int32} {n : Nat} {x : Int32} : (WC k ad G V n).set 27 (ad 27, .inr (2, [.ref (ad 5), .ref (ad 12), .int x])) = WC k ad G (upd V 9 x) n := rfl
def WM (k : Kt) (ad : Nat → Nat) (G : Nat → Nat → Int32) (V : Nat → Int32) : va_W := [
  (ad 0, .inr (6, [.ref (ad 1), .ref (ad 2), .ref (ad 3), .int (V 0), .ref (ad 4), .ref (ad 5), .ref (ad 6), .ref (ad 7), .ref (ad 8), .ref (ad 9), .int (V 1), .ref (ad 10), .ref (ad 11), .ref (ad 12), .ref (ad 13), .ref (ad 14), .int (V 2), .ref (ad 15), .ref (ad 16), .ref (ad 17), .ref (ad 18), .int (V 3), .int (V 4), .int (V 5), .int (V 6), .ref (ad 19), .ref (ad 20), .ref (ad 21), .ref (ad 22), .ref (ad 23), .ref (ad 24), .int (V 7), .int (V 8), .int (V 9), .int (V 10), .int (V 11)])),
  (ad 1, .inl (k.2.1, 4, .inl (G 1))),
  (ad 2, .inl (k.2.1, 72, .inl (G 2))),
  (ad 3, .inl (k.2.1, 8, .inl (G 3))),
  (ad 4, .inl (k.2.1, 40, .inl (G 4))),
  (ad 5, .inl (k.2.1, 40, .inl (G 5))),
  (ad 6, .inl (k.2.1, 40, .inl (G 6))),
  (ad 7, .inl (k.2.1, 40, .inl (G 7))),
  (ad 8, .inl (k.2.2, 40, .inl (G 8))),
  (ad 9, .inl (k.2.1, 40, .inl (G 9))),
  (ad 10, .inl (k.2.1, 60, .inl (G 10))),
  (ad 11, .inl (k.2.1, 60, .inl (G 11))),
  (ad 12, .inl (k.2.1, 60, .inl (G 12))),
  (ad 13, .inl (k.2.1, 60, .inl (G 13))),
  (ad 14, .inl (k.2.1, 60, .inl (G 14))),
  (ad 15, .inl (k.2.1, 60, .inl (G 15))),
  (ad 16, .inl (k.2.2, 60, .inl (G 16))),
  (ad 17, .inl (k.2.1, 40, .inl (G 17))),
  (ad 18, .inl (k.2.1, 40, .inl (G 18))),
  (ad 19, .inl (k.2.1, 40, .inl (G 19))),
  (ad 20, .inl (k.2.1, 36000, .inl (G 20))),
  (ad 21, .inl (k.2.1, 60, .inl (G 21))),
  (ad 22, .inl (k.2.2, 60, .inl (G 22))),
  (ad 23, .inl (k.2.1, 60, .inl (G 23))),
  (ad 24, .inl (k.2.1, 600, .inl (G 24)))]
theorem wm_0 {k : Kt} {ad : Nat → Nat} {G : Nat → Nat → Int32} {V : Nat → Int32} : (WM k ad G V)[0]? = some (ad 0, .inr (6, [.ref (ad 1), .ref (ad 2), .ref (ad 3), .int (V 0), .ref (ad 4), .ref (ad 5), .ref (ad 6), .ref (ad 7), .ref (ad 8), .ref (ad 9), .int (V 1), .ref (ad 10), .ref (ad 11), .ref (ad 12), .ref (ad 13), .ref (ad 14), .int (V 2), .ref (ad 15), .ref (ad 16), .ref (ad 17), .ref (ad 18), .int (V 3), .int (V 4), .int (V 5), .int (V 6), .ref (ad 19), .ref (ad 20), .ref (ad 21), .ref (ad 22), .ref (ad 23), .ref (ad 24), .int (V 7), .int (V 8), .int (V 9), .int (V 10), .int (V 11)])) := rfl
theorem wmv_0 {k : Kt} {ad : Nat → Nat} {G : Nat → Nat → Int32} {V : Nat → Int32} {x : Int32} : (WM k ad G V).set 0 (ad 0, .inr (6, [.ref (ad 1), .ref (ad 2), .ref (ad 3), .int x, .ref (ad 4), .ref (ad 5), .ref (ad 6), .ref (ad 7), .ref (ad 8), .ref (ad 9), .int (V 1), .ref (ad 10), .ref (ad 11), .ref (ad 12), .ref (ad 13), .ref (ad 14), .int (V 2), .ref (ad 15), .ref (ad 16), .ref (ad 17), .ref (ad 18), .int (V 3), .int (V 4), .int (V 5), .int (V 6), .ref (ad 19), .ref (ad 20), .ref (ad 21), .ref (ad 22), .ref (ad 23), .ref (ad 24), .int (V 7), .int (V 8), .int (V 9), .int (V 10), .int (V 11)])) = WM k ad G (upd V 0 x) := rfl
theorem wmv_1 {k : Kt} {ad : Nat → Nat} {G : Nat → Nat → Int32} {V : Nat → Int32} {x : Int32} : (WM k ad G V).set 0 (ad 0, .inr (6, [.ref (ad 1), .ref (ad 2), .ref (ad 3), .int (V 0), .ref (ad 4), .ref (ad 5), .ref (ad 6), .ref (ad 7), .ref (ad 8), .ref (ad 9), .int x, .ref (ad 10), .ref (ad 11), .ref (ad 12), .ref (ad 13), .ref (ad 14), .int (V 2), .ref (ad 15), .ref (ad 16), .ref (ad 17), .ref (ad 18), .int (V 3), .int (V 4), .int (V 5), .int (V 6), .ref (ad 19), .ref (ad 20), .ref (ad 21), .ref (ad 22), .ref (ad 23), .ref (ad 24), .int (V 7), .int (V 8), .int (V 9), .int (V 10), .int (V 11)])) = WM k ad G (upd V 1 x) := rfl
theorem wmv_2 {k : Kt} {ad : Nat → Nat} {G : Nat → Nat → Int32} {V : Nat → Int32} {x : Int32} : (WM k ad G V).set 0 (ad 0, .inr (6, [.ref (ad 1), .ref (ad 2), .ref (ad 3), .int (V 0), .ref (ad 4), .ref (ad 5), .ref (ad 6), .ref (ad 7), .ref (ad 8), .ref (ad 9), .int (V 1), .ref (ad 10), .ref (ad 11), .ref (ad 12), .ref (ad 13), .ref (ad 14), .int x, .ref (ad 15), .ref (ad 16), .ref (ad 17), .ref (ad 18), .int (V 3), .int (V 4), .int (V 5), .int (V 6), .ref (ad 19), .ref (ad 20), .ref (ad 21), .ref (ad 22), .ref (ad 23), .ref (ad 24), .int (V 7), .int (V 8), .int (V 9), .int (V 10), .int (V 11)])) = WM k ad G (upd V 2 x) := rfl
theorem wmv_3 {k : Kt} {ad : Nat → Nat} {G : Nat → Nat → Int32} {V : Nat → Int32} {x : Int32} : (WM k ad G V).set 0 (ad 0, .inr (6, [.ref (ad 1), .ref (ad 2), .ref (ad 3), .int (V 0), .ref (ad 4), .ref (ad 5), .ref (ad 6), .ref (ad 7), .ref (ad 8), .ref (ad 9), .int (V 1), .ref (ad 10), .ref (ad 11), .ref (ad 12), .ref (ad 13), .ref (ad 14), .int (V 2), .ref (ad 15), .ref (ad 16), .ref (ad 17), .ref (ad 18), .int x, .int (V 4), .int (V 5), .int (V 6), .ref (ad 19), .ref (ad 20), .ref (ad 21), .ref (ad 22), .ref (ad 23), .ref (ad 24), .int (V 7), .int (V 8), .int (V 9), .int (V 10), .int (V 11)])) = WM k ad G (upd V 3 x) := rfl
theorem wmv_4 {k : Kt} {ad : Nat → Nat} {G : Nat → Nat → Int32} {V : Nat → Int32} {x : Int32} : (WM k ad G V).set 0 (ad 0, .inr (6, [.ref (ad 1), .ref (ad 2), .ref (ad 3), .int (V 0), .ref (ad 4), .ref (ad 5), .ref (ad 6), .ref (ad 7), .ref (ad 8), .ref (ad 9), .int (V 1), .ref (ad 10), .ref (ad 11), .ref (ad 12), .ref (ad 13), .ref (ad 14), .int (V 2), .ref (ad 15), .ref (ad 16), .ref (ad 17), .ref (ad 18), .int (V 3), .int x, .int (V 5), .int (V 6), .ref (ad 19), .ref (ad 20), .ref (ad 21), .ref (ad 22), .ref (ad 23), .ref (ad 24), .int (V 7), .int (V 8), .int (V 9), .int (V 10), .int (V 11)])) = WM k ad G (upd V 4 x) := rfl
theorem wmv_5 {k : Kt} {ad : Nat → Nat} {G : Nat → Nat → Int32} {V : Nat → Int32} {x : Int32} : (WM k ad G V).set 0 (ad 0, .inr (6, [.ref (ad 1), .ref (ad 2), .ref (ad 3), .int (V 0), .ref (ad 4), .ref (ad 5), .ref (ad 6), .ref (ad 7), .ref (ad 8), .ref (ad 9), .int (V 1), .ref (ad 10), .ref (ad 11), .ref (ad 12), .ref (ad 13), .ref (ad 14), .int (V 2), .ref (ad 15), .ref (ad 16), .ref (ad 17), .ref (ad 18), .int (V 3), .int (V 4), .int x, .int (V 6), .ref (ad 19), .ref (ad 20), .ref (ad 21), .ref (ad 22), .ref (ad 23), .ref (ad 24), .int (V 7), .int (V 8), .int (V 9), .int (V 10), .int (V 11)])) = WM k ad G (upd V 5 x) := rfl
theorem wmv_6 {k : Kt} {ad : Nat → Nat} {G : Nat → Nat → Int32} {V : Nat → Int32} {x : Int32} : (WM k ad G V).set 0 (ad 0, .inr (6, [.ref (ad 1), .ref (ad 2), .ref (ad 3), .int (V 0), .ref (ad 4), .ref (ad 5), .ref (ad 6), .ref (ad 7), .ref (ad 8), .ref (ad 9), .int (V 1), .ref (ad 10), .ref (ad 11), .ref (ad 12), .ref (ad 13), .ref (ad 14), .int (V 2), .ref (ad 15), .ref (ad 16), .ref (ad 17), .ref (ad 18), .int (V 3), .int (V 4), .int (V 5), .int x, .ref (ad 19), .ref (ad 20), .ref (ad 21), .ref (ad 22), .ref (ad 23), .ref (ad 24), .int (V 7), .int (V 8), .int (V 9), .int (V 10), .int (V 11)])) = WM k ad G (upd V 6 x) := rfl
theorem wmv_7 {k : Kt} {ad : Nat → Nat} {G : Nat → Nat → Int32} {V : Nat → Int32} {x : Int32} : (WM k ad G V).set 0 (ad 0, .inr (6, [.ref (ad 1), .ref (ad 2), .ref (ad 3), .int (V 0), .ref (ad 4), .ref (ad 5), .ref (ad 6), .ref (ad 7), .ref (ad 8), .ref (ad 9), .int (V 1), .ref (ad 10), .ref (ad 11), .ref (ad 12), .ref (ad 13), .ref (ad 14), .int (V 2), .ref (ad 15), .ref (ad 16), .ref (ad 17), .ref (ad 18), .int (V 3), .int (V 4), .int (V 5), .int (V 6), .ref (ad 19), .ref (ad 20), .ref (ad 21), .ref (ad 22), .ref (ad 23), .ref (ad 24), .int x, .int (V 8), .int (V 9), .int (V 10), .int (V 11)])) = WM k ad G (upd V 7 x) := rfl
theorem wmv_8 {k : Kt} {ad : Nat → Nat} {G : Nat → Nat → Int32} {V : Nat → Int32} {x : Int32} : (WM k ad G V).set 0 (ad 0, .inr (6, [.ref (ad 1), .ref (ad 2), .ref (ad 3), .int (V 0), .ref (ad 4), .ref (ad 5), .ref (ad 6), .ref (ad 7), .ref (ad 8), .ref (ad 9), .int (V 1), .ref (ad 10), .ref (ad 11), .ref (ad 12), .ref (ad 13), .ref (ad 14), .int (V 2), .ref (ad 15), .ref (ad 16), .ref (ad 17), .ref (ad 18), .int (V 3), .int (V 4), .int (V 5), .int (V 6), .ref (ad 19), .ref (ad 20), .ref (ad 21), .ref (ad 22), .ref (ad 23), .ref (ad 24), .int (V 7), .int x, .int (V 9), .int (V 10), .int (V 11)])) = WM k ad G (upd V 8 x) := rfl
theorem wmv_9 {k : Kt} {ad : Nat → Nat} {G : Nat → Nat → Int32} {V : Nat → Int32} {x : Int32} : (WM k ad G V).set 0 (ad 0, .inr (6, [.ref (ad 1), .ref (ad 2), .ref (ad 3), .int (V 0), .ref (ad 4), .ref (ad 5), .ref (ad 6), .ref (ad 7), .ref (ad 8), .ref (ad 9), .int (V 1), .ref (ad 10), .ref (ad 11), .ref (ad 12), .ref (ad 13), .ref (ad 14), .int (V 2), .ref (ad 15), .ref (ad 16), .ref (ad 17), .ref (ad 18), .int (V 3), .int (V 4), .int (V 5), .int (V 6), .ref (ad 19), .ref (ad 20), .ref (ad 21), .ref (ad 22), .ref (ad 23), .ref (ad 24), .int (V 7), .int (V 8), .int x, .int (V 10), .int (V 11)])) = WM k ad G (upd V 9 x) := rfl
theorem wmv_10 {k : Kt} {ad : Nat → Nat} {G : Nat → Nat → Int32} {V : Nat → Int32} {x : Int32} : (WM k ad G V).set 0 (ad 0, .inr (6, [.ref (ad 1), .ref (ad 2), .ref (ad 3), .int (V 0), .ref (ad 4), .ref (ad 5), .ref (ad 6), .ref (ad 7), .ref (ad 8), .ref (ad 9), .int (V 1), .ref (ad 10), .ref (ad 11), .ref (ad 12), .ref (ad 13), .ref (ad 14), .int (V 2), .ref (ad 15), .ref (ad 16), .ref (ad 17), .ref (ad 18), .int (V 3), .int (V 4), .int (V 5), .int (V 6), .ref (ad 19), .ref (ad 20), .ref (ad 21), .ref (ad 22), .ref (ad 23), .ref (ad 24), .int (V 7), .int (V 8), .int (V 9), .int x, .int (V 11)])) = WM k ad G (upd V 10 x) := rfl
theorem wmv_11 {k : Kt} {ad : Nat → Nat} {G : Nat → Nat → Int32} {V : Nat → Int32} {x : Int32} : (WM k ad G V).set 0 (ad 0, .inr (6, [.ref (ad 1), .ref (ad 2), .ref (ad 3), .int (V 0), .ref (ad 4), .ref (ad 5), .ref (ad 6), .ref (ad 7), .ref (ad 8), .ref (ad 9), .int (V 1), .ref (ad 10), .ref (ad 11), .ref (ad 12), .ref (ad 13), .ref (ad 14), .int (V 2), .ref (ad 15), .ref (ad 16), .ref (ad 17), .ref (ad 18), .int (V 3), .int (V 4), .int (V 5), .int (V 6), .ref (ad 19), .ref (ad 20), .ref (ad 21), .ref (ad 22), .ref (ad 23), .ref (ad 24), .int (V 7), .int (V 8), .int (V 9), .int (V 10), .int x])) = WM k ad G (upd V 11 x) := rfl
theorem wm_1 {k : Kt} {ad : Nat → Nat} {G : Nat → Nat → Int32} {V : Nat → Int32} : (WM k ad G V)[1]? = some (ad 1, .inl (k.2.1, 4, .inl (G 1))) := rfl
theorem wms_1 {k : Kt} {ad : Nat → Nat} {G : Nat → Nat → Int32} {V : Nat → Int32} {f : Nat → Int32} : (WM k ad G V).set 1 (ad 1, .inl (k.2.1, 4, .inl f)) = WM k ad (va_up G 1 f) V := rfl
theorem wmu_1 {k : Kt} {ad : Nat → Nat} {G : Nat → Nat → Int32} {V : Nat → Int32} {i : Nat} {x : Int32} : (WM k ad G V).set 1 (ad 1, .inl (k.2.1, 4, .inl (upd (G 1) i x))) = WM k ad (ug G 1 i x) V := rfl
theorem wm_2 {k : Kt} {ad : Nat → Nat} {G : Nat → Nat → Int32} {V : Nat → Int32} : (WM k ad G V)[2]? = some (ad 2, .inl (k.2.1, 72, .inl (G 2))) := rfl
theorem wms_2 {k : Kt} {ad : Nat → Nat} {G : Nat → Nat → Int32} {V : Nat → Int32} {f : Nat → Int32} : (WM k ad G V).set 2 (ad 2, .inl (k.2.1, 72, .inl f)) = WM k ad (va_up G 2 f) V := rfl
theorem wmu_2 {k : Kt} {ad : Nat → Nat} {G : Nat → Nat → Int32} {V : Nat → Int32} {i : Nat} {x : Int32} : (WM k ad G V).set 2 (ad 2, .inl (k.2.1, 72, .inl (upd (G 2) i x))) = WM k ad (ug G 2 i x) V := rfl
theorem wm_3 {k : Kt} {ad : Nat → Nat} {G : Nat → Nat → Int32} {V : Nat → Int32} : (WM k ad G V)[3]? = some (ad 3, .inl (k.2.1, 8, .inl (G 3))) := rfl
theorem wms_3 {k : Kt} {ad : Nat → Nat} {G : Nat → Nat → Int32} {V : Nat → Int32} {f : Nat → Int32} : (WM k ad G V).set 3 (ad 3, .inl (k.2.1, 8, .inl f)) = WM k ad (va_up G 3 f) V := rfl
theorem wmu_3 {k : Kt} {ad : Nat → Nat} {G : Nat → Nat → Int32} {V : Nat → Int32} {i : Nat} {x : Int32} : (WM k ad G V).set 3 (ad 3, .inl (k.2.1, 8, .inl (upd (G 3) i x))) = WM k ad (ug G 3 i x) V := rfl
theorem wm_4 {k : Kt} {ad : Nat → Nat} {G : Nat → Nat → Int32} {V : Nat → Int32} : (WM k ad G V)[4]? = some (ad 4, .inl (k.2.1, 40, .inl (G 4))) := rfl
theorem wms_4 {k : Kt} {ad : Nat → Nat} {G : Nat → Nat → Int32} {V : Nat → Int32} {f : Nat → Int32} : (WM k ad G V).set 4 (ad 4, .inl (k.2.1, 40, .inl f)) = WM k ad (va_up G 4 f) V := rfl
theorem wmu_4 {k : Kt} {ad : Nat → Nat} {G : Nat → Nat → Int32} {V : Nat → Int32} {i : Nat} {x : Int32} : (WM k ad G V).set 4 (ad 4, .inl (k.2.1, 40, .inl (upd (G 4) i x))) = WM k ad (ug G 4 i x) V := rfl
theorem wm_5 {k : Kt} {ad : Nat → Nat} {G : Nat → Nat → Int32} {V : Nat → Int32} : (WM k ad G V)[5]? = some (ad 5, .inl (k.2.1, 40, .inl (G 5))) := rfl
theorem wms_5 {k : Kt} {ad : Nat → Nat} {G : Nat → Nat → Int32} {V : Nat → Int32} {f : Nat → Int32} : (WM k ad G V).set 5 (ad 5, .inl (k.2.1, 40, .inl f)) = WM k ad (va_up G 5 f) V := rfl
theorem wmu_5 {k : Kt} {ad : Nat → Nat} {G : Nat → Nat → Int32} {V : Nat → Int32} {i : Nat} {x : Int32} : (WM k ad G V).set 5 (ad 5, .inl (k.2.1, 40, .inl (upd (G 5) i x))) = WM k ad (ug G 5 i x) V := rfl
theorem wm_6 {k : Kt} {ad : Nat → Nat} {G : Nat → Nat → Int32} {V : Nat → Int32} : (WM k ad G V)[6]? = some (ad 6, .inl (k.2.1, 40, .inl (G 6))) := rfl
theorem wms_6 {k : Kt} {ad : Nat → Nat} {G : Nat → Nat → Int32} {V : Nat → Int32} {f : Nat → Int32} : (WM k ad G V).set 6 (ad 6, .inl (k.2.1, 40, .inl f)) = WM k ad (va_up G 6 f) V := rfl
theorem wmu_6 {k : Kt} {ad : Nat → Nat} {G : Nat → Nat → Int32} {V : Nat → Int32} {i : Nat} {x : Int32} : (WM k ad G V).set 6 (ad 6, .inl (k.2.1, 40, .inl (upd (G 6) i x))) = WM k ad (ug G 6 i x) V := rfl
theorem wm_7 {k : Kt} {ad : Nat → Nat} {G : Nat → Nat → Int32} {V : Nat → Int32} : (WM k ad G V)[7]? = some (ad 7, .inl (k.2.1, 40, .inl (G 7))) := rfl
theorem wms_7 {k : Kt} {ad : Nat → Nat} {G : Nat → Nat → Int32} {V : Nat → Int32} {f : Nat → Int32} : (WM k ad G V).set 7 (ad 7, .inl (k.2.1, 40, .inl f)) = WM k ad (va_up G 7 f) V := rfl
theorem wmu_7 {k : Kt} {ad : Nat → Nat} {G : Nat → Nat → Int32} {V : Nat → Int32} {i : Nat} {x : Int32} : (WM k ad G V).set 7 (ad 7, .inl (k.2.1, 40, .inl (upd (G 7) i x))) = WM k ad (ug G 7 i x) V := rfl
theorem wm_8 {k : Kt} {ad : Nat → Nat} {G : Nat → Nat → Int32} {V : Nat → Int32} : (WM k ad G V)[8]? = some (ad 8, .inl (k.2.2, 40, .inl (G 8))) := rfl
theorem wms_8 {k : Kt} {ad : Nat → Nat} {G : Nat → Nat → Int32} {V : Nat → Int32} {f : Nat → Int32} : (WM k ad G V).set 8 (ad 8, .inl (k.2.2, 40, .inl f)) = WM k ad (va_up G 8 f) V := rfl
theorem wmu_8 {k : Kt} {ad : Nat → Nat} {G : Nat → Nat → Int32} {V : Nat → Int32} {i : Nat} {x : Int32} : (WM k ad G V).set 8 (ad 8, .inl (k.2.2, 40, .inl (upd (G 8) i x))) = WM k ad (ug G 8 i x) V := rfl
theorem wm_9 {k : Kt} {ad : Nat → Nat} {G : Nat → Nat → Int32} {V : Nat → Int32} : (WM k ad G V)[9]? = some (ad 9, .inl (k.2.1, 40, .inl (G 9))) := rfl
theorem wms_9 {k : Kt} {ad : Nat → Nat} {G : Nat → Nat → Int32} {V : Nat → Int32} {f : Nat → Int32} : (WM k ad G V).set 9 (ad 9, .inl (k.2.1, 40, .inl f)) = WM k ad (va_up G 9 f) V := rfl
theorem wmu_9 {k : Kt} {ad : Nat → Nat} {G : Nat → Nat → Int32} {V : Nat → Int32} {i : Nat} {x : Int32} : (WM k ad G V).set 9 (ad 9, .inl (k.2.1, 40, .inl (upd (G 9) i x))) = WM k ad (ug G 9 i x) V := rfl
theorem wm_10 {k : Kt} {ad : Nat → Nat} {G : Nat → Nat → Int32} {V : Nat → Int32} : (WM k ad G V)[10]? = some (ad 10, .inl (k.2.1, 60, .inl (G 10))) := rfl
theorem wms_10 {k : Kt} {ad : Nat → Nat} {G : Nat → Nat → Int32} {V : Nat → Int32} {f : Nat → Int32} : (WM k ad G V).set 10 (ad 10, .inl (k.2.1, 60, .inl f)) = WM k ad (va_up G 10 f) V := rfl
theorem wmu_10 {k : Kt} {ad : Nat → Nat} {G : Nat → Nat → Int32} {V : Nat → Int32} {i : Nat} {x : Int32} : (WM k ad G V).set 10 (ad 10, .inl (k.2.1, 60, .inl (upd (G 10) i x))) = WM k ad (ug G 10 i x) V := rfl
theorem wm_11 {k : Kt} {ad : Nat → Nat} {G : Nat → Nat → Int32} {V : Nat → Int32} : (WM k ad G V)[11]? = some (ad 11, .inl (k.2.1, 60, .inl (G 11))) := rfl
theorem wms_11 {k : Kt} {ad : Nat → Nat} {G : Nat → Nat → Int32} {V : Nat → Int32} {f : Nat → Int32} : (WM k ad G V).set 11 (ad 11, .inl (k.2.1, 60, .inl f)) = WM k ad (va_up G 11 f) V := rfl
theorem wmu_11 {k : Kt} {ad : Nat → Nat} {G : Nat → Nat → Int32} {V : Nat → Int32} {i : Nat} {x : Int32} : (WM k ad G V).set 11 (ad 11, .inl (k.2.1, 60, .inl (upd (G 11) i x))) = WM k ad (ug G 11 i x) V := rfl
theorem wm_12 {k : Kt} {ad : Nat → Nat} {G : Nat → Nat → Int32} {V : Nat → Int32} : (WM k ad G V)[12]? = some (ad 12, .inl (k.2.1, 60, .inl (G 12))) := rfl
theorem wms_12 {k : Kt} {ad : Nat → Nat} {G : Nat → Nat → Int32} {V : Nat → Int32} {f : Nat → Int32} : (WM k ad G V).set 12 (ad 12, .inl (k.2.1, 60, .inl f)) = WM k ad (va_up G 12 f) V := rfl
theorem wmu_12 {k : Kt} {ad : Nat → Nat} {G : Nat → Nat → Int32} {V : Nat → Int32} {i : Nat} {x : Int32} : (WM k ad G V).set 12 (ad 12, .inl (k.2.1, 60, .inl (upd (G 12) i x))) = WM k ad (ug G 12 i x) V := rfl
theorem wm_13 {k : Kt} {ad : Nat → Nat} {G : Nat → Nat → Int32} {V : Nat → Int32} : (WM k ad G V)[13]? = some (ad 13, .inl (k.2.1, 60, .inl (G 13))) := rfl
theorem wms_13 {k : Kt} {ad : Nat → Nat} {G : Nat → Nat → Int32} {V : Nat → Int32} {f : Nat → Int32} : (WM k ad G V).set 13 (ad 13, .inl (k.2.1, 60, .inl f)) = WM k ad (va_up G 13 f) V := rfl
theorem wmu_13 {k : Kt} {ad : Nat → Nat} {G : Nat → Nat → Int32} {V : Nat → Int32} {i : Nat} {x : Int32} : (WM k ad G V).set 13 (ad 13, .inl (k.2.1, 60, .inl (upd (G 13) i x))) = WM k ad (ug G 13 i x) V := rfl
theorem wm_14 {k : Kt} {ad : Nat → Nat} {G : Nat → Nat → Int32} {V : Nat → Int32} : (WM k ad G V)[14]? = some (ad 14, .inl (k.2.1, 60, .inl (G 14))) := rfl
theorem wms_14 {k : Kt} {ad : Nat → Nat} {G : Nat → Nat → Int32} {V : Nat → Int32} {f : Nat → Int32} : (WM k ad G V).set 14 (ad 14, .inl (k.2.1, 60, .inl f)) = WM k ad (va_up G 14 f) V := rfl
theorem wmu_14 {k : Kt} {ad : Nat → Nat} {G : Nat → Nat → Int32} {V : Nat → Int32} {i : Nat} {x : Int32} : (WM k ad G V).set 14 (ad 14, .inl (k.2.1, 60, .inl (upd (G 14) i x))) = WM k ad (ug G 14 i x) V := rfl
theorem wm_15 {k : Kt} {ad : Nat → Nat} {G : Nat → Nat → Int32} {V : Nat → Int32} : (WM k ad G V)[15]? = some (ad 15, .inl (k.2.1, 60, .inl (G 15))) := rfl
theorem wms_15 {k : Kt} {ad : Nat → Nat} {G : Nat → Nat → Int32} {V : Nat → Int32} {f : Nat → Int32} : (WM k ad G V).set 15 (ad 15, .inl (k.2.1, 60, .inl f)) = WM k ad (va_up G 15 f) V := rfl
theorem wmu_15 {k : Kt} {ad : Nat → Nat} {G : Nat → Nat → Int32} {V : Nat → Int32} {i : Nat} {x : Int32} : (WM k ad G V).set 15 (ad 15, .inl (k.2.1, 60, .inl (upd (G 15) i x))) = WM k ad (ug G 15 i x) V := rfl
theorem wm_16 {k : Kt} {ad : Nat → Nat} {G : Nat → Nat → Int32} {V : Nat → Int32} : (WM k ad G V)[16]? = some (ad 16, .inl (k.2.2, 60, .inl (G 16))) := rfl
theorem wms_16 {k : Kt} {ad : Nat → Nat} {G : Nat → Nat → Int32} {V : Nat → Int32} {f : Nat → Int32} : (WM k ad G V).set 16 (ad 16, .inl (k.2.2, 60, .inl f)) = WM k ad (va_up G 16 f) V := rfl
theorem wmu_16 {k : Kt} {ad : Nat → Nat} {G : Nat → Nat → Int32} {V : Nat → Int32} {i : Nat} {x : Int32} : (WM k ad G V).set 16 (ad 16, .inl (k.2.2, 60, .inl (upd (G 16) i x))) = WM k ad (ug G 16 i x) V := rfl
theorem wm_17 {k : Kt} {ad : Nat → Nat} {G : Nat → Nat → Int32} {V : Nat → Int32} : (WM k ad G V)[17]? = some (ad 17, .inl (k.2.1, 40, .inl (G 17))) := rfl
theorem wms_17 {k : Kt} {ad : Nat → Nat} {G : Nat → Nat → Int32} {V : Nat → Int32} {f : Nat → Int32} : (WM k ad G V).set 17 (ad 17, .inl (k.2.1, 40, .inl f)) = WM k ad (va_up G 17 f) V := rfl
theorem wmu_17 {k : Kt} {ad : Nat → Nat} {G : Nat → Nat → Int32} {V : Nat → Int32} {i : Nat} {x : Int32} : (WM k ad G V).set 17 (ad 17, .inl (k.2.1, 40, .inl (upd (G 17) i x))) = WM k ad (ug G 17 i x) V := rfl
theorem wm_18 {k : Kt} {ad : Nat → Nat} {G : Nat → Nat → Int32} {V : Nat → Int32} : (WM k ad G V)[18]? = some (ad 18, .inl (k.2.1, 40, .inl (G 18))) := rfl
theorem wms_18 {k : Kt} {ad : Nat → Nat} {G : Nat → Nat → Int32} {V : Nat → Int32} {f : Nat → Int32} : (WM k ad G V).set 18 (ad 18, .inl (k.2.1, 40, .inl f)) = WM k ad (va_up G 18 f) V := rfl
theorem wmu_18 {k : Kt} {ad : Nat → Nat} {G : Nat → Nat → Int32} {V : Nat → Int32} {i : Nat} {x : Int32} : (WM k ad G V).set 18 (ad 18, .inl (k.2.1, 40, .inl (upd (G 18) i x))) = WM k ad (ug G 18 i x) V := rfl
theorem wm_19 {k : Kt} {ad : Nat → Nat} {G : Nat → Nat → Int32} {V : Nat → Int32} : (WM k ad G V)[19]? = some (ad 19, .inl (k.2.1, 40, .inl (G 19))) := rfl
theorem wms_19 {k : Kt} {ad : Nat → Nat} {G : Nat → Nat → Int32} {V : Nat → Int32} {f : Nat → Int32} : (WM k ad G V).set 19 (ad 19, .inl (k.2.1, 40, .inl f)) = WM k ad (va_up G 19 f) V := rfl
theorem wmu_19 {k : Kt} {ad : Nat → Nat} {G : Nat → Nat → Int32} {V : Nat → Int32} {i : Nat} {x : Int32} : (WM k ad G V).set 19 (ad 19, .inl (k.2.1, 40, .inl (upd (G 19) i x))) = WM k ad (ug G 19 i x) V := rfl
theorem wm_20 {k : Kt} {ad : Nat → Nat} {G : Nat → Nat → Int32} {V : Nat → Int32} : (WM k ad G V)[20]? = some (ad 20, .inl (k.2.1, 36000, .inl (G 20))) := rfl
theorem wms_20 {k : Kt} {ad : Nat → Nat} {G : Nat → Nat → Int32} {V : Nat → Int32} {f : Nat → Int32} : (WM k ad G V).set 20 (ad 20, .inl (k.2.1, 36000, .inl f)) = WM k ad (va_up G 20 f) V := rfl
theorem wmu_20 {k : Kt} {ad : Nat → Nat} {G : Nat → Nat → Int32} {V : Nat → Int32} {i : Nat} {x : Int32} : (WM k ad G V).set 20 (ad 20, .inl (k.2.1, 36000, .inl (upd (G 20) i x))) = WM k ad (ug G 20 i x) V := rfl
theorem wm_21 {k : Kt} {ad : Nat → Nat} {G : Nat → Nat → Int32} {V : Nat → Int32} : (WM k ad G V)[21]? = some (ad 21, .inl (k.2.1, 60, .inl (G 21))) := rfl
theorem wms_21 {k : Kt} {ad : Nat → Nat} {G : Nat → Nat → Int32} {V : Nat → Int32} {f : Nat → Int32} : (WM k ad G V).set 21 (ad 21, .inl (k.2.1, 60, .inl f)) = WM k ad (va_up G 21 f) V := rfl
theorem wmu_21 {k : Kt} {ad : Nat → Nat} {G : Nat → Nat → Int32} {V : Nat → Int32} {i : Nat} {x : Int32} : (WM k ad G V).set 21 (ad 21, .inl (k.2.1, 60, .inl (upd (G 21) i x))) = WM k ad (ug G 21 i x) V := rfl
theorem wm_22 {k : Kt} {ad : Nat → Nat} {G : Nat → Nat → Int32} {V : Nat → Int32} : (WM k ad G V)[22]? = some (ad 22, .inl (k.2.2, 60, .inl (G 22))) := rfl
theorem wms_22 {k : Kt} {ad : Nat → Nat} {G : Nat → Nat → Int32} {V : Nat → Int32} {f : Nat → Int32} : (WM k ad G V).set 22 (ad 22, .inl (k.2.2, 60, .inl f)) = WM k ad (va_up G 22 f) V := rfl
theorem wmu_22 {k : Kt} {ad : Nat → Nat} {G : Nat → Nat → Int32} {V : Nat → Int32} {i : Nat} {x : Int32} : (WM k ad G V).set 22 (ad 22, .inl (k.2.2, 60, .inl (upd (G 22) i x))) = WM k ad (ug G 22 i x) V := rfl
theorem wm_23 {k : Kt} {ad : Nat → Nat} {G : Nat → Nat → Int32} {V : Nat → Int32} : (WM k ad G V)[23]? = some (ad 23, .inl (k.2.1, 60, .inl (G 23))) := rfl
theorem wms_23 {k : Kt} {ad : Nat → Nat} {G : Nat → Nat → Int32} {V : Nat → Int32} {f : Nat → Int32} : (WM k ad G V).set 23 (ad 23, .inl (k.2.1, 60, .inl f)) = WM k ad (va_up G 23 f) V := rfl
theorem wmu_23 {k : Kt} {ad : Nat → Nat} {G : Nat → Nat → Int32} {V : Nat → Int32} {i : Nat} {x : Int32} : (WM k ad G V).set 23 (ad 23, .inl (k.2.1, 60, .inl (upd (G 23) i x))) = WM k ad (ug G 23 i x) V := rfl
theorem wm_24 {k : Kt} {ad : Nat → Nat} {G : Nat → Nat → Int32} {V : Nat → Int32} : (WM k ad G V)[24]? = some (ad 24, .inl (k.2.1, 600, .inl (G 24))) := rfl
theorem wms_24 {k : Kt} {ad : Nat → Nat} {G : Nat → Nat → Int32} {V : Nat → Int32} {f : Nat → Int32} : (WM k ad G V).set 24 (ad 24, .inl (k.2.1, 600, .inl f)) = WM k ad (va_up G 24 f) V := rfl
theorem wmu_24 {k : Kt} {ad : Nat → Nat} {G : Nat → Nat → Int32} {V : Nat → Int32} {i : Nat} {x : Int32} : (WM k ad G V).set 24 (ad 24, .inl (k.2.1, 600, .inl (upd (G 24) i x))) = WM k ad (ug G 24 i x) V := rfl
theorem ug_same {G : Nat → Nat → Int32} {p i : Nat} {x : Int32} : ug G p i x p i = x := by simp [ug, va_up, upd]
theorem ug_p {G : Nat → Nat → Int32} {p p' i j : Nat} {x : Int32} (h : p' ≠ p) : ug G p i x p' j = G p' j := by simp [ug, va_up, h]
theorem ug_i {G : Nat → Nat → Int32} {p i j : Nat} {x : Int32} (h : j ≠ i) : ug G p i x p j = G p j := by simp [ug, va_up, upd, h]
theorem ug_if {G : Nat → Nat → Int32} {p i a b : Nat} {x : Int32} : ug G p i x a b = if a = p ∧ b = i then x else G a b := by
  unfold ug va_up upd
  by_cases h : a = p
  · subst h; simp
  · simp [h]
theorem eqI.mk {R v : Int32} {w W' : va_W} (h : v = R) (hw : w = W') : eqI R W' (some (.int v)) w := ⟨by rw [h], hw⟩
theorem eqV.mk {w W' : va_W} (hw : w = W') : eqV W' none w := ⟨rfl, hw⟩
theorem cgC {k : Kt} {ad : Nat → Nat} {G G' : Nat → Nat → Int32} {V V' : Nat → Int32} {n : Nat} (hG : G = G') (hV : V = V') : WC k ad G V n = WC k ad G' V' n := by rw [hG, hV]
theorem cgM {k : Kt} {ad : Nat → Nat} {G G' : Nat → Nat → Int32} {V V' : Nat → Int32} (hG : G = G') (hV : V = V') : WM k ad G V = WM k ad G' V' := by rw [hG, hV]
theorem b01 {c : Prop} [Decidable c] {a b : Int32} (ha : a = 0 ∨ a = 1) (hb : b = 0 ∨ b = 1) : (if c then a else b) = 0 ∨ (if c then a else b) = 1 := by
  by_cases h : c
  · rw [if_pos h]; exact ha
  · rw [if_neg h]; exact hb
theorem nar_b {x : Int32} (h : x = 0 ∨ x = 1) : vp_nar .boolean x = x := by rcases h with rfl | rfl <;> rfl
abbrev ix (x : Int32) : Nat := x.toNatClampNeg
section CALLS
variable {z : Zt} {cc : ByteArray} {own : String} {cells slots : Nat} {w : va_W} {pc q : Nat} {lv : Lv} {rest : List Value}
theorem r_join (J : Nat) (x : Int32) {st : List Value} (hj : WW z cells slots w J lv (.int x :: rest)) (k : (∀ v : Int32, v = x → WW z cells slots w J lv (.int v :: rest)) → WW z cells slots w pc lv st) : WW z cells slots w pc lv st := k (fun v e => e ▸ hj)
theorem rVi (E : EN z cc own) {C : String} {idx maxL n d d' mx sx : Nat} {y : MethodName} {bytes : ByteArray} {ret : Option FieldType} (cw : CV own C idx y bytes maxL ret n) (hR : RR z d mx sx) (q0 : Nat) {ci b : Nat} {fs : List Value} {T : u_T} {N : Nat} (he : w[q0]? = some (b, .inr (ci, fs))) (hc : vwCl[ci]? = some (C, T, N)) (As : List Value) {R : Int32} {W' : va_W} (hC : CT (zl z) (zk z) y bytes maxL ret d' (.ref b :: As) w (eqI R W') 0 0)
    (hdl : d' < d) (hn : As.length = n) {st : List Value} (hst : st = As.reverse ++ .ref b :: rest) (hcat : (rest.map fun v => v.category).sum ≤ 8) (hf : cells ≤ mx ∧ slots ≤ sx) (hd : decode cc pc = .ok (.invokevirtual idx, 3)) (hq : pc + 3 = q) (k : WW z cells slots W' q lv (.int R :: rest)) : WW z cells slots w pc lv st := rV E cw hR Fr.all q0 he hc As hC hdl hn hst hcat hf hd (eqI.k (wr := []) hq k)
theorem rVv (E : EN z cc own) {C : String} {idx maxL n d d' mx sx : Nat} {y : MethodName} {bytes : ByteArray} {ret : Option FieldType} (cw : CV own C idx y bytes maxL ret n) (hR : RR z d mx sx) (q0 : Nat) {ci b : Nat} {fs : List Value} {T : u_T} {N : Nat} (he : w[q0]? = some (b, .inr (ci, fs))) (hc : vwCl[ci]? = some (C, T, N)) (As : List Value) {W' : va_W} (hC : CT (zl z) (zk z) y bytes maxL ret d' (.ref b :: As) w (eqV W') 0 0)
    (hdl : d' < d) (hn : As.length = n) {st : List Value} (hst : st = As.reverse ++ .ref b :: rest) (hcat : (rest.map fun v => v.category).sum ≤ 8) (hf : cells ≤ mx ∧ slots ≤ sx) (hd : decode cc pc = .ok (.invokevirtual idx, 3)) (hq : pc + 3 = q) (k : WW z cells slots W' q lv rest) : WW z cells slots w pc lv st := rV E cw hR Fr.all q0 he hc As hC hdl hn hst hcat hf hd (eqV.k (wr := []) hq k)
theorem rSi (E : EN z cc own) {idx maxL n d d' mx sx : Nat} {y : MethodName} {bytes : ByteArray} {ret : Option FieldType} (cw : CS own idx y bytes maxL ret n) (hR : RR z d mx sx) (As : List Value) {R : Int32} {W' : va_W} (hC : CT (zl z) (zk z) y bytes maxL ret d' As w (eqI R W') 0 0)
    (hdl : d' < d) (hn : As.length = n) {st : List Value} (hst : st = As.reverse ++ rest) (hcat : (rest.map fun v => v.category).sum ≤ 8) (hf : cells ≤ mx ∧ slots ≤ sx) (hd : decode cc pc = .ok (.invokestatic idx, 3)) (hq : pc + 3 = q) (k : WW z cells slots W' q lv (.int R :: rest)) : WW z cells slots w pc lv st := rS E cw hR Fr.all As hC hdl hn hst hcat hf hd (eqI.k (wr := []) hq k)
theorem rSv (E : EN z cc own) {idx maxL n d d' mx sx : Nat} {y : MethodName} {bytes : ByteArray} {ret : Option FieldType} (cw : CS own idx y bytes maxL ret n) (hR : RR z d mx sx) (As : List Value) {W' : va_W} (hC : CT (zl z) (zk z) y bytes maxL ret d' As w (eqV W') 0 0)
    (hdl : d' < d) (hn : As.length = n) {st : List Value} (hst : st = As.reverse ++ rest) (hcat : (rest.map fun v => v.category).sum ≤ 8) (hf : cells ≤ mx ∧ slots ≤ sx) (hd : decode cc pc = .ok (.invokestatic idx, 3)) (hq : pc + 3 = q) (k : WW z cells slots W' q lv rest) : WW z cells slots w pc lv st := rS E cw hR Fr.all As hC hdl hn hst hcat hf hd (eqV.k (wr := []) hq k)
theorem rSNi (E : EN z cc own) {idx maxL n d d' mx sx : Nat} {y : MethodName} {bytes : ByteArray} {ret : Option FieldType} (cw : CSN own idx y bytes maxL ret n) (hR : RR z d mx sx) (As : List Value) {R : Int32} {W' : va_W} (hC : CT (zl z) (zk z) y bytes maxL ret d' As w (eqI R W') 0 0)
    (hdl : d' < d) (hn : As.length = n) {st : List Value} (hst : st = As.reverse ++ rest) (hcat : (rest.map fun v => v.category).sum ≤ 8) (hf : cells ≤ mx ∧ slots ≤ sx) (hd : decode cc pc = .ok (.invokestatic idx, 3)) (hq : pc + 3 = q) (k : WW z cells slots W' q lv (.int R :: rest)) : WW z cells slots w pc lv st := rSN E cw hR Fr.all As hC hdl hn hst hcat hf hd (eqI.k (wr := []) hq k)
end CALLS
