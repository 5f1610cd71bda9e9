/-! THE LAW: its loop, from its entry to its end -/
theorem law_more {L i : Nat} (hL : L ≤ 3072) (hi : i ≤ 3072) (h : ¬ nI L - nI 6 < nI i) : i + 6 ≤ L := by
  have e := pk_sub_toInt (a := L) (b := 6) (by omega) (by decide)
  rw [Int32.lt_iff_toInt_lt, e, nI_toInt (by omega)] at h
  omega
theorem law_loop {z : Zt} (E : EN z cL_law RL) (hR : RR z 100 600000 7302250) (hz : zn z = 4) {b L : Nat} {xs : Nat → Int32} (hX : va_X b L xs (zs z) (zs z).heap) (hbl : b < (zs z).heap.size) (hbA : ¬ zA z b) (hL : L ≤ 3072) {x0 : Nat} {am : Nat → Nat}
    (K : ∀ (w : va_W) (lv : Lv) (c' s' : Nat), c' ≤ 600000 → s' ≤ 7302250 → WW z c' s' w 593 lv [.int 1]) :
    ∀ (N i : Nat), L ≤ i + N → i ≤ L → ∀ (ad : Nat → Nat) (G : Nat → Nat → Int32) (V : Nat → Int32) (n : Nat) (H : Nat → Nat → Int32) (U : Nat → Int32) (cells slots : Nat), ad 0 = x0 → SIM G V n H U → INV cells slots n → WW z cells slots (WC (zk z) ad G V n ++ WM (zk z) am H U) 18 [(0, .ref b), (1, .ref x0), (2, .ref (am 0)), (3, .int (nI i))] [] := by
  have step : ∀ (i : Nat), i ≤ L → (i + 6 ≤ L → ∀ (ad : Nat → Nat) (G : Nat → Nat → Int32) (V : Nat → Int32) (n : Nat) (H : Nat → Nat → Int32) (U : Nat → Int32) (cells slots : Nat), ad 0 = x0 → SIM G V n H U → INV cells slots n → WW z cells slots (WC (zk z) ad G V n ++ WM (zk z) am H U) 18 [(0, .ref b), (1, .ref x0), (2, .ref (am 0)), (3, .int (nI (i + 6)))] []) → ∀ (ad : Nat → Nat) (G : Nat → Nat → Int32) (V : Nat → Int32) (n : Nat) (H : Nat → Nat → Int32) (U : Nat → Int32) (cells slots : Nat), ad 0 = x0 → SIM G V n H U → INV cells slots n → WW z cells slots (WC (zk z) ad G V n ++ WM (zk z) am H U) 18 [(0, .ref b), (1, .ref x0), (2, .ref (am 0)), (3, .int (nI i))] [] := by
    intro i hi next ad G V n H U cells slots e0 S I
    subst e0
    refine r_iload_n E (q := 19) 3 dL_law_18 rfl rfl rfl ?_
    refine r_aload_n E (q := 20) 0 dL_law_19 rfl rfl rfl ?_
    refine r_slen E (q := 21) hX hbl hbA dL_law_20 rfl ?_
    refine r_bipush E (q := 23) (v := nI 6) dL_law_21 (by decide) rfl ?_
    refine r_isub E (q := 24) dL_law_23 rfl ?_
    refine r_icmp_gt E (q := 27) 592 dL_law_24 (by decide) rfl (fun _ => ?_) (fun c => ?_)
    · refine r_iconst E (q := 593) (v := 1) dL_law_592 (by decide) rfl ?_
      have g := gch_le S.2.2
      have g4 : gph n ≤ 108000 := by unfold gph; split <;> omega
      obtain ⟨h1, h2⟩ := I
      exact K _ _ _ _ (by omega) (by omega)
    · have h6 := law_more hL (by omega) c
      have KK : ∀ (ad' : Nat → Nat) (G' : Nat → Nat → Int32) (V' : Nat → Int32) (n' : Nat) (H' : Nat → Nat → Int32) (U' : Nat → Int32) (c' s' : Nat), ad' 0 = ad 0 → SIM G' V' n' H' U' → INV c' s' n' → WW z c' s' (WC (zk z) ad' G' V' n' ++ WM (zk z) am H' U') 586 [(0, .ref b), (1, .ref (ad 0)), (2, .ref (am 0)), (3, .int (nI i))] [] := by
        intro ad' G' V' n' H' U' c' s' e1 S1 I1
        refine r_iinc E (q := 589) 3 [1, 2, 3, 0] (lv' := [(0, .ref b), (1, .ref (ad 0)), (2, .ref (am 0)), (3, .int (nI (i + 6)))]) (v := nI (i + 6)) dL_law_586 rfl (nI_add i 6) (by rw [hz]; decide) rfl rfl ?_
        refine r_goto E 18 dL_law_589 (by decide) ?_
        exact next h6 ad' G' V' n' H' U' c' s' e1 S1 I1
      refine r_aload_n E (q := 28) 0 dL_law_27 rfl rfl rfl ?_
      refine r_iload_n E (q := 29) 3 dL_law_28 rfl rfl rfl ?_
      refine r_sld E (q := 30) hX hbl hbA (vp_in_nI (by omega) (by omega)) dL_law_29 rfl ?_
      refine r_bipush E (q := 32) (v := 15) dL_law_30 (by decide) rfl ?_
      refine r_iand E (q := 33) dL_law_32 rfl ?_
      generalize xs (nI i).toNatClampNeg &&& 15 = y
      by_cases c0 : y = 0
      · exact r_tabIn E 0 c0 104 dL_law_33 (by decide) (by rfl) (by decide) (lawc_0 E hR hX hbl hbA hL h6 S I KK)
      by_cases c1 : y = 1
      · exact r_tabIn E 1 c1 157 dL_law_33 (by decide) (by rfl) (by decide) (lawc_1 E hR hX hbl hbA hL h6 S I KK)
      by_cases c2 : y = 2
      · exact r_tabIn E 2 c2 180 dL_law_33 (by decide) (by rfl) (by decide) (lawc_2 E hR hX hbl hbA hL h6 S I KK)
      by_cases c3 : y = 3
      · exact r_tabIn E 3 c3 213 dL_law_33 (by decide) (by rfl) (by decide) (lawc_3 E hR hX hbl hbA hL h6 S I KK)
      by_cases c4 : y = 4
      · exact r_tabIn E 4 c4 256 dL_law_33 (by decide) (by rfl) (by decide) (lawc_4 E hR hX hbl hbA hL h6 S I KK)
      by_cases c5 : y = 5
      · exact r_tabIn E 5 c5 289 dL_law_33 (by decide) (by rfl) (by decide) (lawc_5 E hR hX hbl hbA hL h6 S I KK)
      by_cases c6 : y = 6
      · exact r_tabIn E 6 c6 352 dL_law_33 (by decide) (by rfl) (by decide) (lawc_6 E hR hX hbl hbA hL h6 S I KK)
      by_cases c7 : y = 7
      · exact r_tabIn E 7 c7 385 dL_law_33 (by decide) (by rfl) (by decide) (lawc_7 E hR hX hbl hbA hL h6 S I KK)
      by_cases c8 : y = 8
      · exact r_tabIn E 8 c8 408 dL_law_33 (by decide) (by rfl) (by decide) (lawc_8 E hR hX hbl hbA hL h6 S I KK)
      by_cases c9 : y = 9
      · exact r_tabIn E 9 c9 441 dL_law_33 (by decide) (by rfl) (by decide) (lawc_9 E hR hX hbl hbA hL h6 S I KK)
      by_cases c10 : y = 10
      · exact r_tabIn E 10 c10 464 dL_law_33 (by decide) (by rfl) (by decide) (lawc_10 E hR hX hbl hbA hL h6 S I KK)
      by_cases c11 : y = 11
      · exact r_tabIn E 11 c11 497 dL_law_33 (by decide) (by rfl) (by decide) (lawc_11 E hR hX hbl hbA hL h6 S I KK)
      by_cases c12 : y = 12
      · exact r_tabIn E 12 c12 530 dL_law_33 (by decide) (by rfl) (by decide) (lawc_12 E hR hX hbl hbA hL h6 S I KK)
      by_cases c13 : y = 13
      · exact r_tabIn E 13 c13 563 dL_law_33 (by decide) (by rfl) (by decide) (lawc_13 E hR hX hbl hbA hL h6 S I KK)
      refine r_tabOut E 586 dL_law_33 (sw_out (fun j hj e => by match j with | 0 => exact c0 (e.trans (by decide)) | 1 => exact c1 (e.trans (by decide)) | 2 => exact c2 (e.trans (by decide)) | 3 => exact c3 (e.trans (by decide)) | 4 => exact c4 (e.trans (by decide)) | 5 => exact c5 (e.trans (by decide)) | 6 => exact c6 (e.trans (by decide)) | 7 => exact c7 (e.trans (by decide)) | 8 => exact c8 (e.trans (by decide)) | 9 => exact c9 (e.trans (by decide)) | 10 => exact c10 (e.trans (by decide)) | 11 => exact c11 (e.trans (by decide)) | 12 => exact c12 (e.trans (by decide)) | 13 => exact c13 (e.trans (by decide)) | j + 14 => omega)) (by decide) ?_
      exact KK ad G V n H U cells slots rfl S I
  intro N
  induction N with
  | zero => intro i h1 h2; exact step i h2 (fun q => absurd q (by omega))
  | succ N ih => intro i h1 h2; exact step i h2 (fun q => ih (i + 6) (by omega) q)
/-- from the entry, for every script of at most 3072 ints, the law comes to its end with true -/
theorem whole_start {p : Program} {e : Env} {s : State} {m : MethodId} {below : List Frame} {meth : Method} {c : Code} (l : Launch) {b L : Nat} {xs : Nat → Int32} (hL : L ≤ 3072) (C0 : lw_At p s m meth c b L xs) : W p l e room_1 s m #[Value.ref b] below meth c s.heap [] 0 0 (lw_Z below #[Value.ref b] s) (entryFrame m ([Value.ref b] : List Value).toArray 4) := by
  obtain ⟨k, E⟩ := law_EN (l := l) (e := e) (below := below) C0
  obtain ⟨hx, hb, hr, hml, hown, hts, hX, hbl, hlocks, hgv⟩ := C0
  have key : WW (lzz p l e s m b below meth c k) 0 0 [] 0 [(0, .ref b)] [] := by
    have hbA : ¬ zA (lzz p l e s m b below meth c k) b := Nat.not_le.mpr hbl
    have hR : RR (lzz p l e s m b below meth c k) 100 600000 7302250 := ⟨Nat.le_of_ble_eq_true rfl, Nat.le_of_ble_eq_true rfl, Nat.le_refl _, Nat.le_refl _⟩
    have hE : ∀ (w : va_W) (lv : Lv) (c' s' : Nat), c' ≤ 600000 → s' ≤ 7302250 → WW (lzz p l e s m b below meth c k) c' s' w 593 lv [.int 1] := by
      intro w lv c' s' h1 h2 H locs ls hP hD hS hl
      exact va_forget (fun q hq => hS.2.2 q hq) (W.widen h1 h2 (lw_ret hx hb hr hlocks dL_law_593))
    refine r_new E (q := 3) nwL_7 hR (Nat.le_of_ble_eq_true rfl) (Nat.le_of_ble_eq_true rfl) dL_law_0 rfl (fun o1 => ?_)
    refine r_dup E (q := 4) dL_law_3 rfl rfl ?_
    refine rI E ciL_9 hR (Fr.all (w := [(o1, .inr (5, [.null, .null, .null, .null, .null]))])) [] (c_X5_init (l := l) (k := k) o1) (by decide) rfl rfl (Nat.le_of_ble_eq_true rfl) ⟨Nat.le_of_ble_eq_true rfl, Nat.le_of_ble_eq_true rfl⟩ dL_law_4 (fun v9 w9 h9 => ?_)
    obtain ⟨rfl, ad, rfl, rfl⟩ := h9
    show WW (lzz p l e s m b below meth c k) 28 1207 (WC k ad G0 V0C 120) 7 [(0, .ref b)] [.ref (ad 0)]
    refine r_astore_n E (q := 8) [1, 0] (lv' := [(0, .ref b), (1, .ref (ad 0))]) dL_law_7 rfl (Nat.le_of_ble_eq_true rfl) rfl rfl ?_
    refine r_new E (q := 11) nwL_10 hR (Nat.le_of_ble_eq_true rfl) (Nat.le_of_ble_eq_true rfl) dL_law_8 rfl (fun o2 => ?_)
    refine r_dup E (q := 12) dL_law_11 rfl rfl ?_
    refine rI E ciL_12 hR (Fr.right (a := WC k ad G0 V0C 120)) [] (c_X6_init (l := l) (k := k) o2) (by decide) rfl rfl (Nat.le_of_ble_eq_true rfl) ⟨Nat.le_of_ble_eq_true rfl, Nat.le_of_ble_eq_true rfl⟩ dL_law_12 (fun v9 w9 h9 => ?_)
    obtain ⟨rfl, am, rfl, rfl⟩ := h9
    show WW (lzz p l e s m b below meth c k) 53 38887 (WC k ad G0 V0C 120 ++ WM k am G0 V0M) 15 [(0, .ref b), (1, .ref (ad 0))] [.ref (am 0)]
    refine r_astore_n E (q := 16) [1, 2, 0] (lv' := [(0, .ref b), (1, .ref (ad 0)), (2, .ref (am 0))]) dL_law_15 rfl (Nat.le_of_ble_eq_true rfl) rfl rfl ?_
    refine r_iconst E (q := 17) (v := nI 0) dL_law_16 (by decide) rfl ?_
    refine r_istore_n E (q := 18) [1, 2, 3, 0] (lv' := [(0, .ref b), (1, .ref (ad 0)), (2, .ref (am 0)), (3, .int (nI 0))]) dL_law_17 rfl (Nat.le_of_ble_eq_true rfl) rfl rfl ?_
    exact law_loop E hR rfl hX hbl hbA hL hE L 0 (by omega) (Nat.zero_le _) ad G0 V0C 120 G0 V0M 53 38887 rfl sim_start ⟨by omega, by decide⟩
  rw [lg_entry_eq]
  exact key s.heap [] _ (fun k q h => by simp at h) ⟨fun i j p q h => by simp at h, fun k q h => by simp at h⟩ va_S.rf (lv_entry ([.ref b]) (n := 4) (Nat.le_of_ble_eq_true rfl))
