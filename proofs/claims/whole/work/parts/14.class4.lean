def VE (V : Nat → Int32) (p : Int32 × Int32) : Nat → Int32 := upd (upd V 5 p.1) 6 (V 6 + p.2)
theorem VE5 (V : Nat → Int32) (p : Int32 × Int32) : VE V p 5 = p.1 := rfl
def fX3_valueOfParts (G : Nat → Nat → Int32) (V : Nat → Int32) (p9 q9 : Int32 × Int32 × Int32) (kind : Int32) (a : Int32) (b : Int32) (row : Int32) : Int32 := if p9.2.1 = 0 then (if kind = 6 then (fX3_itemAt G (VE V p9.2) p9.1) else (if kind = 11 then (if p9.1 = 0 then 1 else 0) else (if kind = 9 then (if p9.1 = 0 then 0 else (if kind = 10 then (if p9.1 = 0 then (if q9.2.1 = 0 then (fX3_valueOfPair (VE (VE V p9.2) q9.2) kind p9.1 q9.1) else 0) else 1) else (if q9.2.1 = 0 then (fX3_valueOfPair (VE (VE V p9.2) q9.2) kind p9.1 q9.1) else 0))) else (if kind = 10 then (if p9.1 = 0 then (if q9.2.1 = 0 then (fX3_valueOfPair (VE (VE V p9.2) q9.2) kind p9.1 q9.1) else 0) else 1) else (if q9.2.1 = 0 then (fX3_valueOfPair (VE (VE V p9.2) q9.2) kind p9.1 q9.1) else 0))))) else 0
def fX3_valueOfParts_V (G : Nat → Nat → Int32) (V : Nat → Int32) (p9 q9 : Int32 × Int32 × Int32) (kind : Int32) (a : Int32) (b : Int32) (row : Int32) : Nat → Int32 := if p9.2.1 = 0 then (if kind = 6 then (fX3_itemAt_V G (VE V p9.2) p9.1) else (if kind = 11 then (VE V p9.2) else (if kind = 9 then (if p9.1 = 0 then (VE V p9.2) else (if kind = 10 then (if p9.1 = 0 then (if q9.2.1 = 0 then (fX3_valueOfPair_V (VE (VE V p9.2) q9.2) kind p9.1 q9.1) else (VE (VE V p9.2) q9.2)) else (VE V p9.2)) else (if q9.2.1 = 0 then (fX3_valueOfPair_V (VE (VE V p9.2) q9.2) kind p9.1 q9.1) else (VE (VE V p9.2) q9.2)))) else (if kind = 10 then (if p9.1 = 0 then (if q9.2.1 = 0 then (fX3_valueOfPair_V (VE (VE V p9.2) q9.2) kind p9.1 q9.1) else (VE (VE V p9.2) q9.2)) else (VE V p9.2)) else (if q9.2.1 = 0 then (fX3_valueOfPair_V (VE (VE V p9.2) q9.2) kind p9.1 q9.1) else (VE (VE V p9.2) q9.2)))))) else (VE V p9.2)
set_option maxRecDepth 100000 in
set_option maxHeartbeats 800000 in
theorem c_X3_valueOfParts {l : Launch} {k : Kt} {ad : Nat → Nat} {G : Nat → Nat → Int32} {V : Nat → Int32} {n : Nat} (p9 q9 : Int32 × Int32 × Int32) {d : Nat} (kind : Int32) (a : Int32) (b : Int32) (row : Int32) (hA : CT l k yX3_valueOf cX3_valueOf 4 (some .int) (2 * d + 2) [.ref (ad 23), .int a, .int row] (WC k ad G V n) (eqI p9.1 (WC k ad G (VE V p9.2) n)) 0 0) (hB : p9.2.1 = 0 → ¬ kind = 6 → ¬ kind = 11 → CT l k yX3_valueOf cX3_valueOf 4 (some .int) (2 * d + 2) [.ref (ad 23), .int b, .int row] (WC k ad G (VE V p9.2) n) (eqI q9.1 (WC k ad G (VE (VE V p9.2) q9.2) n)) 0 0) : CT l k yX3_valueOfParts cX3_valueOfParts 7 (some .int) (2 * d + 3) [.ref (ad 23), .int kind, .int a, .int b, .int row] (WC k ad G V n) (eqI (fX3_valueOfParts G V p9 q9 kind a b row) (WC k ad G (fX3_valueOfParts_V G V p9 q9 kind a b row) n)) 0 0 := by
  refine ct_of (own := RX3) (lv0 := [(0, .ref (ad 23)), (1, .int kind), (2, .int a), (3, .int b), (4, .int row)]) (by decide) rfl (Nat.le_of_ble_eq_true rfl) rfl ?_
  rintro z rfl rfl hz - E T
  refine r_aload_n E (q := 1) 0 dX3_valueOfParts_0 rfl rfl rfl ?_
  refine r_iload_n E (q := 2) 2 dX3_valueOfParts_1 rfl rfl rfl ?_
  refine r_iload E (q := 4) 4 dX3_valueOfParts_2 rfl rfl ?_
  refine rVi E (q := 7) cvX3_130 T.rr 23 wc_23 rfl [.int a, .int row] hA (by omega) rfl rfl (Nat.le_of_ble_eq_true rfl) ⟨(Nat.le_of_ble_eq_true rfl), (Nat.le_of_ble_eq_true rfl)⟩ dX3_valueOfParts_4 rfl ?_
  refine r_istore E (q := 9) (lv' := [(0, .ref (ad 23)), (1, .int kind), (2, .int a), (3, .int b), (4, .int row), (5, .int p9.1)]) [1, 2, 3, 4, 5, 0] dX3_valueOfParts_7 (by rw [hz]; decide) rfl rfl ?_
  refine r_aload_n E (q := 10) 0 dX3_valueOfParts_9 rfl rfl rfl ?_
  refine r_get E (q := 13) fX3_42 23 wc_23 rfl dX3_valueOfParts_10 rfl ?_
  refine r_v (VE5 _ _) ?_
  refine r_if_eq E (q := 16) 18 dX3_valueOfParts_13 (by decide) rfl (fun c1 => ?_) (fun c1 => ?_)
  · refine r_iload_n E (q := 19) 1 dX3_valueOfParts_18 rfl rfl rfl ?_
    refine r_bipush E (q := 21) (v := 6) dX3_valueOfParts_19 (by decide) rfl ?_
    refine r_icmp_ne E (q := 24) 31 dX3_valueOfParts_21 (by decide) rfl (fun c2 => ?_) (fun c2 => ?_)
    · refine r_iload_n E (q := 32) 1 dX3_valueOfParts_31 rfl rfl rfl ?_
      refine r_bipush E (q := 34) (v := 11) dX3_valueOfParts_32 (by decide) rfl ?_
      refine r_icmp_ne E (q := 37) 48 dX3_valueOfParts_34 (by decide) rfl (fun c3 => ?_) (fun c3 => ?_)
      · refine r_iload_n E (q := 49) 1 dX3_valueOfParts_48 rfl rfl rfl ?_
        refine r_bipush E (q := 51) (v := 9) dX3_valueOfParts_49 (by decide) rfl ?_
        refine r_icmp_ne E (q := 54) 61 dX3_valueOfParts_51 (by decide) rfl (fun c4 => ?_) (fun c4 => ?_)
        · refine r_iload_n E (q := 62) 1 dX3_valueOfParts_61 rfl rfl rfl ?_
          refine r_bipush E (q := 64) (v := 10) dX3_valueOfParts_62 (by decide) rfl ?_
          refine r_icmp_ne E (q := 67) 74 dX3_valueOfParts_64 (by decide) rfl (fun c5 => ?_) (fun c5 => ?_)
          · refine r_aload_n E (q := 75) 0 dX3_valueOfParts_74 rfl rfl rfl ?_
            refine r_iload_n E (q := 76) 3 dX3_valueOfParts_75 rfl rfl rfl ?_
            refine r_iload E (q := 78) 4 dX3_valueOfParts_76 rfl rfl ?_
            refine rVi E (q := 81) cvX3_130 T.rr 23 wc_23 rfl [.int b, .int row] (hB (by assumption) (by assumption) (by assumption)) (by omega) rfl rfl (Nat.le_of_ble_eq_true rfl) ⟨(Nat.le_of_ble_eq_true rfl), (Nat.le_of_ble_eq_true rfl)⟩ dX3_valueOfParts_78 rfl ?_
            refine r_istore E (q := 83) (lv' := [(0, .ref (ad 23)), (1, .int kind), (2, .int a), (3, .int b), (4, .int row), (5, .int p9.1), (6, .int q9.1)]) [1, 2, 3, 4, 5, 6, 0] dX3_valueOfParts_81 (by rw [hz]; decide) rfl rfl ?_
            refine r_aload_n E (q := 84) 0 dX3_valueOfParts_83 rfl rfl rfl ?_
            refine r_get E (q := 87) fX3_42 23 wc_23 rfl dX3_valueOfParts_84 rfl ?_
            refine r_v (VE5 _ _) ?_
            refine r_if_eq E (q := 90) 92 dX3_valueOfParts_87 (by decide) rfl (fun c6 => ?_) (fun c6 => ?_)
            · refine r_aload_n E (q := 93) 0 dX3_valueOfParts_92 rfl rfl rfl ?_
              refine r_iload_n E (q := 94) 1 dX3_valueOfParts_93 rfl rfl rfl ?_
              refine r_iload E (q := 96) 5 dX3_valueOfParts_94 rfl rfl ?_
              refine r_iload E (q := 98) 6 dX3_valueOfParts_96 rfl rfl ?_
              refine rVi E (q := 101) cvX3_181 T.rr 23 wc_23 rfl [.int kind, .int p9.1, .int q9.1] (c_X3_valueOfPair kind p9.1 q9.1) (by omega) rfl rfl (Nat.le_of_ble_eq_true rfl) ⟨(Nat.le_of_ble_eq_true rfl), (Nat.le_of_ble_eq_true rfl)⟩ dX3_valueOfParts_98 rfl ?_
              exact r_iret E T dX3_valueOfParts_101 (eqI.mk (by unfold fX3_valueOfParts; exact ((if_pos c1).trans ((if_neg c2).trans ((if_neg c3).trans ((if_neg c4).trans ((if_neg c5).trans (if_pos c6)))))).symm) (cgC rfl (by unfold fX3_valueOfParts_V; exact ((if_pos c1).trans ((if_neg c2).trans ((if_neg c3).trans ((if_neg c4).trans ((if_neg c5).trans (if_pos c6)))))).symm)))
            · refine r_iconst E (q := 91) (v := 0) dX3_valueOfParts_90 (by decide) rfl ?_
              exact r_iret E T dX3_valueOfParts_91 (eqI.mk (by unfold fX3_valueOfParts; exact ((if_pos c1).trans ((if_neg c2).trans ((if_neg c3).trans ((if_neg c4).trans ((if_neg c5).trans (if_neg c6)))))).symm) (cgC rfl (by unfold fX3_valueOfParts_V; exact ((if_pos c1).trans ((if_neg c2).trans ((if_neg c3).trans ((if_neg c4).trans ((if_neg c5).trans (if_neg c6)))))).symm)))
          · refine r_iload E (q := 69) 5 dX3_valueOfParts_67 rfl rfl ?_
            refine r_if_eq E (q := 72) 74 dX3_valueOfParts_69 (by decide) rfl (fun c7 => ?_) (fun c7 => ?_)
            · refine r_aload_n E (q := 75) 0 dX3_valueOfParts_74 rfl rfl rfl ?_
              refine r_iload_n E (q := 76) 3 dX3_valueOfParts_75 rfl rfl rfl ?_
              refine r_iload E (q := 78) 4 dX3_valueOfParts_76 rfl rfl ?_
              refine rVi E (q := 81) cvX3_130 T.rr 23 wc_23 rfl [.int b, .int row] (hB (by assumption) (by assumption) (by assumption)) (by omega) rfl rfl (Nat.le_of_ble_eq_true rfl) ⟨(Nat.le_of_ble_eq_true rfl), (Nat.le_of_ble_eq_true rfl)⟩ dX3_valueOfParts_78 rfl ?_
              refine r_istore E (q := 83) (lv' := [(0, .ref (ad 23)), (1, .int kind), (2, .int a), (3, .int b), (4, .int row), (5, .int p9.1), (6, .int q9.1)]) [1, 2, 3, 4, 5, 6, 0] dX3_valueOfParts_81 (by rw [hz]; decide) rfl rfl ?_
              refine r_aload_n E (q := 84) 0 dX3_valueOfParts_83 rfl rfl rfl ?_
              refine r_get E (q := 87) fX3_42 23 wc_23 rfl dX3_valueOfParts_84 rfl ?_
              refine r_v (VE5 _ _) ?_
              refine r_if_eq E (q := 90) 92 dX3_valueOfParts_87 (by decide) rfl (fun c8 => ?_) (fun c8 => ?_)
              · refine r_aload_n E (q := 93) 0 dX3_valueOfParts_92 rfl rfl rfl ?_
                refine r_iload_n E (q := 94) 1 dX3_valueOfParts_93 rfl rfl rfl ?_
                refine r_iload E (q := 96) 5 dX3_valueOfParts_94 rfl rfl ?_
                refine r_iload E (q := 98) 6 dX3_valueOfParts_96 rfl rfl ?_
                refine rVi E (q := 101) cvX3_181 T.rr 23 wc_23 rfl [.int kind, .int p9.1, .int q9.1] (c_X3_valueOfPair kind p9.1 q9.1) (by omega) rfl rfl (Nat.le_of_ble_eq_true rfl) ⟨(Nat.le_of_ble_eq_true rfl), (Nat.le_of_ble_eq_true rfl)⟩ dX3_valueOfParts_98 rfl ?_
                exact r_iret E T dX3_valueOfParts_101 (eqI.mk (by unfold fX3_valueOfParts; exact ((if_pos c1).trans ((if_neg c2).trans ((if_neg c3).trans ((if_neg c4).trans ((if_pos c5).trans ((if_pos c7).trans (if_pos c8))))))).symm) (cgC rfl (by unfold fX3_valueOfParts_V; exact ((if_pos c1).trans ((if_neg c2).trans ((if_neg c3).trans ((if_neg c4).trans ((if_pos c5).trans ((if_pos c7).trans (if_pos c8))))))).symm)))
              · refine r_iconst E (q := 91) (v := 0) dX3_valueOfParts_90 (by decide) rfl ?_
                exact r_iret E T dX3_valueOfParts_91 (eqI.mk (by unfold fX3_valueOfParts; exact ((if_pos c1).trans ((if_neg c2).trans ((if_neg c3).trans ((if_neg c4).trans ((if_pos c5).trans ((if_pos c7).trans (if_neg c8))))))).symm) (cgC rfl (by unfold fX3_valueOfParts_V; exact ((if_pos c1).trans ((if_neg c2).trans ((if_neg c3).trans ((if_neg c4).trans ((if_pos c5).trans ((if_pos c7).trans (if_neg c8))))))).symm)))
            · refine r_iconst E (q := 73) (v := 1) dX3_valueOfParts_72 (by decide) rfl ?_
              exact r_iret E T dX3_valueOfParts_73 (eqI.mk (by unfold fX3_valueOfParts; exact ((if_pos c1).trans ((if_neg c2).trans ((if_neg c3).trans ((if_neg c4).trans ((if_pos c5).trans (if_neg c7)))))).symm) (cgC rfl (by unfold fX3_valueOfParts_V; exact ((if_pos c1).trans ((if_neg c2).trans ((if_neg c3).trans ((if_neg c4).trans ((if_pos c5).trans (if_neg c7)))))).symm)))
        · refine r_iload E (q := 56) 5 dX3_valueOfParts_54 rfl rfl ?_
          refine r_if_ne E (q := 59) 61 dX3_valueOfParts_56 (by decide) rfl (fun c9 => ?_) (fun c9 => ?_)
          · refine r_iload_n E (q := 62) 1 dX3_valueOfParts_61 rfl rfl rfl ?_
            refine r_bipush E (q := 64) (v := 10) dX3_valueOfParts_62 (by decide) rfl ?_
            refine r_icmp_ne E (q := 67) 74 dX3_valueOfParts_64 (by decide) rfl (fun c10 => ?_) (fun c10 => ?_)
            · refine r_aload_n E (q := 75) 0 dX3_valueOfParts_74 rfl rfl rfl ?_
              refine r_iload_n E (q := 76) 3 dX3_valueOfParts_75 rfl rfl rfl ?_
              refine r_iload E (q := 78) 4 dX3_valueOfParts_76 rfl rfl ?_
              refine rVi E (q := 81) cvX3_130 T.rr 23 wc_23 rfl [.int b, .int row] (hB (by assumption) (by assumption) (by assumption)) (by omega) rfl rfl (Nat.le_of_ble_eq_true rfl) ⟨(Nat.le_of_ble_eq_true rfl), (Nat.le_of_ble_eq_true rfl)⟩ dX3_valueOfParts_78 rfl ?_
              refine r_istore E (q := 83) (lv' := [(0, .ref (ad 23)), (1, .int kind), (2, .int a), (3, .int b), (4, .int row), (5, .int p9.1), (6, .int q9.1)]) [1, 2, 3, 4, 5, 6, 0] dX3_valueOfParts_81 (by rw [hz]; decide) rfl rfl ?_
              refine r_aload_n E (q := 84) 0 dX3_valueOfParts_83 rfl rfl rfl ?_
              refine r_get E (q := 87) fX3_42 23 wc_23 rfl dX3_valueOfParts_84 rfl ?_
              refine r_v (VE5 _ _) ?_
              refine r_if_eq E (q := 90) 92 dX3_valueOfParts_87 (by decide) rfl (fun c11 => ?_) (fun c11 => ?_)
              · refine r_aload_n E (q := 93) 0 dX3_valueOfParts_92 rfl rfl rfl ?_
                refine r_iload_n E (q := 94) 1 dX3_valueOfParts_93 rfl rfl rfl ?_
                refine r_iload E (q := 96) 5 dX3_valueOfParts_94 rfl rfl ?_
                refine r_iload E (q := 98) 6 dX3_valueOfParts_96 rfl rfl ?_
                refine rVi E (q := 101) cvX3_181 T.rr 23 wc_23 rfl [.int kind, .int p9.1, .int q9.1] (c_X3_valueOfPair kind p9.1 q9.1) (by omega) rfl rfl (Nat.le_of_ble_eq_true rfl) ⟨(Nat.le_of_ble_eq_true rfl), (Nat.le_of_ble_eq_true rfl)⟩ dX3_valueOfParts_98 rfl ?_
                exact r_iret E T dX3_valueOfParts_101 (eqI.mk (by unfold fX3_valueOfParts; exact ((if_pos c1).trans ((if_neg c2).trans ((if_neg c3).trans ((if_pos c4).trans ((if_neg c9).trans ((if_neg c10).trans (if_pos c11))))))).symm) (cgC rfl (by unfold fX3_valueOfParts_V; exact ((if_pos c1).trans ((if_neg c2).trans ((if_neg c3).trans ((if_pos c4).trans ((if_neg c9).trans ((if_neg c10).trans (if_pos c11))))))).symm)))
              · refine r_iconst E (q := 91) (v := 0) dX3_valueOfParts_90 (by decide) rfl ?_
                exact r_iret E T dX3_valueOfParts_91 (eqI.mk (by unfold fX3_valueOfParts; exact ((if_pos c1).trans ((if_neg c2).trans ((if_neg c3).trans ((if_pos c4).trans ((if_neg c9).trans ((if_neg c10).trans (if_neg c11))))))).symm) (cgC rfl (by unfold fX3_valueOfParts_V; exact ((if_pos c1).trans ((if_neg c2).trans ((if_neg c3).trans ((if_pos c4).trans ((if_neg c9).trans ((if_neg c10).trans (if_neg c11))))))).symm)))
            · refine r_iload E (q := 69) 5 dX3_valueOfParts_67 rfl rfl ?_
              refine r_if_eq E (q := 72) 74 dX3_valueOfParts_69 (by decide) rfl (fun c12 => ?_) (fun c12 => ?_)
              · refine r_aload_n E (q := 75) 0 dX3_valueOfParts_74 rfl rfl rfl ?_
                refine r_iload_n E (q := 76) 3 dX3_valueOfParts_75 rfl rfl rfl ?_
                refine r_iload E (q := 78) 4 dX3_valueOfParts_76 rfl rfl ?_
                refine rVi E (q := 81) cvX3_130 T.rr 23 wc_23 rfl [.int b, .int row] (hB (by assumption) (by assumption) (by assumption)) (by omega) rfl rfl (Nat.le_of_ble_eq_true rfl) ⟨(Nat.le_of_ble_eq_true rfl), (Nat.le_of_ble_eq_true rfl)⟩ dX3_valueOfParts_78 rfl ?_
                refine r_istore E (q := 83) (lv' := [(0, .ref (ad 23)), (1, .int kind), (2, .int a), (3, .int b), (4, .int row), (5, .int p9.1), (6, .int q9.1)]) [1, 2, 3, 4, 5, 6, 0] dX3_valueOfParts_81 (by rw [hz]; decide) rfl rfl ?_
                refine r_aload_n E (q := 84) 0 dX3_valueOfParts_83 rfl rfl rfl ?_
                refine r_get E (q := 87) fX3_42 23 wc_23 rfl dX3_valueOfParts_84 rfl ?_
                refine r_v (VE5 _ _) ?_
                refine r_if_eq E (q := 90) 92 dX3_valueOfParts_87 (by decide) rfl (fun c13 => ?_) (fun c13 => ?_)
                · refine r_aload_n E (q := 93) 0 dX3_valueOfParts_92 rfl rfl rfl ?_
                  refine r_iload_n E (q := 94) 1 dX3_valueOfParts_93 rfl rfl rfl ?_
                  refine r_iload E (q := 96) 5 dX3_valueOfParts_94 rfl rfl ?_
                  refine r_iload E (q := 98) 6 dX3_valueOfParts_96 rfl rfl ?_
                  refine rVi E (q := 101) cvX3_181 T.rr 23 wc_23 rfl [.int kind, .int p9.1, .int q9.1] (c_X3_valueOfPair kind p9.1 q9.1) (by omega) rfl rfl (Nat.le_of_ble_eq_true rfl) ⟨(Nat.le_of_ble_eq_true rfl), (Nat.le_of_ble_eq_true rfl)⟩ dX3_valueOfParts_98 rfl ?_
                  exact r_iret E T dX3_valueOfParts_101 (eqI.mk (by unfold fX3_valueOfParts; exact ((if_pos c1).trans ((if_neg c2).trans ((if_neg c3).trans ((if_pos c4).trans ((if_neg c9).trans ((if_pos c10).trans ((if_pos c12).trans (if_pos c13)))))))).symm) (cgC rfl (by unfold fX3_valueOfParts_V; exact ((if_pos c1).trans ((if_neg c2).trans ((if_neg c3).trans ((if_pos c4).trans ((if_neg c9).trans ((if_pos c10).trans ((if_pos c12).trans (if_pos c13)))))))).symm)))
                · refine r_iconst E (q := 91) (v := 0) dX3_valueOfParts_90 (by decide) rfl ?_
                  exact r_iret E T dX3_valueOfParts_91 (eqI.mk (by unfold fX3_valueOfParts; exact ((if_pos c1).trans ((if_neg c2).trans ((if_neg c3).trans ((if_pos c4).trans ((if_neg c9).trans ((if_pos c10).trans ((if_pos c12).trans (if_neg c13)))))))).symm) (cgC rfl (by unfold fX3_valueOfParts_V; exact ((if_pos c1).trans ((if_neg c2).trans ((if_neg c3).trans ((if_pos c4).trans ((if_neg c9).trans ((if_pos c10).trans ((if_pos c12).trans (if_neg c13)))))))).symm)))
              · refine r_iconst E (q := 73) (v := 1) dX3_valueOfParts_72 (by decide) rfl ?_
                exact r_iret E T dX3_valueOfParts_73 (eqI.mk (by unfold fX3_valueOfParts; exact ((if_pos c1).trans ((if_neg c2).trans ((if_neg c3).trans ((if_pos c4).trans ((if_neg c9).trans ((if_pos c10).trans (if_neg c12))))))).symm) (cgC rfl (by unfold fX3_valueOfParts_V; exact ((if_pos c1).trans ((if_neg c2).trans ((if_neg c3).trans ((if_pos c4).trans ((if_neg c9).trans ((if_pos c10).trans (if_neg c12))))))).symm)))
          · refine r_iconst E (q := 60) (v := 0) dX3_valueOfParts_59 (by decide) rfl ?_
            exact r_iret E T dX3_valueOfParts_60 (eqI.mk (by unfold fX3_valueOfParts; exact ((if_pos c1).trans ((if_neg c2).trans ((if_neg c3).trans ((if_pos c4).trans (if_pos c9))))).symm) (cgC rfl (by unfold fX3_valueOfParts_V; exact ((if_pos c1).trans ((if_neg c2).trans ((if_neg c3).trans ((if_pos c4).trans (if_pos c9))))).symm)))
      · refine r_iload E (q := 39) 5 dX3_valueOfParts_37 rfl rfl ?_
        refine r_join 47 (if p9.1 = 0 then 1 else 0) (rest := []) ?_ (fun hj1 => ?_)
        · exact r_iret E T dX3_valueOfParts_47 (eqI.mk (by unfold fX3_valueOfParts; exact ((if_pos c1).trans ((if_neg c2).trans (if_pos c3))).symm) (cgC rfl (by unfold fX3_valueOfParts_V; exact ((if_pos c1).trans ((if_neg c2).trans (if_pos c3))).symm)))
        · refine r_if_ne E (q := 42) 46 dX3_valueOfParts_39 (by decide) rfl (fun c14 => ?_) (fun c14 => ?_)
          · refine r_iconst E (q := 47) (v := 0) dX3_valueOfParts_46 (by decide) rfl ?_
            exact hj1 _ (if_neg c14).symm
          · refine r_iconst E (q := 43) (v := 1) dX3_valueOfParts_42 (by decide) rfl ?_
            refine r_goto E 47 dX3_valueOfParts_43 (by decide) ?_
            exact hj1 _ (if_pos c14).symm
    · refine r_aload_n E (q := 25) 0 dX3_valueOfParts_24 rfl rfl rfl ?_
      refine r_iload E (q := 27) 5 dX3_valueOfParts_25 rfl rfl ?_
      refine rVi E (q := 30) cvX3_178 T.rr 23 wc_23 rfl [.int p9.1] (c_X3_itemAt p9.1) (by omega) rfl rfl (Nat.le_of_ble_eq_true rfl) ⟨(Nat.le_of_ble_eq_true rfl), (Nat.le_of_ble_eq_true rfl)⟩ dX3_valueOfParts_27 rfl ?_
      exact r_iret E T dX3_valueOfParts_30 (eqI.mk (by unfold fX3_valueOfParts; exact ((if_pos c1).trans (if_pos c2)).symm) (cgC rfl (by unfold fX3_valueOfParts_V; exact ((if_pos c1).trans (if_pos c2)).symm)))
  · refine r_iconst E (q := 17) (v := 0) dX3_valueOfParts_16 (by decide) rfl ?_
    exact r_iret E T dX3_valueOfParts_17 (eqI.mk (by unfold fX3_valueOfParts; exact (if_neg c1).symm) (cgC rfl (by unfold fX3_valueOfParts_V; exact (if_neg c1).symm)))
def fX3_valueOf (G : Nat → Nat → Int32) (V : Nat → Int32) (r9 : Int32 × Int32 × Int32) (f : Int32) (row : Int32) : Int32 := if G 6 (ix f) = 0 then (G 24 (ix (row + (G 7 (ix f))))) else (if G 6 (ix f) = 1 then (G 7 (ix f)) else r9.1)
def fX3_valueOf_V (G : Nat → Nat → Int32) (V : Nat → Int32) (r9 : Int32 × Int32 × Int32) (f : Int32) (row : Int32) : Nat → Int32 := if G 6 (ix f) = 0 then (upd V 6 ((V 6) + 1)) else (if G 6 (ix f) = 1 then (upd V 6 ((V 6) + 1)) else (VE (upd V 6 ((V 6) + 1)) r9.2))
set_option maxRecDepth 100000 in
set_option maxHeartbeats 800000 in
theorem c_X3_valueOf {l : Launch} {k : Kt} {ad : Nat → Nat} {G : Nat → Nat → Int32} {V : Nat → Int32} {n : Nat} (r9 : Int32 × Int32 × Int32) {d : Nat} (f : Int32) (row : Int32) (hf : vp_in f 40) (hc : G 6 (ix f) = 0 → vp_in (row + G 7 (ix f)) n) (hP : ¬ G 6 (ix f) = 0 → ¬ G 6 (ix f) = 1 → CT l k yX3_valueOfParts cX3_valueOfParts 7 (some .int) (2 * d + 3) [.ref (ad 23), .int (G 6 (ix f)), .int (G 7 (ix f)), .int (G 8 (ix f)), .int row] (WC k ad G (upd V 6 ((V 6) + 1)) n) (eqI r9.1 (WC k ad G (VE (upd V 6 ((V 6) + 1)) r9.2) n)) 0 0) : CT l k yX3_valueOf cX3_valueOf 4 (some .int) (2 * d + 4) [.ref (ad 23), .int f, .int row] (WC k ad G V n) (eqI (fX3_valueOf G V r9 f row) (WC k ad G (fX3_valueOf_V G V r9 f row) n)) 0 0 := by
  refine ct_of (own := RX3) (lv0 := [(0, .ref (ad 23)), (1, .int f), (2, .int row)]) (by decide) rfl (Nat.le_of_ble_eq_true rfl) rfl ?_
  rintro z rfl rfl hz - E T
  refine r_aload_n E (q := 1) 0 dX3_valueOf_0 rfl rfl rfl ?_
  refine r_dup E (q := 2) dX3_valueOf_1 rfl rfl ?_
  refine r_get E (q := 5) fX3_45 23 wc_23 rfl dX3_valueOf_2 rfl ?_
  refine r_iconst E (q := 6) (v := 1) dX3_valueOf_5 (by decide) rfl ?_
  refine r_iadd E (q := 7) dX3_valueOf_6 rfl ?_
  refine r_put E (q := 10) pX3_45 rfl 23 wc_23 rfl rfl (Nat.le_of_ble_eq_true rfl) wcv_6 dX3_valueOf_7 rfl ?_
  refine r_aload_n E (q := 11) 0 dX3_valueOf_10 rfl rfl rfl ?_
  refine r_get E (q := 14) fX3_31 23 wc_23 rfl dX3_valueOf_11 rfl ?_
  refine r_get E (q := 17) fX3_165 5 wc_5 rfl dX3_valueOf_14 rfl ?_
  refine r_iload_n E (q := 18) 1 dX3_valueOf_17 rfl rfl rfl ?_
  refine r_iald E (q := 19) 7 wc_7 (by first | assumption | exact hc (by assumption)) dX3_valueOf_18 rfl ?_
  refine r_istore_n E (q := 20) (lv' := [(0, .ref (ad 23)), (1, .int f), (2, .int row), (3, .int (G 7 (ix f)))]) [1, 2, 3, 0] dX3_valueOf_19 rfl (by rw [hz]; decide) rfl rfl ?_
  refine r_aload_n E (q := 21) 0 dX3_valueOf_20 rfl rfl rfl ?_
  refine r_get E (q := 24) fX3_31 23 wc_23 rfl dX3_valueOf_21 rfl ?_
  refine r_get E (q := 27) fX3_170 5 wc_5 rfl dX3_valueOf_24 rfl ?_
  refine r_iload_n E (q := 28) 1 dX3_valueOf_27 rfl rfl rfl ?_
  refine r_iald E (q := 29) 6 wc_6 (by first | assumption | exact hc (by assumption)) dX3_valueOf_28 rfl ?_
  by_cases c1 : G 6 (ix f) = 0
  · refine r_look E 56 dX3_valueOf_29 (by decide) (by rw [c1]) (by decide) ?_
    refine r_aload_n E (q := 57) 0 dX3_valueOf_56 rfl rfl rfl ?_
    refine r_get E (q := 60) fX3_13 23 wc_23 rfl dX3_valueOf_57 rfl ?_
    refine r_iload_n E (q := 61) 2 dX3_valueOf_60 rfl rfl rfl ?_
    refine r_iload_n E (q := 62) 3 dX3_valueOf_61 rfl rfl rfl ?_
    refine r_iadd E (q := 63) dX3_valueOf_62 rfl ?_
    refine r_iald E (q := 64) 24 wc_24 (by first | assumption | exact hc (by assumption)) dX3_valueOf_63 rfl ?_
    exact r_iret E T dX3_valueOf_64 (eqI.mk (by unfold fX3_valueOf; exact (if_pos c1).symm) (cgC rfl (by unfold fX3_valueOf_V; exact (if_pos c1).symm)))
  · by_cases c2 : G 6 (ix f) = 1
    · refine r_look E 65 dX3_valueOf_29 (by decide) (by rw [c2]) (by decide) ?_
      refine r_iload_n E (q := 66) 3 dX3_valueOf_65 rfl rfl rfl ?_
      exact r_iret E T dX3_valueOf_66 (eqI.mk (by unfold fX3_valueOf; exact ((if_neg c1).trans (if_pos c2)).symm) (cgC rfl (by unfold fX3_valueOf_V; exact ((if_neg c1).trans (if_pos c2)).symm)))
    · refine r_look E (off := 38) 67 dX3_valueOf_29 (by decide) ((lv_osw (k := 0) c1 rfl).trans ((lv_osw (k := 1) c2 rfl).trans rfl)) (by decide) ?_
      refine r_aload_n E (q := 68) 0 dX3_valueOf_67 rfl rfl rfl ?_
      refine r_aload_n E (q := 69) 0 dX3_valueOf_68 rfl rfl rfl ?_
      refine r_get E (q := 72) fX3_31 23 wc_23 rfl dX3_valueOf_69 rfl ?_
      refine r_get E (q := 75) fX3_170 5 wc_5 rfl dX3_valueOf_72 rfl ?_
      refine r_iload_n E (q := 76) 1 dX3_valueOf_75 rfl rfl rfl ?_
      refine r_iald E (q := 77) 6 wc_6 (by first | assumption | exact hc (by assumption)) dX3_valueOf_76 rfl ?_
      refine r_iload_n E (q := 78) 3 dX3_valueOf_77 rfl rfl rfl ?_
      refine r_aload_n E (q := 79) 0 dX3_valueOf_78 rfl rfl rfl ?_
      refine r_get E (q := 82) fX3_31 23 wc_23 rfl dX3_valueOf_79 rfl ?_
      refine r_get E (q := 85) fX3_171 5 wc_5 rfl dX3_valueOf_82 rfl ?_
      refine r_iload_n E (q := 86) 1 dX3_valueOf_85 rfl rfl rfl ?_
      refine r_iald E (q := 87) 8 wc_8 (by first | assumption | exact hc (by assumption)) dX3_valueOf_86 rfl ?_
      refine r_iload_n E (q := 88) 2 dX3_valueOf_87 rfl rfl rfl ?_
      refine rVi E (q := 91) cvX3_174 T.rr 23 wc_23 rfl [.int (G 6 (ix f)), .int (G 7 (ix f)), .int (G 8 (ix f)), .int row] (hP (by assumption) (by assumption)) (by omega) rfl rfl (Nat.le_of_ble_eq_true rfl) ⟨(Nat.le_of_ble_eq_true rfl), (Nat.le_of_ble_eq_true rfl)⟩ dX3_valueOf_88 rfl ?_
      exact r_iret E T dX3_valueOf_91 (eqI.mk (by unfold fX3_valueOf; exact ((if_neg c1).trans (if_neg c2)).symm) (cgC rfl (by unfold fX3_valueOf_V; exact ((if_neg c1).trans (if_neg c2)).symm)))
