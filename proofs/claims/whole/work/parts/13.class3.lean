def fX2_leastRule (G : Nat → Nat → Int32) (x : Int32) : Int32 := if fX2_suits G x 0 = 0 then (if fX2_suits G x 1 = 0 then (if fX2_suits G x 2 = 0 then (if fX2_suits G x 3 = 0 then (if fX2_suits G x 4 = 0 then (if fX2_suits G x 5 = 0 then (if fX2_suits G x 6 = 0 then (if fX2_suits G x 7 = 0 then (if fX2_suits G x 8 = 0 then (if fX2_suits G x 9 = 0 then (if fX2_suits G x 10 = 0 then (if fX2_suits G x 11 = 0 then (if fX2_suits G x 12 = 0 then (if fX2_suits G x 13 = 0 then (if fX2_suits G x 14 = 0 then (if fX2_suits G x 15 = 0 then (if fX2_suits G x 16 = 0 then (if fX2_suits G x 17 = 0 then (-1) else 17) else 16) else 15) else 14) else 13) else 12) else 11) else 10) else 9) else 8) else 7) else 6) else 5) else 4) else 3) else 2) else 1) else 0
set_option maxRecDepth 100000 in
set_option maxHeartbeats 800000 in
theorem c_X2_leastRule {l : Launch} {k : Kt} {ad : Nat → Nat} {G : Nat → Nat → Int32} {V : Nat → Int32} {n : Nat} (x : Int32) (hx : vp_in x 60) (hl : ∀ rule : Int32, vp_in rule 18 → G 13 (ix x) = uT (ix rule) → vp_in (G 14 (ix x)) 60) (hF : ∀ rule : Int32, vp_in rule 18 → G 13 (ix x) = uT (ix rule) → G 13 (ix (G 14 (ix x))) = lT (ix rule) → uT (ix rule) = 1 → vp_in (G 17 (ix x)) 40 ∧ (rule = 0 → vp_in (G 17 (ix (G 14 (ix x)))) 40) ∧ (rule = 4 → vp_in (G 15 (ix (G 14 (ix x)))) 60) ∧ (rule = 7 → vp_in (G 17 (ix (G 14 (ix x)))) 40)) (hO : ∀ rule : Int32, vp_in rule 18 → G 13 (ix x) = uT (ix rule) → G 13 (ix (G 14 (ix x))) = lT (ix rule) → ¬ uT (ix rule) = 1 → (rule = 8 → vp_in (G 17 (ix x)) 40 ∧ vp_in (G 17 (ix (G 14 (ix x)))) 40) ∧ (rule = 10 ∨ rule = 17 → vp_in (G 17 (ix (G 14 (ix x)))) 40) ∧ (rule = 12 ∨ rule = 16 → vp_in (G 14 (ix (G 14 (ix x)))) 60 ∧ vp_in (G 15 (ix (G 14 (ix x)))) 60)) : CT l k yX2_leastRule cX2_leastRule 3 (some .int) 3 [.ref (ad 27), .int x] (WC k ad G V n) (eqI (fX2_leastRule G x) (WC k ad G V n)) 0 0 := by
  refine ct_of (own := RX2) (lv0 := [(0, .ref (ad 27)), (1, .int x)]) (by decide) rfl (Nat.le_of_ble_eq_true rfl) rfl ?_
  rintro z rfl rfl hz - E T
  refine r_iconst E (q := 1) (v := 0) dX2_leastRule_0 (by decide) rfl ?_
  refine r_istore_n E (q := 2) (lv' := [(0, .ref (ad 27)), (1, .int x), (2, .int 0)]) [1, 2, 0] dX2_leastRule_1 rfl (by rw [hz]; decide) rfl rfl ?_
  refine r_iload_n E (q := 3) 2 dX2_leastRule_2 rfl rfl rfl ?_
  refine r_bipush E (q := 5) (v := 18) dX2_leastRule_3 (by decide) rfl ?_
  refine r_icmp_ge E (q := 8) 25 dX2_leastRule_5 (by decide) rfl (fun c1 => absurd c1 (by decide)) (fun _ => ?_)
  refine r_aload_n E (q := 9) 0 dX2_leastRule_8 rfl rfl rfl ?_
  refine r_iload_n E (q := 10) 1 dX2_leastRule_9 rfl rfl rfl ?_
  refine r_iload_n E (q := 11) 2 dX2_leastRule_10 rfl rfl rfl ?_
  refine rVi E (q := 14) cvX2_127 T.rr 27 wc_27 rfl [.int x, .int 0] (c_X2_suits x 0 hx (by unfold vp_in; decide) (hl _ (by unfold vp_in; decide)) (hF _ (by unfold vp_in; decide)) (hO _ (by unfold vp_in; decide))) (by decide) rfl rfl (Nat.le_of_ble_eq_true rfl) ⟨(Nat.le_of_ble_eq_true rfl), (Nat.le_of_ble_eq_true rfl)⟩ dX2_leastRule_11 rfl ?_
  refine r_if_eq E (q := 17) 19 dX2_leastRule_14 (by decide) rfl (fun c2 => ?_) (fun c2 => ?_)
  · refine r_iinc E (q := 22) (v := 1) (lv' := [(0, .ref (ad 27)), (1, .int x), (2, .int 1)]) 2 [1, 2, 0] dX2_leastRule_19 rfl (by rfl) (by rw [hz]; decide) rfl rfl ?_
    refine r_goto E 2 dX2_leastRule_22 (by decide) ?_
    refine r_iload_n E (q := 3) 2 dX2_leastRule_2 rfl rfl rfl ?_
    refine r_bipush E (q := 5) (v := 18) dX2_leastRule_3 (by decide) rfl ?_
    refine r_icmp_ge E (q := 8) 25 dX2_leastRule_5 (by decide) rfl (fun c3 => absurd c3 (by decide)) (fun _ => ?_)
    refine r_aload_n E (q := 9) 0 dX2_leastRule_8 rfl rfl rfl ?_
    refine r_iload_n E (q := 10) 1 dX2_leastRule_9 rfl rfl rfl ?_
    refine r_iload_n E (q := 11) 2 dX2_leastRule_10 rfl rfl rfl ?_
    refine rVi E (q := 14) cvX2_127 T.rr 27 wc_27 rfl [.int x, .int 1] (c_X2_suits x 1 hx (by unfold vp_in; decide) (hl _ (by unfold vp_in; decide)) (hF _ (by unfold vp_in; decide)) (hO _ (by unfold vp_in; decide))) (by decide) rfl rfl (Nat.le_of_ble_eq_true rfl) ⟨(Nat.le_of_ble_eq_true rfl), (Nat.le_of_ble_eq_true rfl)⟩ dX2_leastRule_11 rfl ?_
    refine r_if_eq E (q := 17) 19 dX2_leastRule_14 (by decide) rfl (fun c4 => ?_) (fun c4 => ?_)
    · refine r_iinc E (q := 22) (v := 2) (lv' := [(0, .ref (ad 27)), (1, .int x), (2, .int 2)]) 2 [1, 2, 0] dX2_leastRule_19 rfl (by rfl) (by rw [hz]; decide) rfl rfl ?_
      refine r_goto E 2 dX2_leastRule_22 (by decide) ?_
      refine r_iload_n E (q := 3) 2 dX2_leastRule_2 rfl rfl rfl ?_
      refine r_bipush E (q := 5) (v := 18) dX2_leastRule_3 (by decide) rfl ?_
      refine r_icmp_ge E (q := 8) 25 dX2_leastRule_5 (by decide) rfl (fun c5 => absurd c5 (by decide)) (fun _ => ?_)
      refine r_aload_n E (q := 9) 0 dX2_leastRule_8 rfl rfl rfl ?_
      refine r_iload_n E (q := 10) 1 dX2_leastRule_9 rfl rfl rfl ?_
      refine r_iload_n E (q := 11) 2 dX2_leastRule_10 rfl rfl rfl ?_
      refine rVi E (q := 14) cvX2_127 T.rr 27 wc_27 rfl [.int x, .int 2] (c_X2_suits x 2 hx (by unfold vp_in; decide) (hl _ (by unfold vp_in; decide)) (hF _ (by unfold vp_in; decide)) (hO _ (by unfold vp_in; decide))) (by decide) rfl rfl (Nat.le_of_ble_eq_true rfl) ⟨(Nat.le_of_ble_eq_true rfl), (Nat.le_of_ble_eq_true rfl)⟩ dX2_leastRule_11 rfl ?_
      refine r_if_eq E (q := 17) 19 dX2_leastRule_14 (by decide) rfl (fun c6 => ?_) (fun c6 => ?_)
      · refine r_iinc E (q := 22) (v := 3) (lv' := [(0, .ref (ad 27)), (1, .int x), (2, .int 3)]) 2 [1, 2, 0] dX2_leastRule_19 rfl (by rfl) (by rw [hz]; decide) rfl rfl ?_
        refine r_goto E 2 dX2_leastRule_22 (by decide) ?_
        refine r_iload_n E (q := 3) 2 dX2_leastRule_2 rfl rfl rfl ?_
        refine r_bipush E (q := 5) (v := 18) dX2_leastRule_3 (by decide) rfl ?_
        refine r_icmp_ge E (q := 8) 25 dX2_leastRule_5 (by decide) rfl (fun c7 => absurd c7 (by decide)) (fun _ => ?_)
        refine r_aload_n E (q := 9) 0 dX2_leastRule_8 rfl rfl rfl ?_
        refine r_iload_n E (q := 10) 1 dX2_leastRule_9 rfl rfl rfl ?_
        refine r_iload_n E (q := 11) 2 dX2_leastRule_10 rfl rfl rfl ?_
        refine rVi E (q := 14) cvX2_127 T.rr 27 wc_27 rfl [.int x, .int 3] (c_X2_suits x 3 hx (by unfold vp_in; decide) (hl _ (by unfold vp_in; decide)) (hF _ (by unfold vp_in; decide)) (hO _ (by unfold vp_in; decide))) (by decide) rfl rfl (Nat.le_of_ble_eq_true rfl) ⟨(Nat.le_of_ble_eq_true rfl), (Nat.le_of_ble_eq_true rfl)⟩ dX2_leastRule_11 rfl ?_
        refine r_if_eq E (q := 17) 19 dX2_leastRule_14 (by decide) rfl (fun c8 => ?_) (fun c8 => ?_)
        · refine r_iinc E (q := 22) (v := 4) (lv' := [(0, .ref (ad 27)), (1, .int x), (2, .int 4)]) 2 [1, 2, 0] dX2_leastRule_19 rfl (by rfl) (by rw [hz]; decide) rfl rfl ?_
          refine r_goto E 2 dX2_leastRule_22 (by decide) ?_
          refine r_iload_n E (q := 3) 2 dX2_leastRule_2 rfl rfl rfl ?_
          refine r_bipush E (q := 5) (v := 18) dX2_leastRule_3 (by decide) rfl ?_
          refine r_icmp_ge E (q := 8) 25 dX2_leastRule_5 (by decide) rfl (fun c9 => absurd c9 (by decide)) (fun _ => ?_)
          refine r_aload_n E (q := 9) 0 dX2_leastRule_8 rfl rfl rfl ?_
          refine r_iload_n E (q := 10) 1 dX2_leastRule_9 rfl rfl rfl ?_
          refine r_iload_n E (q := 11) 2 dX2_leastRule_10 rfl rfl rfl ?_
          refine rVi E (q := 14) cvX2_127 T.rr 27 wc_27 rfl [.int x, .int 4] (c_X2_suits x 4 hx (by unfold vp_in; decide) (hl _ (by unfold vp_in; decide)) (hF _ (by unfold vp_in; decide)) (hO _ (by unfold vp_in; decide))) (by decide) rfl rfl (Nat.le_of_ble_eq_true rfl) ⟨(Nat.le_of_ble_eq_true rfl), (Nat.le_of_ble_eq_true rfl)⟩ dX2_leastRule_11 rfl ?_
          refine r_if_eq E (q := 17) 19 dX2_leastRule_14 (by decide) rfl (fun c10 => ?_) (fun c10 => ?_)
          · refine r_iinc E (q := 22) (v := 5) (lv' := [(0, .ref (ad 27)), (1, .int x), (2, .int 5)]) 2 [1, 2, 0] dX2_leastRule_19 rfl (by rfl) (by rw [hz]; decide) rfl rfl ?_
            refine r_goto E 2 dX2_leastRule_22 (by decide) ?_
            refine r_iload_n E (q := 3) 2 dX2_leastRule_2 rfl rfl rfl ?_
            refine r_bipush E (q := 5) (v := 18) dX2_leastRule_3 (by decide) rfl ?_
            refine r_icmp_ge E (q := 8) 25 dX2_leastRule_5 (by decide) rfl (fun c11 => absurd c11 (by decide)) (fun _ => ?_)
            refine r_aload_n E (q := 9) 0 dX2_leastRule_8 rfl rfl rfl ?_
            refine r_iload_n E (q := 10) 1 dX2_leastRule_9 rfl rfl rfl ?_
            refine r_iload_n E (q := 11) 2 dX2_leastRule_10 rfl rfl rfl ?_
            refine rVi E (q := 14) cvX2_127 T.rr 27 wc_27 rfl [.int x, .int 5] (c_X2_suits x 5 hx (by unfold vp_in; decide) (hl _ (by unfold vp_in; decide)) (hF _ (by unfold vp_in; decide)) (hO _ (by unfold vp_in; decide))) (by decide) rfl rfl (Nat.le_of_ble_eq_true rfl) ⟨(Nat.le_of_ble_eq_true rfl), (Nat.le_of_ble_eq_true rfl)⟩ dX2_leastRule_11 rfl ?_
            refine r_if_eq E (q := 17) 19 dX2_leastRule_14 (by decide) rfl (fun c12 => ?_) (fun c12 => ?_)
            · refine r_iinc E (q := 22) (v := 6) (lv' := [(0, .ref (ad 27)), (1, .int x), (2, .int 6)]) 2 [1, 2, 0] dX2_leastRule_19 rfl (by rfl) (by rw [hz]; decide) rfl rfl ?_
              refine r_goto E 2 dX2_leastRule_22 (by decide) ?_
              refine r_iload_n E (q := 3) 2 dX2_leastRule_2 rfl rfl rfl ?_
              refine r_bipush E (q := 5) (v := 18) dX2_leastRule_3 (by decide) rfl ?_
              refine r_icmp_ge E (q := 8) 25 dX2_leastRule_5 (by decide) rfl (fun c13 => absurd c13 (by decide)) (fun _ => ?_)
              refine r_aload_n E (q := 9) 0 dX2_leastRule_8 rfl rfl rfl ?_
              refine r_iload_n E (q := 10) 1 dX2_leastRule_9 rfl rfl rfl ?_
              refine r_iload_n E (q := 11) 2 dX2_leastRule_10 rfl rfl rfl ?_
              refine rVi E (q := 14) cvX2_127 T.rr 27 wc_27 rfl [.int x, .int 6] (c_X2_suits x 6 hx (by unfold vp_in; decide) (hl _ (by unfold vp_in; decide)) (hF _ (by unfold vp_in; decide)) (hO _ (by unfold vp_in; decide))) (by decide) rfl rfl (Nat.le_of_ble_eq_true rfl) ⟨(Nat.le_of_ble_eq_true rfl), (Nat.le_of_ble_eq_true rfl)⟩ dX2_leastRule_11 rfl ?_
              refine r_if_eq E (q := 17) 19 dX2_leastRule_14 (by decide) rfl (fun c14 => ?_) (fun c14 => ?_)
              · refine r_iinc E (q := 22) (v := 7) (lv' := [(0, .ref (ad 27)), (1, .int x), (2, .int 7)]) 2 [1, 2, 0] dX2_leastRule_19 rfl (by rfl) (by rw [hz]; decide) rfl rfl ?_
                refine r_goto E 2 dX2_leastRule_22 (by decide) ?_
                refine r_iload_n E (q := 3) 2 dX2_leastRule_2 rfl rfl rfl ?_
                refine r_bipush E (q := 5) (v := 18) dX2_leastRule_3 (by decide) rfl ?_
                refine r_icmp_ge E (q := 8) 25 dX2_leastRule_5 (by decide) rfl (fun c15 => absurd c15 (by decide)) (fun _ => ?_)
                refine r_aload_n E (q := 9) 0 dX2_leastRule_8 rfl rfl rfl ?_
                refine r_iload_n E (q := 10) 1 dX2_leastRule_9 rfl rfl rfl ?_
                refine r_iload_n E (q := 11) 2 dX2_leastRule_10 rfl rfl rfl ?_
                refine rVi E (q := 14) cvX2_127 T.rr 27 wc_27 rfl [.int x, .int 7] (c_X2_suits x 7 hx (by unfold vp_in; decide) (hl _ (by unfold vp_in; decide)) (hF _ (by unfold vp_in; decide)) (hO _ (by unfold vp_in; decide))) (by decide) rfl rfl (Nat.le_of_ble_eq_true rfl) ⟨(Nat.le_of_ble_eq_true rfl), (Nat.le_of_ble_eq_true rfl)⟩ dX2_leastRule_11 rfl ?_
                refine r_if_eq E (q := 17) 19 dX2_leastRule_14 (by decide) rfl (fun c16 => ?_) (fun c16 => ?_)
                · refine r_iinc E (q := 22) (v := 8) (lv' := [(0, .ref (ad 27)), (1, .int x), (2, .int 8)]) 2 [1, 2, 0] dX2_leastRule_19 rfl (by rfl) (by rw [hz]; decide) rfl rfl ?_
                  refine r_goto E 2 dX2_leastRule_22 (by decide) ?_
                  refine r_iload_n E (q := 3) 2 dX2_leastRule_2 rfl rfl rfl ?_
                  refine r_bipush E (q := 5) (v := 18) dX2_leastRule_3 (by decide) rfl ?_
                  refine r_icmp_ge E (q := 8) 25 dX2_leastRule_5 (by decide) rfl (fun c17 => absurd c17 (by decide)) (fun _ => ?_)
                  refine r_aload_n E (q := 9) 0 dX2_leastRule_8 rfl rfl rfl ?_
                  refine r_iload_n E (q := 10) 1 dX2_leastRule_9 rfl rfl rfl ?_
                  refine r_iload_n E (q := 11) 2 dX2_leastRule_10 rfl rfl rfl ?_
                  refine rVi E (q := 14) cvX2_127 T.rr 27 wc_27 rfl [.int x, .int 8] (c_X2_suits x 8 hx (by unfold vp_in; decide) (hl _ (by unfold vp_in; decide)) (hF _ (by unfold vp_in; decide)) (hO _ (by unfold vp_in; decide))) (by decide) rfl rfl (Nat.le_of_ble_eq_true rfl) ⟨(Nat.le_of_ble_eq_true rfl), (Nat.le_of_ble_eq_true rfl)⟩ dX2_leastRule_11 rfl ?_
                  refine r_if_eq E (q := 17) 19 dX2_leastRule_14 (by decide) rfl (fun c18 => ?_) (fun c18 => ?_)
                  · refine r_iinc E (q := 22) (v := 9) (lv' := [(0, .ref (ad 27)), (1, .int x), (2, .int 9)]) 2 [1, 2, 0] dX2_leastRule_19 rfl (by rfl) (by rw [hz]; decide) rfl rfl ?_
                    refine r_goto E 2 dX2_leastRule_22 (by decide) ?_
                    refine r_iload_n E (q := 3) 2 dX2_leastRule_2 rfl rfl rfl ?_
                    refine r_bipush E (q := 5) (v := 18) dX2_leastRule_3 (by decide) rfl ?_
                    refine r_icmp_ge E (q := 8) 25 dX2_leastRule_5 (by decide) rfl (fun c19 => absurd c19 (by decide)) (fun _ => ?_)
                    refine r_aload_n E (q := 9) 0 dX2_leastRule_8 rfl rfl rfl ?_
                    refine r_iload_n E (q := 10) 1 dX2_leastRule_9 rfl rfl rfl ?_
                    refine r_iload_n E (q := 11) 2 dX2_leastRule_10 rfl rfl rfl ?_
                    refine rVi E (q := 14) cvX2_127 T.rr 27 wc_27 rfl [.int x, .int 9] (c_X2_suits x 9 hx (by unfold vp_in; decide) (hl _ (by unfold vp_in; decide)) (hF _ (by unfold vp_in; decide)) (hO _ (by unfold vp_in; decide))) (by decide) rfl rfl (Nat.le_of_ble_eq_true rfl) ⟨(Nat.le_of_ble_eq_true rfl), (Nat.le_of_ble_eq_true rfl)⟩ dX2_leastRule_11 rfl ?_
                    refine r_if_eq E (q := 17) 19 dX2_leastRule_14 (by decide) rfl (fun c20 => ?_) (fun c20 => ?_)
                    · refine r_iinc E (q := 22) (v := 10) (lv' := [(0, .ref (ad 27)), (1, .int x), (2, .int 10)]) 2 [1, 2, 0] dX2_leastRule_19 rfl (by rfl) (by rw [hz]; decide) rfl rfl ?_
                      refine r_goto E 2 dX2_leastRule_22 (by decide) ?_
                      refine r_iload_n E (q := 3) 2 dX2_leastRule_2 rfl rfl rfl ?_
                      refine r_bipush E (q := 5) (v := 18) dX2_leastRule_3 (by decide) rfl ?_
                      refine r_icmp_ge E (q := 8) 25 dX2_leastRule_5 (by decide) rfl (fun c21 => absurd c21 (by decide)) (fun _ => ?_)
                      refine r_aload_n E (q := 9) 0 dX2_leastRule_8 rfl rfl rfl ?_
                      refine r_iload_n E (q := 10) 1 dX2_leastRule_9 rfl rfl rfl ?_
                      refine r_iload_n E (q := 11) 2 dX2_leastRule_10 rfl rfl rfl ?_
                      refine rVi E (q := 14) cvX2_127 T.rr 27 wc_27 rfl [.int x, .int 10] (c_X2_suits x 10 hx (by unfold vp_in; decide) (hl _ (by unfold vp_in; decide)) (hF _ (by unfold vp_in; decide)) (hO _ (by unfold vp_in; decide))) (by decide) rfl rfl (Nat.le_of_ble_eq_true rfl) ⟨(Nat.le_of_ble_eq_true rfl), (Nat.le_of_ble_eq_true rfl)⟩ dX2_leastRule_11 rfl ?_
                      refine r_if_eq E (q := 17) 19 dX2_leastRule_14 (by decide) rfl (fun c22 => ?_) (fun c22 => ?_)
                      · refine r_iinc E (q := 22) (v := 11) (lv' := [(0, .ref (ad 27)), (1, .int x), (2, .int 11)]) 2 [1, 2, 0] dX2_leastRule_19 rfl (by rfl) (by rw [hz]; decide) rfl rfl ?_
                        refine r_goto E 2 dX2_leastRule_22 (by decide) ?_
                        refine r_iload_n E (q := 3) 2 dX2_leastRule_2 rfl rfl rfl ?_
                        refine r_bipush E (q := 5) (v := 18) dX2_leastRule_3 (by decide) rfl ?_
                        refine r_icmp_ge E (q := 8) 25 dX2_leastRule_5 (by decide) rfl (fun c23 => absurd c23 (by decide)) (fun _ => ?_)
                        refine r_aload_n E (q := 9) 0 dX2_leastRule_8 rfl rfl rfl ?_
                        refine r_iload_n E (q := 10) 1 dX2_leastRule_9 rfl rfl rfl ?_
                        refine r_iload_n E (q := 11) 2 dX2_leastRule_10 rfl rfl rfl ?_
                        refine rVi E (q := 14) cvX2_127 T.rr 27 wc_27 rfl [.int x, .int 11] (c_X2_suits x 11 hx (by unfold vp_in; decide) (hl _ (by unfold vp_in; decide)) (hF _ (by unfold vp_in; decide)) (hO _ (by unfold vp_in; decide))) (by decide) rfl rfl (Nat.le_of_ble_eq_true rfl) ⟨(Nat.le_of_ble_eq_true rfl), (Nat.le_of_ble_eq_true rfl)⟩ dX2_leastRule_11 rfl ?_
                        refine r_if_eq E (q := 17) 19 dX2_leastRule_14 (by decide) rfl (fun c24 => ?_) (fun c24 => ?_)
                        · refine r_iinc E (q := 22) (v := 12) (lv' := [(0, .ref (ad 27)), (1, .int x), (2, .int 12)]) 2 [1, 2, 0] dX2_leastRule_19 rfl (by rfl) (by rw [hz]; decide) rfl rfl ?_
                          refine r_goto E 2 dX2_leastRule_22 (by decide) ?_
                          refine r_iload_n E (q := 3) 2 dX2_leastRule_2 rfl rfl rfl ?_
                          refine r_bipush E (q := 5) (v := 18) dX2_leastRule_3 (by decide) rfl ?_
                          refine r_icmp_ge E (q := 8) 25 dX2_leastRule_5 (by decide) rfl (fun c25 => absurd c25 (by decide)) (fun _ => ?_)
                          refine r_aload_n E (q := 9) 0 dX2_leastRule_8 rfl rfl rfl ?_
                          refine r_iload_n E (q := 10) 1 dX2_leastRule_9 rfl rfl rfl ?_
                          refine r_iload_n E (q := 11) 2 dX2_leastRule_10 rfl rfl rfl ?_
                          refine rVi E (q := 14) cvX2_127 T.rr 27 wc_27 rfl [.int x, .int 12] (c_X2_suits x 12 hx (by unfold vp_in; decide) (hl _ (by unfold vp_in; decide)) (hF _ (by unfold vp_in; decide)) (hO _ (by unfold vp_in; decide))) (by decide) rfl rfl (Nat.le_of_ble_eq_true rfl) ⟨(Nat.le_of_ble_eq_true rfl), (Nat.le_of_ble_eq_true rfl)⟩ dX2_leastRule_11 rfl ?_
                          refine r_if_eq E (q := 17) 19 dX2_leastRule_14 (by decide) rfl (fun c26 => ?_) (fun c26 => ?_)
                          · refine r_iinc E (q := 22) (v := 13) (lv' := [(0, .ref (ad 27)), (1, .int x), (2, .int 13)]) 2 [1, 2, 0] dX2_leastRule_19 rfl (by rfl) (by rw [hz]; decide) rfl rfl ?_
                            refine r_goto E 2 dX2_leastRule_22 (by decide) ?_
                            refine r_iload_n E (q := 3) 2 dX2_leastRule_2 rfl rfl rfl ?_
                            refine r_bipush E (q := 5) (v := 18) dX2_leastRule_3 (by decide) rfl ?_
                            refine r_icmp_ge E (q := 8) 25 dX2_leastRule_5 (by decide) rfl (fun c27 => absurd c27 (by decide)) (fun _ => ?_)
                            refine r_aload_n E (q := 9) 0 dX2_leastRule_8 rfl rfl rfl ?_
                            refine r_iload_n E (q := 10) 1 dX2_leastRule_9 rfl rfl rfl ?_
                            refine r_iload_n E (q := 11) 2 dX2_leastRule_10 rfl rfl rfl ?_
                            refine rVi E (q := 14) cvX2_127 T.rr 27 wc_27 rfl [.int x, .int 13] (c_X2_suits x 13 hx (by unfold vp_in; decide) (hl _ (by unfold vp_in; decide)) (hF _ (by unfold vp_in; decide)) (hO _ (by unfold vp_in; decide))) (by decide) rfl rfl (Nat.le_of_ble_eq_true rfl) ⟨(Nat.le_of_ble_eq_true rfl), (Nat.le_of_ble_eq_true rfl)⟩ dX2_leastRule_11 rfl ?_
                            refine r_if_eq E (q := 17) 19 dX2_leastRule_14 (by decide) rfl (fun c28 => ?_) (fun c28 => ?_)
                            · refine r_iinc E (q := 22) (v := 14) (lv' := [(0, .ref (ad 27)), (1, .int x), (2, .int 14)]) 2 [1, 2, 0] dX2_leastRule_19 rfl (by rfl) (by rw [hz]; decide) rfl rfl ?_
                              refine r_goto E 2 dX2_leastRule_22 (by decide) ?_
                              refine r_iload_n E (q := 3) 2 dX2_leastRule_2 rfl rfl rfl ?_
                              refine r_bipush E (q := 5) (v := 18) dX2_leastRule_3 (by decide) rfl ?_
                              refine r_icmp_ge E (q := 8) 25 dX2_leastRule_5 (by decide) rfl (fun c29 => absurd c29 (by decide)) (fun _ => ?_)
                              refine r_aload_n E (q := 9) 0 dX2_leastRule_8 rfl rfl rfl ?_
                              refine r_iload_n E (q := 10) 1 dX2_leastRule_9 rfl rfl rfl ?_
                              refine r_iload_n E (q := 11) 2 dX2_leastRule_10 rfl rfl rfl ?_
                              refine rVi E (q := 14) cvX2_127 T.rr 27 wc_27 rfl [.int x, .int 14] (c_X2_suits x 14 hx (by unfold vp_in; decide) (hl _ (by unfold vp_in; decide)) (hF _ (by unfold vp_in; decide)) (hO _ (by unfold vp_in; decide))) (by decide) rfl rfl (Nat.le_of_ble_eq_true rfl) ⟨(Nat.le_of_ble_eq_true rfl), (Nat.le_of_ble_eq_true rfl)⟩ dX2_leastRule_11 rfl ?_
                              refine r_if_eq E (q := 17) 19 dX2_leastRule_14 (by decide) rfl (fun c30 => ?_) (fun c30 => ?_)
                              · refine r_iinc E (q := 22) (v := 15) (lv' := [(0, .ref (ad 27)), (1, .int x), (2, .int 15)]) 2 [1, 2, 0] dX2_leastRule_19 rfl (by rfl) (by rw [hz]; decide) rfl rfl ?_
                                refine r_goto E 2 dX2_leastRule_22 (by decide) ?_
                                refine r_iload_n E (q := 3) 2 dX2_leastRule_2 rfl rfl rfl ?_
                                refine r_bipush E (q := 5) (v := 18) dX2_leastRule_3 (by decide) rfl ?_
                                refine r_icmp_ge E (q := 8) 25 dX2_leastRule_5 (by decide) rfl (fun c31 => absurd c31 (by decide)) (fun _ => ?_)
                                refine r_aload_n E (q := 9) 0 dX2_leastRule_8 rfl rfl rfl ?_
                                refine r_iload_n E (q := 10) 1 dX2_leastRule_9 rfl rfl rfl ?_
                                refine r_iload_n E (q := 11) 2 dX2_leastRule_10 rfl rfl rfl ?_
                                refine rVi E (q := 14) cvX2_127 T.rr 27 wc_27 rfl [.int x, .int 15] (c_X2_suits x 15 hx (by unfold vp_in; decide) (hl _ (by unfold vp_in; decide)) (hF _ (by unfold vp_in; decide)) (hO _ (by unfold vp_in; decide))) (by decide) rfl rfl (Nat.le_of_ble_eq_true rfl) ⟨(Nat.le_of_ble_eq_true rfl), (Nat.le_of_ble_eq_true rfl)⟩ dX2_leastRule_11 rfl ?_
                                refine r_if_eq E (q := 17) 19 dX2_leastRule_14 (by decide) rfl (fun c32 => ?_) (fun c32 => ?_)
                                · refine r_iinc E (q := 22) (v := 16) (lv' := [(0, .ref (ad 27)), (1, .int x), (2, .int 16)]) 2 [1, 2, 0] dX2_leastRule_19 rfl (by rfl) (by rw [hz]; decide) rfl rfl ?_
                                  refine r_goto E 2 dX2_leastRule_22 (by decide) ?_
                                  refine r_iload_n E (q := 3) 2 dX2_leastRule_2 rfl rfl rfl ?_
                                  refine r_bipush E (q := 5) (v := 18) dX2_leastRule_3 (by decide) rfl ?_
                                  refine r_icmp_ge E (q := 8) 25 dX2_leastRule_5 (by decide) rfl (fun c33 => absurd c33 (by decide)) (fun _ => ?_)
                                  refine r_aload_n E (q := 9) 0 dX2_leastRule_8 rfl rfl rfl ?_
                                  refine r_iload_n E (q := 10) 1 dX2_leastRule_9 rfl rfl rfl ?_
                                  refine r_iload_n E (q := 11) 2 dX2_leastRule_10 rfl rfl rfl ?_
                                  refine rVi E (q := 14) cvX2_127 T.rr 27 wc_27 rfl [.int x, .int 16] (c_X2_suits x 16 hx (by unfold vp_in; decide) (hl _ (by unfold vp_in; decide)) (hF _ (by unfold vp_in; decide)) (hO _ (by unfold vp_in; decide))) (by decide) rfl rfl (Nat.le_of_ble_eq_true rfl) ⟨(Nat.le_of_ble_eq_true rfl), (Nat.le_of_ble_eq_true rfl)⟩ dX2_leastRule_11 rfl ?_
                                  refine r_if_eq E (q := 17) 19 dX2_leastRule_14 (by decide) rfl (fun c34 => ?_) (fun c34 => ?_)
                                  · refine r_iinc E (q := 22) (v := 17) (lv' := [(0, .ref (ad 27)), (1, .int x), (2, .int 17)]) 2 [1, 2, 0] dX2_leastRule_19 rfl (by rfl) (by rw [hz]; decide) rfl rfl ?_
                                    refine r_goto E 2 dX2_leastRule_22 (by decide) ?_
                                    refine r_iload_n E (q := 3) 2 dX2_leastRule_2 rfl rfl rfl ?_
                                    refine r_bipush E (q := 5) (v := 18) dX2_leastRule_3 (by decide) rfl ?_
                                    refine r_icmp_ge E (q := 8) 25 dX2_leastRule_5 (by decide) rfl (fun c35 => absurd c35 (by decide)) (fun _ => ?_)
                                    refine r_aload_n E (q := 9) 0 dX2_leastRule_8 rfl rfl rfl ?_
                                    refine r_iload_n E (q := 10) 1 dX2_leastRule_9 rfl rfl rfl ?_
                                    refine r_iload_n E (q := 11) 2 dX2_leastRule_10 rfl rfl rfl ?_
                                    refine rVi E (q := 14) cvX2_127 T.rr 27 wc_27 rfl [.int x, .int 17] (c_X2_suits x 17 hx (by unfold vp_in; decide) (hl _ (by unfold vp_in; decide)) (hF _ (by unfold vp_in; decide)) (hO _ (by unfold vp_in; decide))) (by decide) rfl rfl (Nat.le_of_ble_eq_true rfl) ⟨(Nat.le_of_ble_eq_true rfl), (Nat.le_of_ble_eq_true rfl)⟩ dX2_leastRule_11 rfl ?_
                                    refine r_if_eq E (q := 17) 19 dX2_leastRule_14 (by decide) rfl (fun c36 => ?_) (fun c36 => ?_)
                                    · refine r_iinc E (q := 22) (v := 18) (lv' := [(0, .ref (ad 27)), (1, .int x), (2, .int 18)]) 2 [1, 2, 0] dX2_leastRule_19 rfl (by rfl) (by rw [hz]; decide) rfl rfl ?_
                                      refine r_goto E 2 dX2_leastRule_22 (by decide) ?_
                                      refine r_iload_n E (q := 3) 2 dX2_leastRule_2 rfl rfl rfl ?_
                                      refine r_bipush E (q := 5) (v := 18) dX2_leastRule_3 (by decide) rfl ?_
                                      refine r_icmp_ge E (q := 8) 25 dX2_leastRule_5 (by decide) rfl (fun _ => ?_) (fun c37 => absurd c37 (by decide))
                                      refine r_iconst E (q := 26) (v := (-1)) dX2_leastRule_25 (by decide) rfl ?_
                                      exact r_iret E T dX2_leastRule_26 (eqI.mk (by unfold fX2_leastRule; exact ((if_pos c2).trans ((if_pos c4).trans ((if_pos c6).trans ((if_pos c8).trans ((if_pos c10).trans ((if_pos c12).trans ((if_pos c14).trans ((if_pos c16).trans ((if_pos c18).trans ((if_pos c20).trans ((if_pos c22).trans ((if_pos c24).trans ((if_pos c26).trans ((if_pos c28).trans ((if_pos c30).trans ((if_pos c32).trans ((if_pos c34).trans (if_pos c36)))))))))))))))))).symm) rfl)
                                    · refine r_iload_n E (q := 18) 2 dX2_leastRule_17 rfl rfl rfl ?_
                                      exact r_iret E T dX2_leastRule_18 (eqI.mk (by unfold fX2_leastRule; exact ((if_pos c2).trans ((if_pos c4).trans ((if_pos c6).trans ((if_pos c8).trans ((if_pos c10).trans ((if_pos c12).trans ((if_pos c14).trans ((if_pos c16).trans ((if_pos c18).trans ((if_pos c20).trans ((if_pos c22).trans ((if_pos c24).trans ((if_pos c26).trans ((if_pos c28).trans ((if_pos c30).trans ((if_pos c32).trans ((if_pos c34).trans (if_neg c36)))))))))))))))))).symm) rfl)
                                  · refine r_iload_n E (q := 18) 2 dX2_leastRule_17 rfl rfl rfl ?_
                                    exact r_iret E T dX2_leastRule_18 (eqI.mk (by unfold fX2_leastRule; exact ((if_pos c2).trans ((if_pos c4).trans ((if_pos c6).trans ((if_pos c8).trans ((if_pos c10).trans ((if_pos c12).trans ((if_pos c14).trans ((if_pos c16).trans ((if_pos c18).trans ((if_pos c20).trans ((if_pos c22).trans ((if_pos c24).trans ((if_pos c26).trans ((if_pos c28).trans ((if_pos c30).trans ((if_pos c32).trans (if_neg c34))))))))))))))))).symm) rfl)
                                · refine r_iload_n E (q := 18) 2 dX2_leastRule_17 rfl rfl rfl ?_
                                  exact r_iret E T dX2_leastRule_18 (eqI.mk (by unfold fX2_leastRule; exact ((if_pos c2).trans ((if_pos c4).trans ((if_pos c6).trans ((if_pos c8).trans ((if_pos c10).trans ((if_pos c12).trans ((if_pos c14).trans ((if_pos c16).trans ((if_pos c18).trans ((if_pos c20).trans ((if_pos c22).trans ((if_pos c24).trans ((if_pos c26).trans ((if_pos c28).trans ((if_pos c30).trans (if_neg c32)))))))))))))))).symm) rfl)
                              · refine r_iload_n E (q := 18) 2 dX2_leastRule_17 rfl rfl rfl ?_
                                exact r_iret E T dX2_leastRule_18 (eqI.mk (by unfold fX2_leastRule; exact ((if_pos c2).trans ((if_pos c4).trans ((if_pos c6).trans ((if_pos c8).trans ((if_pos c10).trans ((if_pos c12).trans ((if_pos c14).trans ((if_pos c16).trans ((if_pos c18).trans ((if_pos c20).trans ((if_pos c22).trans ((if_pos c24).trans ((if_pos c26).trans ((if_pos c28).trans (if_neg c30))))))))))))))).symm) rfl)
                            · refine r_iload_n E (q := 18) 2 dX2_leastRule_17 rfl rfl rfl ?_
                              exact r_iret E T dX2_leastRule_18 (eqI.mk (by unfold fX2_leastRule; exact ((if_pos c2).trans ((if_pos c4).trans ((if_pos c6).trans ((if_pos c8).trans ((if_pos c10).trans ((if_pos c12).trans ((if_pos c14).trans ((if_pos c16).trans ((if_pos c18).trans ((if_pos c20).trans ((if_pos c22).trans ((if_pos c24).trans ((if_pos c26).trans (if_neg c28)))))))))))))).symm) rfl)
                          · refine r_iload_n E (q := 18) 2 dX2_leastRule_17 rfl rfl rfl ?_
                            exact r_iret E T dX2_leastRule_18 (eqI.mk (by unfold fX2_leastRule; exact ((if_pos c2).trans ((if_pos c4).trans ((if_pos c6).trans ((if_pos c8).trans ((if_pos c10).trans ((if_pos c12).trans ((if_pos c14).trans ((if_pos c16).trans ((if_pos c18).trans ((if_pos c20).trans ((if_pos c22).trans ((if_pos c24).trans (if_neg c26))))))))))))).symm) rfl)
                        · refine r_iload_n E (q := 18) 2 dX2_leastRule_17 rfl rfl rfl ?_
                          exact r_iret E T dX2_leastRule_18 (eqI.mk (by unfold fX2_leastRule; exact ((if_pos c2).trans ((if_pos c4).trans ((if_pos c6).trans ((if_pos c8).trans ((if_pos c10).trans ((if_pos c12).trans ((if_pos c14).trans ((if_pos c16).trans ((if_pos c18).trans ((if_pos c20).trans ((if_pos c22).trans (if_neg c24)))))))))))).symm) rfl)
                      · refine r_iload_n E (q := 18) 2 dX2_leastRule_17 rfl rfl rfl ?_
                        exact r_iret E T dX2_leastRule_18 (eqI.mk (by unfold fX2_leastRule; exact ((if_pos c2).trans ((if_pos c4).trans ((if_pos c6).trans ((if_pos c8).trans ((if_pos c10).trans ((if_pos c12).trans ((if_pos c14).trans ((if_pos c16).trans ((if_pos c18).trans ((if_pos c20).trans (if_neg c22))))))))))).symm) rfl)
                    · refine r_iload_n E (q := 18) 2 dX2_leastRule_17 rfl rfl rfl ?_
                      exact r_iret E T dX2_leastRule_18 (eqI.mk (by unfold fX2_leastRule; exact ((if_pos c2).trans ((if_pos c4).trans ((if_pos c6).trans ((if_pos c8).trans ((if_pos c10).trans ((if_pos c12).trans ((if_pos c14).trans ((if_pos c16).trans ((if_pos c18).trans (if_neg c20)))))))))).symm) rfl)
                  · refine r_iload_n E (q := 18) 2 dX2_leastRule_17 rfl rfl rfl ?_
                    exact r_iret E T dX2_leastRule_18 (eqI.mk (by unfold fX2_leastRule; exact ((if_pos c2).trans ((if_pos c4).trans ((if_pos c6).trans ((if_pos c8).trans ((if_pos c10).trans ((if_pos c12).trans ((if_pos c14).trans ((if_pos c16).trans (if_neg c18))))))))).symm) rfl)
                · refine r_iload_n E (q := 18) 2 dX2_leastRule_17 rfl rfl rfl ?_
                  exact r_iret E T dX2_leastRule_18 (eqI.mk (by unfold fX2_leastRule; exact ((if_pos c2).trans ((if_pos c4).trans ((if_pos c6).trans ((if_pos c8).trans ((if_pos c10).trans ((if_pos c12).trans ((if_pos c14).trans (if_neg c16)))))))).symm) rfl)
              · refine r_iload_n E (q := 18) 2 dX2_leastRule_17 rfl rfl rfl ?_
                exact r_iret E T dX2_leastRule_18 (eqI.mk (by unfold fX2_leastRule; exact ((if_pos c2).trans ((if_pos c4).trans ((if_pos c6).trans ((if_pos c8).trans ((if_pos c10).trans ((if_pos c12).trans (if_neg c14))))))).symm) rfl)
            · refine r_iload_n E (q := 18) 2 dX2_leastRule_17 rfl rfl rfl ?_
              exact r_iret E T dX2_leastRule_18 (eqI.mk (by unfold fX2_leastRule; exact ((if_pos c2).trans ((if_pos c4).trans ((if_pos c6).trans ((if_pos c8).trans ((if_pos c10).trans (if_neg c12)))))).symm) rfl)
          · refine r_iload_n E (q := 18) 2 dX2_leastRule_17 rfl rfl rfl ?_
            exact r_iret E T dX2_leastRule_18 (eqI.mk (by unfold fX2_leastRule; exact ((if_pos c2).trans ((if_pos c4).trans ((if_pos c6).trans ((if_pos c8).trans (if_neg c10))))).symm) rfl)
        · refine r_iload_n E (q := 18) 2 dX2_leastRule_17 rfl rfl rfl ?_
          exact r_iret E T dX2_leastRule_18 (eqI.mk (by unfold fX2_leastRule; exact ((if_pos c2).trans ((if_pos c4).trans ((if_pos c6).trans (if_neg c8)))).symm) rfl)
      · refine r_iload_n E (q := 18) 2 dX2_leastRule_17 rfl rfl rfl ?_
        exact r_iret E T dX2_leastRule_18 (eqI.mk (by unfold fX2_leastRule; exact ((if_pos c2).trans ((if_pos c4).trans (if_neg c6))).symm) rfl)
    · refine r_iload_n E (q := 18) 2 dX2_leastRule_17 rfl rfl rfl ?_
      exact r_iret E T dX2_leastRule_18 (eqI.mk (by unfold fX2_leastRule; exact ((if_pos c2).trans (if_neg c4)).symm) rfl)
  · refine r_iload_n E (q := 18) 2 dX2_leastRule_17 rfl rfl rfl ?_
    exact r_iret E T dX2_leastRule_18 (eqI.mk (by unfold fX2_leastRule; exact (if_neg c2).symm) rfl)
def fX4_total (G : Nat → Nat → Int32)  : Int32 := (((0 + (G 3 (ix 0))) + (G 3 (ix 1))) + (G 3 (ix 2))) + (G 3 (ix 3))
set_option maxRecDepth 100000 in
set_option maxHeartbeats 800000 in
theorem c_X4_total {l : Launch} {k : Kt} {ad : Nat → Nat} {G : Nat → Nat → Int32} {V : Nat → Int32} {n : Nat}  : CT l k yX4_total cX4_total 6 (some .int) 0 [.ref (ad 1)] (WC k ad G V n) (eqI (fX4_total G) (WC k ad G V n)) 0 0 := by
  refine ct_of (own := RX4) (lv0 := [(0, .ref (ad 1))]) (by decide) rfl (Nat.le_of_ble_eq_true rfl) rfl ?_
  rintro z rfl rfl hz - E T
  refine r_iconst E (q := 1) (v := 0) dX4_total_0 (by decide) rfl ?_
  refine r_istore_n E (q := 2) (lv' := [(0, .ref (ad 1)), (1, .int 0)]) [1, 0] dX4_total_1 rfl (by rw [hz]; decide) rfl rfl ?_
  refine r_aload_n E (q := 3) 0 dX4_total_2 rfl rfl rfl ?_
  refine r_get E (q := 6) fX4_15 1 wc_1 rfl dX4_total_3 rfl ?_
  refine r_astore_n E (q := 7) (lv' := [(0, .ref (ad 1)), (1, .int 0), (2, .ref (ad 3))]) [1, 2, 0] dX4_total_6 rfl (by rw [hz]; decide) rfl rfl ?_
  refine r_aload_n E (q := 8) 2 dX4_total_7 rfl rfl rfl ?_
  refine r_alen E (q := 9) 3 wc_3 dX4_total_8 rfl ?_
  refine r_istore_n E (q := 10) (lv' := [(0, .ref (ad 1)), (1, .int 0), (2, .ref (ad 3)), (3, .int (nI 4))]) [1, 2, 3, 0] dX4_total_9 rfl (by rw [hz]; decide) rfl rfl ?_
  refine r_iconst E (q := 11) (v := 0) dX4_total_10 (by decide) rfl ?_
  refine r_istore E (q := 13) (lv' := [(0, .ref (ad 1)), (1, .int 0), (2, .ref (ad 3)), (3, .int (nI 4)), (4, .int 0)]) [1, 2, 3, 4, 0] dX4_total_11 (by rw [hz]; decide) rfl rfl ?_
  refine r_iload E (q := 15) 4 dX4_total_13 rfl rfl ?_
  refine r_iload_n E (q := 16) 3 dX4_total_15 rfl rfl rfl ?_
  refine r_icmp_ge E (q := 19) 36 dX4_total_16 (by decide) rfl (fun c1 => absurd c1 (by decide)) (fun _ => ?_)
  refine r_aload_n E (q := 20) 2 dX4_total_19 rfl rfl rfl ?_
  refine r_iload E (q := 22) 4 dX4_total_20 rfl rfl ?_
  refine r_iald E (q := 23) 3 wc_3 (by unfold vp_in; decide) dX4_total_22 rfl ?_
  refine r_istore E (q := 25) (lv' := [(0, .ref (ad 1)), (1, .int 0), (2, .ref (ad 3)), (3, .int (nI 4)), (4, .int 0), (5, .int (G 3 (ix 0)))]) [1, 2, 3, 4, 5, 0] dX4_total_23 (by rw [hz]; decide) rfl rfl ?_
  refine r_iload_n E (q := 26) 1 dX4_total_25 rfl rfl rfl ?_
  refine r_iload E (q := 28) 5 dX4_total_26 rfl rfl ?_
  refine r_iadd E (q := 29) dX4_total_28 rfl ?_
  refine r_istore_n E (q := 30) (lv' := [(0, .ref (ad 1)), (1, .int (0 + (G 3 (ix 0)))), (2, .ref (ad 3)), (3, .int (nI 4)), (4, .int 0), (5, .int (G 3 (ix 0)))]) [1, 0, 2, 3, 4, 5] dX4_total_29 rfl (by rw [hz]; decide) rfl rfl ?_
  refine r_iinc E (q := 33) (v := 1) (lv' := [(0, .ref (ad 1)), (1, .int (0 + (G 3 (ix 0)))), (2, .ref (ad 3)), (3, .int (nI 4)), (4, .int 1), (5, .int (G 3 (ix 0)))]) 4 [1, 2, 3, 4, 0, 5] dX4_total_30 rfl (by rfl) (by rw [hz]; decide) rfl rfl ?_
  refine r_goto E 13 dX4_total_33 (by decide) ?_
  refine r_iload E (q := 15) 4 dX4_total_13 rfl rfl ?_
  refine r_iload_n E (q := 16) 3 dX4_total_15 rfl rfl rfl ?_
  refine r_icmp_ge E (q := 19) 36 dX4_total_16 (by decide) rfl (fun c2 => absurd c2 (by decide)) (fun _ => ?_)
  refine r_aload_n E (q := 20) 2 dX4_total_19 rfl rfl rfl ?_
  refine r_iload E (q := 22) 4 dX4_total_20 rfl rfl ?_
  refine r_iald E (q := 23) 3 wc_3 (by unfold vp_in; decide) dX4_total_22 rfl ?_
  refine r_istore E (q := 25) (lv' := [(0, .ref (ad 1)), (1, .int (0 + (G 3 (ix 0)))), (2, .ref (ad 3)), (3, .int (nI 4)), (4, .int 1), (5, .int (G 3 (ix 1)))]) [1, 2, 3, 4, 5, 0] dX4_total_23 (by rw [hz]; decide) rfl rfl ?_
  refine r_iload_n E (q := 26) 1 dX4_total_25 rfl rfl rfl ?_
  refine r_iload E (q := 28) 5 dX4_total_26 rfl rfl ?_
  refine r_iadd E (q := 29) dX4_total_28 rfl ?_
  refine r_istore_n E (q := 30) (lv' := [(0, .ref (ad 1)), (1, .int ((0 + (G 3 (ix 0))) + (G 3 (ix 1)))), (2, .ref (ad 3)), (3, .int (nI 4)), (4, .int 1), (5, .int (G 3 (ix 1)))]) [1, 0, 2, 3, 4, 5] dX4_total_29 rfl (by rw [hz]; decide) rfl rfl ?_
  refine r_iinc E (q := 33) (v := 2) (lv' := [(0, .ref (ad 1)), (1, .int ((0 + (G 3 (ix 0))) + (G 3 (ix 1)))), (2, .ref (ad 3)), (3, .int (nI 4)), (4, .int 2), (5, .int (G 3 (ix 1)))]) 4 [1, 2, 3, 4, 0, 5] dX4_total_30 rfl (by rfl) (by rw [hz]; decide) rfl rfl ?_
  refine r_goto E 13 dX4_total_33 (by decide) ?_
  refine r_iload E (q := 15) 4 dX4_total_13 rfl rfl ?_
  refine r_iload_n E (q := 16) 3 dX4_total_15 rfl rfl rfl ?_
  refine r_icmp_ge E (q := 19) 36 dX4_total_16 (by decide) rfl (fun c3 => absurd c3 (by decide)) (fun _ => ?_)
  refine r_aload_n E (q := 20) 2 dX4_total_19 rfl rfl rfl ?_
  refine r_iload E (q := 22) 4 dX4_total_20 rfl rfl ?_
  refine r_iald E (q := 23) 3 wc_3 (by unfold vp_in; decide) dX4_total_22 rfl ?_
  refine r_istore E (q := 25) (lv' := [(0, .ref (ad 1)), (1, .int ((0 + (G 3 (ix 0))) + (G 3 (ix 1)))), (2, .ref (ad 3)), (3, .int (nI 4)), (4, .int 2), (5, .int (G 3 (ix 2)))]) [1, 2, 3, 4, 5, 0] dX4_total_23 (by rw [hz]; decide) rfl rfl ?_
  refine r_iload_n E (q := 26) 1 dX4_total_25 rfl rfl rfl ?_
  refine r_iload E (q := 28) 5 dX4_total_26 rfl rfl ?_
  refine r_iadd E (q := 29) dX4_total_28 rfl ?_
  refine r_istore_n E (q := 30) (lv' := [(0, .ref (ad 1)), (1, .int (((0 + (G 3 (ix 0))) + (G 3 (ix 1))) + (G 3 (ix 2)))), (2, .ref (ad 3)), (3, .int (nI 4)), (4, .int 2), (5, .int (G 3 (ix 2)))]) [1, 0, 2, 3, 4, 5] dX4_total_29 rfl (by rw [hz]; decide) rfl rfl ?_
  refine r_iinc E (q := 33) (v := 3) (lv' := [(0, .ref (ad 1)), (1, .int (((0 + (G 3 (ix 0))) + (G 3 (ix 1))) + (G 3 (ix 2)))), (2, .ref (ad 3)), (3, .int (nI 4)), (4, .int 3), (5, .int (G 3 (ix 2)))]) 4 [1, 2, 3, 4, 0, 5] dX4_total_30 rfl (by rfl) (by rw [hz]; decide) rfl rfl ?_
  refine r_goto E 13 dX4_total_33 (by decide) ?_
  refine r_iload E (q := 15) 4 dX4_total_13 rfl rfl ?_
  refine r_iload_n E (q := 16) 3 dX4_total_15 rfl rfl rfl ?_
  refine r_icmp_ge E (q := 19) 36 dX4_total_16 (by decide) rfl (fun c4 => absurd c4 (by decide)) (fun _ => ?_)
  refine r_aload_n E (q := 20) 2 dX4_total_19 rfl rfl rfl ?_
  refine r_iload E (q := 22) 4 dX4_total_20 rfl rfl ?_
  refine r_iald E (q := 23) 3 wc_3 (by unfold vp_in; decide) dX4_total_22 rfl ?_
  refine r_istore E (q := 25) (lv' := [(0, .ref (ad 1)), (1, .int (((0 + (G 3 (ix 0))) + (G 3 (ix 1))) + (G 3 (ix 2)))), (2, .ref (ad 3)), (3, .int (nI 4)), (4, .int 3), (5, .int (G 3 (ix 3)))]) [1, 2, 3, 4, 5, 0] dX4_total_23 (by rw [hz]; decide) rfl rfl ?_
  refine r_iload_n E (q := 26) 1 dX4_total_25 rfl rfl rfl ?_
  refine r_iload E (q := 28) 5 dX4_total_26 rfl rfl ?_
  refine r_iadd E (q := 29) dX4_total_28 rfl ?_
  refine r_istore_n E (q := 30) (lv' := [(0, .ref (ad 1)), (1, .int ((((0 + (G 3 (ix 0))) + (G 3 (ix 1))) + (G 3 (ix 2))) + (G 3 (ix 3)))), (2, .ref (ad 3)), (3, .int (nI 4)), (4, .int 3), (5, .int (G 3 (ix 3)))]) [1, 0, 2, 3, 4, 5] dX4_total_29 rfl (by rw [hz]; decide) rfl rfl ?_
  refine r_iinc E (q := 33) (v := 4) (lv' := [(0, .ref (ad 1)), (1, .int ((((0 + (G 3 (ix 0))) + (G 3 (ix 1))) + (G 3 (ix 2))) + (G 3 (ix 3)))), (2, .ref (ad 3)), (3, .int (nI 4)), (4, .int 4), (5, .int (G 3 (ix 3)))]) 4 [1, 2, 3, 4, 0, 5] dX4_total_30 rfl (by rfl) (by rw [hz]; decide) rfl rfl ?_
  refine r_goto E 13 dX4_total_33 (by decide) ?_
  refine r_iload E (q := 15) 4 dX4_total_13 rfl rfl ?_
  refine r_iload_n E (q := 16) 3 dX4_total_15 rfl rfl rfl ?_
  refine r_icmp_ge E (q := 19) 36 dX4_total_16 (by decide) rfl (fun _ => ?_) (fun c5 => absurd c5 (by decide))
  refine r_iload_n E (q := 37) 1 dX4_total_36 rfl rfl rfl ?_
  exact r_iret E T dX4_total_37 (eqI.mk (by unfold fX4_total; exact rfl) rfl)
def fX5_count (G : Nat → Nat → Int32) (V : Nat → Int32) (what : Int32) : Int32 := if what = 0 then (V 0) else (if what = 1 then (V 1) else (if what = 2 then (V 9) else (if what = 3 then (fX4_total G) else (-1))))
set_option maxRecDepth 100000 in
set_option maxHeartbeats 800000 in
theorem c_X5_count {l : Launch} {k : Kt} {ad : Nat → Nat} {G : Nat → Nat → Int32} {V : Nat → Int32} {n : Nat} (what : Int32) : CT l k yX5_count cX5_count 2 (some .int) 1 [.ref (ad 0), .int what] (WC k ad G V n) (eqI (fX5_count G V what) (WC k ad G V n)) 0 0 := by
  refine ct_of (own := RX5) (lv0 := [(0, .ref (ad 0)), (1, .int what)]) (by decide) rfl (Nat.le_of_ble_eq_true rfl) rfl ?_
  rintro z rfl rfl hz - E T
  refine r_iload_n E (q := 1) 1 dX5_count_0 rfl rfl rfl ?_
  by_cases c1 : what = 0
  · refine r_tabIn E 0 c1 32 dX5_count_1 (by decide) (by rfl) (by decide) ?_
    refine r_aload_n E (q := 33) 0 dX5_count_32 rfl rfl rfl ?_
    refine r_get E (q := 36) fX5_19 0 wc_0 rfl dX5_count_33 rfl ?_
    refine r_get E (q := 39) fX5_163 5 wc_5 rfl dX5_count_36 rfl ?_
    exact r_iret E T dX5_count_39 (eqI.mk (by unfold fX5_count; exact (if_pos c1).symm) rfl)
  · by_cases c2 : what = 1
    · refine r_tabIn E 1 c2 40 dX5_count_1 (by decide) (by rfl) (by decide) ?_
      refine r_aload_n E (q := 41) 0 dX5_count_40 rfl rfl rfl ?_
      refine r_get E (q := 44) fX5_28 0 wc_0 rfl dX5_count_41 rfl ?_
      refine r_get E (q := 47) fX5_154 12 wc_12 rfl dX5_count_44 rfl ?_
      exact r_iret E T dX5_count_47 (eqI.mk (by unfold fX5_count; exact ((if_neg c1).trans (if_pos c2)).symm) rfl)
    · by_cases c3 : what = 2
      · refine r_tabIn E 2 c3 48 dX5_count_1 (by decide) (by rfl) (by decide) ?_
        refine r_aload_n E (q := 49) 0 dX5_count_48 rfl rfl rfl ?_
        refine r_get E (q := 52) fX5_46 0 wc_0 rfl dX5_count_49 rfl ?_
        refine r_get E (q := 55) fX5_164 27 wc_27 rfl dX5_count_52 rfl ?_
        exact r_iret E T dX5_count_55 (eqI.mk (by unfold fX5_count; exact ((if_neg c1).trans ((if_neg c2).trans (if_pos c3))).symm) rfl)
      · by_cases c4 : what = 3
        · refine r_tabIn E 3 c4 56 dX5_count_1 (by decide) (by rfl) (by decide) ?_
          refine r_aload_n E (q := 57) 0 dX5_count_56 rfl rfl rfl ?_
          refine r_get E (q := 60) fX5_12 0 wc_0 rfl dX5_count_57 rfl ?_
          refine rVi E (q := 63) cvX5_167 T.rr 1 wc_1 rfl [] c_X4_total (by decide) rfl rfl (Nat.le_of_ble_eq_true rfl) ⟨(Nat.le_of_ble_eq_true rfl), (Nat.le_of_ble_eq_true rfl)⟩ dX5_count_60 rfl ?_
          exact r_iret E T dX5_count_63 (eqI.mk (by unfold fX5_count; exact ((if_neg c1).trans ((if_neg c2).trans ((if_neg c3).trans (if_pos c4)))).symm) rfl)
        · refine r_tabOut E 64 dX5_count_1 (sw_out (fun j hj e => by match j with | 0 => exact c1 (e.trans (by decide)) | 1 => exact c2 (e.trans (by decide)) | 2 => exact c3 (e.trans (by decide)) | 3 => exact c4 (e.trans (by decide)) | j + 4 => omega)) (by decide) ?_
          refine r_iconst E (q := 65) (v := (-1)) dX5_count_64 (by decide) rfl ?_
          exact r_iret E T dX5_count_65 (eqI.mk (by unfold fX5_count; exact ((if_neg c1).trans ((if_neg c2).trans ((if_neg c3).trans (if_neg c4)))).symm) rfl)
def fX3_valueOfPair (V : Nat → Int32) (kind : Int32) (left : Int32) (right : Int32) : Int32 := if kind = 2 then (left + right) else (if kind = 3 then (left - right) else (if kind = 4 then (left * right) else (if kind = 5 then (if right = 0 then 0 else (left / right)) else (if kind = 6 then (if right = 0 then 0 else 1) else (if kind = 7 then (if right ≤ left then 0 else 1) else (if kind = 8 then (if left = right then 1 else 0) else (if right = 0 then 0 else 1)))))))
def fX3_valueOfPair_V (V : Nat → Int32) (kind : Int32) (left : Int32) (right : Int32) : Nat → Int32 := if kind = 2 then V else (if kind = 3 then V else (if kind = 4 then V else (if kind = 5 then (if right = 0 then (upd V 5 1) else V) else (if kind = 6 then V else (if kind = 7 then V else (if kind = 8 then V else V))))))
set_option maxRecDepth 100000 in
set_option maxHeartbeats 800000 in
theorem c_X3_valueOfPair {l : Launch} {k : Kt} {ad : Nat → Nat} {G : Nat → Nat → Int32} {V : Nat → Int32} {n : Nat} (kind : Int32) (left : Int32) (right : Int32) : CT l k yX3_valueOfPair cX3_valueOfPair 4 (some .int) 0 [.ref (ad 23), .int kind, .int left, .int right] (WC k ad G V n) (eqI (fX3_valueOfPair V kind left right) (WC k ad G (fX3_valueOfPair_V V kind left right) n)) 0 0 := by
  refine ct_of (own := RX3) (lv0 := [(0, .ref (ad 23)), (1, .int kind), (2, .int left), (3, .int right)]) (by decide) rfl (Nat.le_of_ble_eq_true rfl) rfl ?_
  rintro z rfl rfl hz - E T
  refine r_iload_n E (q := 1) 1 dX3_valueOfPair_0 rfl rfl rfl ?_
  by_cases c1 : kind = 2
  · refine r_tabIn E 2 c1 44 dX3_valueOfPair_1 (by decide) (by rfl) (by decide) ?_
    refine r_iload_n E (q := 45) 2 dX3_valueOfPair_44 rfl rfl rfl ?_
    refine r_iload_n E (q := 46) 3 dX3_valueOfPair_45 rfl rfl rfl ?_
    refine r_iadd E (q := 47) dX3_valueOfPair_46 rfl ?_
    exact r_iret E T dX3_valueOfPair_47 (eqI.mk (by unfold fX3_valueOfPair; exact (if_pos c1).symm) (cgC rfl (by unfold fX3_valueOfPair_V; exact (if_pos c1).symm)))
  · by_cases c2 : kind = 3
    · refine r_tabIn E 3 c2 48 dX3_valueOfPair_1 (by decide) (by rfl) (by decide) ?_
      refine r_iload_n E (q := 49) 2 dX3_valueOfPair_48 rfl rfl rfl ?_
      refine r_iload_n E (q := 50) 3 dX3_valueOfPair_49 rfl rfl rfl ?_
      refine r_isub E (q := 51) dX3_valueOfPair_50 rfl ?_
      exact r_iret E T dX3_valueOfPair_51 (eqI.mk (by unfold fX3_valueOfPair; exact ((if_neg c1).trans (if_pos c2)).symm) (cgC rfl (by unfold fX3_valueOfPair_V; exact ((if_neg c1).trans (if_pos c2)).symm)))
    · by_cases c3 : kind = 4
      · refine r_tabIn E 4 c3 52 dX3_valueOfPair_1 (by decide) (by rfl) (by decide) ?_
        refine r_iload_n E (q := 53) 2 dX3_valueOfPair_52 rfl rfl rfl ?_
        refine r_iload_n E (q := 54) 3 dX3_valueOfPair_53 rfl rfl rfl ?_
        refine r_imul E (q := 55) dX3_valueOfPair_54 rfl ?_
        exact r_iret E T dX3_valueOfPair_55 (eqI.mk (by unfold fX3_valueOfPair; exact ((if_neg c1).trans ((if_neg c2).trans (if_pos c3))).symm) (cgC rfl (by unfold fX3_valueOfPair_V; exact ((if_neg c1).trans ((if_neg c2).trans (if_pos c3))).symm)))
      · by_cases c4 : kind = 5
        · refine r_tabIn E 5 c4 56 dX3_valueOfPair_1 (by decide) (by rfl) (by decide) ?_
          refine r_iload_n E (q := 57) 3 dX3_valueOfPair_56 rfl rfl rfl ?_
          refine r_if_ne E (q := 60) 67 dX3_valueOfPair_57 (by decide) rfl (fun c5 => ?_) (fun c5 => ?_)
          · refine r_iload_n E (q := 68) 2 dX3_valueOfPair_67 rfl rfl rfl ?_
            refine r_iload_n E (q := 69) 3 dX3_valueOfPair_68 rfl rfl rfl ?_
            refine r_idiv E (q := 70) dX3_valueOfPair_69 (by assumption) rfl ?_
            exact r_iret E T dX3_valueOfPair_70 (eqI.mk (by unfold fX3_valueOfPair; exact ((if_neg c1).trans ((if_neg c2).trans ((if_neg c3).trans ((if_pos c4).trans (if_neg c5))))).symm) (cgC rfl (by unfold fX3_valueOfPair_V; exact ((if_neg c1).trans ((if_neg c2).trans ((if_neg c3).trans ((if_pos c4).trans (if_neg c5))))).symm)))
          · refine r_aload_n E (q := 61) 0 dX3_valueOfPair_60 rfl rfl rfl ?_
            refine r_iconst E (q := 62) (v := 1) dX3_valueOfPair_61 (by decide) rfl ?_
            refine r_put E (q := 65) pX3_42 rfl 23 wc_23 rfl rfl (Nat.le_of_ble_eq_true rfl) wcv_5 dX3_valueOfPair_62 rfl ?_
            refine r_iconst E (q := 66) (v := 0) dX3_valueOfPair_65 (by decide) rfl ?_
            exact r_iret E T dX3_valueOfPair_66 (eqI.mk (by unfold fX3_valueOfPair; exact ((if_neg c1).trans ((if_neg c2).trans ((if_neg c3).trans ((if_pos c4).trans (if_pos c5))))).symm) (cgC rfl (by unfold fX3_valueOfPair_V; exact ((if_neg c1).trans ((if_neg c2).trans ((if_neg c3).trans ((if_pos c4).trans (if_pos c5))))).symm)))
        · by_cases c6 : kind = 6
          · refine r_tabIn E 6 c6 93 dX3_valueOfPair_1 (by decide) (by rfl) (by decide) ?_
            refine r_iload_n E (q := 94) 3 dX3_valueOfPair_93 rfl rfl rfl ?_
            refine r_join 102 (if right = 0 then 0 else 1) (rest := []) ?_ (fun hj1 => ?_)
            · exact r_iret E T dX3_valueOfPair_102 (eqI.mk (by unfold fX3_valueOfPair; exact ((if_neg c1).trans ((if_neg c2).trans ((if_neg c3).trans ((if_neg c4).trans (if_pos c6))))).symm) (cgC rfl (by unfold fX3_valueOfPair_V; exact ((if_neg c1).trans ((if_neg c2).trans ((if_neg c3).trans ((if_neg c4).trans (if_pos c6))))).symm)))
            · refine r_if_eq E (q := 97) 101 dX3_valueOfPair_94 (by decide) rfl (fun c7 => ?_) (fun c7 => ?_)
              · refine r_iconst E (q := 102) (v := 0) dX3_valueOfPair_101 (by decide) rfl ?_
                exact hj1 _ (if_pos c7).symm
              · refine r_iconst E (q := 98) (v := 1) dX3_valueOfPair_97 (by decide) rfl ?_
                refine r_goto E 102 dX3_valueOfPair_98 (by decide) ?_
                exact hj1 _ (if_neg c7).symm
          · by_cases c8 : kind = 7
            · refine r_tabIn E 7 c8 71 dX3_valueOfPair_1 (by decide) (by rfl) (by decide) ?_
              refine r_iload_n E (q := 72) 2 dX3_valueOfPair_71 rfl rfl rfl ?_
              refine r_iload_n E (q := 73) 3 dX3_valueOfPair_72 rfl rfl rfl ?_
              refine r_join 81 (if right ≤ left then 0 else 1) (rest := []) ?_ (fun hj2 => ?_)
              · exact r_iret E T dX3_valueOfPair_81 (eqI.mk (by unfold fX3_valueOfPair; exact ((if_neg c1).trans ((if_neg c2).trans ((if_neg c3).trans ((if_neg c4).trans ((if_neg c6).trans (if_pos c8)))))).symm) (cgC rfl (by unfold fX3_valueOfPair_V; exact ((if_neg c1).trans ((if_neg c2).trans ((if_neg c3).trans ((if_neg c4).trans ((if_neg c6).trans (if_pos c8)))))).symm)))
              · refine r_icmp_ge E (q := 76) 80 dX3_valueOfPair_73 (by decide) rfl (fun c9 => ?_) (fun c9 => ?_)
                · refine r_iconst E (q := 81) (v := 0) dX3_valueOfPair_80 (by decide) rfl ?_
                  exact hj2 _ (if_pos c9).symm
                · refine r_iconst E (q := 77) (v := 1) dX3_valueOfPair_76 (by decide) rfl ?_
                  refine r_goto E 81 dX3_valueOfPair_77 (by decide) ?_
                  exact hj2 _ (if_neg c9).symm
            · by_cases c10 : kind = 8
              · refine r_tabIn E 8 c10 82 dX3_valueOfPair_1 (by decide) (by rfl) (by decide) ?_
                refine r_iload_n E (q := 83) 2 dX3_valueOfPair_82 rfl rfl rfl ?_
                refine r_iload_n E (q := 84) 3 dX3_valueOfPair_83 rfl rfl rfl ?_
                refine r_join 92 (if left = right then 1 else 0) (rest := []) ?_ (fun hj3 => ?_)
                · exact r_iret E T dX3_valueOfPair_92 (eqI.mk (by unfold fX3_valueOfPair; exact ((if_neg c1).trans ((if_neg c2).trans ((if_neg c3).trans ((if_neg c4).trans ((if_neg c6).trans ((if_neg c8).trans (if_pos c10))))))).symm) (cgC rfl (by unfold fX3_valueOfPair_V; exact ((if_neg c1).trans ((if_neg c2).trans ((if_neg c3).trans ((if_neg c4).trans ((if_neg c6).trans ((if_neg c8).trans (if_pos c10))))))).symm)))
                · refine r_icmp_ne E (q := 87) 91 dX3_valueOfPair_84 (by decide) rfl (fun c11 => ?_) (fun c11 => ?_)
                  · refine r_iconst E (q := 92) (v := 0) dX3_valueOfPair_91 (by decide) rfl ?_
                    exact hj3 _ (if_neg c11).symm
                  · refine r_iconst E (q := 88) (v := 1) dX3_valueOfPair_87 (by decide) rfl ?_
                    refine r_goto E 92 dX3_valueOfPair_88 (by decide) ?_
                    exact hj3 _ (if_pos c11).symm
              · refine r_tabOut E 93 dX3_valueOfPair_1 (sw_out (fun j hj e => by match j with | 0 => exact c1 (e.trans (by decide)) | 1 => exact c2 (e.trans (by decide)) | 2 => exact c3 (e.trans (by decide)) | 3 => exact c4 (e.trans (by decide)) | 4 => exact c6 (e.trans (by decide)) | 5 => exact c8 (e.trans (by decide)) | 6 => exact c10 (e.trans (by decide)) | j + 7 => omega)) (by decide) ?_
                refine r_iload_n E (q := 94) 3 dX3_valueOfPair_93 rfl rfl rfl ?_
                refine r_join 102 (if right = 0 then 0 else 1) (rest := []) ?_ (fun hj4 => ?_)
                · exact r_iret E T dX3_valueOfPair_102 (eqI.mk (by unfold fX3_valueOfPair; exact ((if_neg c1).trans ((if_neg c2).trans ((if_neg c3).trans ((if_neg c4).trans ((if_neg c6).trans ((if_neg c8).trans (if_neg c10))))))).symm) (cgC rfl (by unfold fX3_valueOfPair_V; exact ((if_neg c1).trans ((if_neg c2).trans ((if_neg c3).trans ((if_neg c4).trans ((if_neg c6).trans ((if_neg c8).trans (if_neg c10))))))).symm)))
                · refine r_if_eq E (q := 97) 101 dX3_valueOfPair_94 (by decide) rfl (fun c12 => ?_) (fun c12 => ?_)
                  · refine r_iconst E (q := 102) (v := 0) dX3_valueOfPair_101 (by decide) rfl ?_
                    exact hj4 _ (if_pos c12).symm
                  · refine r_iconst E (q := 98) (v := 1) dX3_valueOfPair_97 (by decide) rfl ?_
                    refine r_goto E 102 dX3_valueOfPair_98 (by decide) ?_
                    exact hj4 _ (if_neg c12).symm
def fX3_itemAt (G : Nat → Nat → Int32) (V : Nat → Int32) (i : Int32) : Int32 := if fX4_hasItem i = 0 then 0 else (G 4 (ix i))
def fX3_itemAt_V (G : Nat → Nat → Int32) (V : Nat → Int32) (i : Int32) : Nat → Int32 := if fX4_hasItem i = 0 then (upd V 5 2) else V
set_option maxRecDepth 100000 in
set_option maxHeartbeats 800000 in
theorem c_X3_itemAt {l : Launch} {k : Kt} {ad : Nat → Nat} {G : Nat → Nat → Int32} {V : Nat → Int32} {n : Nat} (i : Int32) : CT l k yX3_itemAt cX3_itemAt 2 (some .int) 1 [.ref (ad 23), .int i] (WC k ad G V n) (eqI (fX3_itemAt G V i) (WC k ad G (fX3_itemAt_V G V i) n)) 0 0 := by
  refine ct_of (own := RX3) (lv0 := [(0, .ref (ad 23)), (1, .int i)]) (by decide) rfl (Nat.le_of_ble_eq_true rfl) rfl ?_
  rintro z rfl rfl hz - E T
  refine r_aload_n E (q := 1) 0 dX3_itemAt_0 rfl rfl rfl ?_
  refine r_get E (q := 4) fX3_27 23 wc_23 rfl dX3_itemAt_1 rfl ?_
  refine r_iload_n E (q := 5) 1 dX3_itemAt_4 rfl rfl rfl ?_
  refine rVi E (q := 8) cvX3_184 T.rr 1 wc_1 rfl [.int i] (c_X4_hasItem i) (by decide) rfl rfl (Nat.le_of_ble_eq_true rfl) ⟨(Nat.le_of_ble_eq_true rfl), (Nat.le_of_ble_eq_true rfl)⟩ dX3_itemAt_5 rfl ?_
  refine r_if_ne E (q := 11) 18 dX3_itemAt_8 (by decide) rfl (fun c1 => ?_) (fun c1 => ?_)
  · refine r_aload_n E (q := 19) 0 dX3_itemAt_18 rfl rfl rfl ?_
    refine r_get E (q := 22) fX3_27 23 wc_23 rfl dX3_itemAt_19 rfl ?_
    refine r_get E (q := 25) fX3_188 1 wc_1 rfl dX3_itemAt_22 rfl ?_
    refine r_iload_n E (q := 26) 1 dX3_itemAt_25 rfl rfl rfl ?_
    refine r_iald E (q := 27) 4 wc_4 (hasI_of (by assumption)) dX3_itemAt_26 rfl ?_
    exact r_iret E T dX3_itemAt_27 (eqI.mk (by unfold fX3_itemAt; exact (if_neg c1).symm) (cgC rfl (by unfold fX3_itemAt_V; exact (if_neg c1).symm)))
  · refine r_aload_n E (q := 12) 0 dX3_itemAt_11 rfl rfl rfl ?_
    refine r_iconst E (q := 13) (v := 2) dX3_itemAt_12 (by decide) rfl ?_
    refine r_put E (q := 16) pX3_42 rfl 23 wc_23 rfl rfl (Nat.le_of_ble_eq_true rfl) wcv_5 dX3_itemAt_13 rfl ?_
    refine r_iconst E (q := 17) (v := 0) dX3_itemAt_16 (by decide) rfl ?_
    exact r_iret E T dX3_itemAt_17 (eqI.mk (by unfold fX3_itemAt; exact (if_pos c1).symm) (cgC rfl (by unfold fX3_itemAt_V; exact (if_pos c1).symm)))
