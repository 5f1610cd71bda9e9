theorem ug_if2 {G : Nat → Nat → Int32} {p i b : Nat} {x : Int32} : ug G p i x p b = if b = i then x else G p b := by
  rw [ug_if]; by_cases h : b = i
  · rw [if_pos h, if_pos ⟨rfl, h⟩]
  · rw [if_neg h, if_neg (fun q => h q.2)]
/-- six members copied -/
def cpF (C : Nat → Int32) (a b : Nat) : Nat → Int32 := fun j => if b ≤ j ∧ j < b + 6 then C (a + (j - b)) else C j
theorem ug_other {G : Nat → Nat → Int32} {p i q : Nat} {x : Int32} (h : q ≠ p) : ug G p i x q = G q := by unfold ug va_up; rw [if_neg h]
theorem nIadd {a m : Nat} (h : a + m < 2 ^ 31) : ix (nI a + nI m) = a + m := by rw [nI_add]; exact ix_nI h
set_option maxHeartbeats 800000 in
theorem copy_spec {G : Nat → Nat → Int32} {x y : Int32} {a b : Nat} (hx : x = nI a) (hy : y = nI b) (ha : a + 6 ≤ 36000) (hb : b + 6 ≤ 36000) (hap : a + 6 ≤ b ∨ b + 6 ≤ a) :
    (∀ p, p ≠ 20 → fX6_copy_G G x y p = G p) ∧ fX6_copy_G G x y 20 = cpF (G 20) a b := by
  have A : ∀ (z : Int32) (c m : Nat), z = nI c → c + 6 ≤ 36000 → m < 6 → ix (z + nI m) = c + m := fun z c m h1 h2 h3 => by rw [h1]; exact nIadd (by omega)
  have x0 : ix (x + 0) = a + 0 := A x a 0 hx ha (by omega)
  have x1 : ix (x + 1) = a + 1 := A x a 1 hx ha (by omega)
  have x2 : ix (x + 2) = a + 2 := A x a 2 hx ha (by omega)
  have x3 : ix (x + 3) = a + 3 := A x a 3 hx ha (by omega)
  have x4 : ix (x + 4) = a + 4 := A x a 4 hx ha (by omega)
  have x5 : ix (x + 5) = a + 5 := A x a 5 hx ha (by omega)
  have y0 : ix (y + 0) = b + 0 := A y b 0 hy hb (by omega)
  have y1 : ix (y + 1) = b + 1 := A y b 1 hy hb (by omega)
  have y2 : ix (y + 2) = b + 2 := A y b 2 hy hb (by omega)
  have y3 : ix (y + 3) = b + 3 := A y b 3 hy hb (by omega)
  have y4 : ix (y + 4) = b + 4 := A y b 4 hy hb (by omega)
  have y5 : ix (y + 5) = b + 5 := A y b 5 hy hb (by omega)
  unfold fX6_copy_G
  rw [x0, x1, x2, x3, x4, x5, y0, y1, y2, y3, y4, y5]
  refine ⟨fun p hp => ?_, ?_⟩
  · rw [ug_other hp, ug_other hp, ug_other hp, ug_other hp, ug_other hp, ug_other hp]
  · funext j
    simp only [ug_if2, cpF]
    by_cases hj : b ≤ j ∧ j < b + 6
    · rw [if_pos hj]
      obtain ⟨m, hm, rfl⟩ : ∃ m, m < 6 ∧ j = b + m := ⟨j - b, by omega, by omega⟩
      rcases (show m = 0 ∨ m = 1 ∨ m = 2 ∨ m = 3 ∨ m = 4 ∨ m = 5 by omega) with rfl | rfl | rfl | rfl | rfl | rfl <;> simp <;> (try (repeat (rw [if_neg (by omega)]))) <;> (try (intros; exfalso; omega))
    · rw [if_neg hj]
      repeat (rw [if_neg (by omega)])
def fX6_add_G (G : Nat → Nat → Int32) (x : Int32) (from9 : Int32) : Nat → Nat → Int32 := ug (fX6_copy_G G from9 (fX6_place x (G 21 (ix x)))) 21 (ix x) (((fX6_copy_G G from9 (fX6_place x (G 21 (ix x)))) 21 (ix x)) + 1)
set_option maxRecDepth 100000 in
set_option maxHeartbeats 800000 in
theorem c_X6_add {l : Launch} {k : Kt} {ad : Nat → Nat} {G : Nat → Nat → Int32} {V : Nat → Int32} (x : Int32) (from9 : Int32) (hx : vp_in x 60) (h_from9 : ∃ a : Nat, from9 = nI a ∧ a + 6 ≤ 36000 ∧ 36000 < 2 ^ 31) (h_to : ∃ a : Nat, fX6_place x (G 21 (ix x)) = nI a ∧ a + 6 ≤ 36000 ∧ 36000 < 2 ^ 31) : CT l k yX6_add cX6_add 4 none 1 [.ref (ad 0), .int x, .int from9] (WM k ad G V) (eqV (WM k ad (fX6_add_G G x from9) V)) 0 0 := by
  refine ct_of (own := RX6) (lv0 := [(0, .ref (ad 0)), (1, .int x), (2, .int from9)]) (by decide) rfl (Nat.le_of_ble_eq_true rfl) rfl ?_
  rintro z rfl rfl hz - E T
  refine r_aload_n E (q := 1) 0 dX6_add_0 rfl rfl rfl ?_
  refine r_iload_n E (q := 2) 2 dX6_add_1 rfl rfl rfl ?_
  refine r_iload_n E (q := 3) 1 dX6_add_2 rfl rfl rfl ?_
  refine r_aload_n E (q := 4) 0 dX6_add_3 rfl rfl rfl ?_
  refine r_get E (q := 7) fX6_72 0 wm_0 rfl dX6_add_4 rfl ?_
  refine r_iload_n E (q := 8) 1 dX6_add_7 rfl rfl rfl ?_
  refine r_iald E (q := 9) 21 wm_21 (by assumption) dX6_add_8 rfl ?_
  refine rSi E (q := 12) csX6_196 T.rr [.int x, .int (G 21 (ix x))] (c_X6_place x (G 21 (ix x))) (by decide) rfl rfl (Nat.le_of_ble_eq_true rfl) ⟨(Nat.le_of_ble_eq_true rfl), (Nat.le_of_ble_eq_true rfl)⟩ dX6_add_9 rfl ?_
  refine rVi E (q := 15) cvX6_200 T.rr 0 wm_0 rfl [.int from9, .int (fX6_place x (G 21 (ix x)))] (c_X6_copy from9 (fX6_place x (G 21 (ix x))) (by assumption) (by assumption)) (by decide) rfl rfl (Nat.le_of_ble_eq_true rfl) ⟨(Nat.le_of_ble_eq_true rfl), (Nat.le_of_ble_eq_true rfl)⟩ dX6_add_12 rfl ?_
  refine r_istore_n E (q := 16) (lv' := [(0, .ref (ad 0)), (1, .int x), (2, .int from9), (3, .int (fX6_copy G from9 (fX6_place x (G 21 (ix x)))))]) [1, 2, 3, 0] dX6_add_15 rfl (by rw [hz]; decide) rfl rfl ?_
  refine r_aload_n E (q := 17) 0 dX6_add_16 rfl rfl rfl ?_
  refine r_get E (q := 20) fX6_72 0 wm_0 rfl dX6_add_17 rfl ?_
  refine r_iload_n E (q := 21) 1 dX6_add_20 rfl rfl rfl ?_
  refine r_dup2 E (q := 22) dX6_add_21 rfl rfl rfl ?_
  refine r_iald E (q := 23) 21 wm_21 (by assumption) dX6_add_22 rfl ?_
  refine r_iconst E (q := 24) (v := 1) dX6_add_23 (by decide) rfl ?_
  refine r_iadd E (q := 25) dX6_add_24 rfl ?_
  refine r_iast E (q := 26) 21 wm_21 (by assumption) wmu_21 dX6_add_25 rfl ?_
  exact r_vret E T dX6_add_26 (eqV.mk (cgM (by unfold fX6_add_G; exact rfl) rfl))
