set_option maxRecDepth 100000 in
set_option maxHeartbeats 800000 in
theorem p_work {z : Zt} (E : EN z cX6_work RX6) {w0 : va_W} {P : Option Value → va_W → Prop} {lvl : Nat} (T : RT z none lvl w0 P 0 0) (hz : zn z = 3) {ad : Nat → Nat} {G : Nat → Nat → Int32} {V : Nat → Int32} (hlv : 3 ≤ lvl) (f at9 : Int32) (k_10 : WW z 0 0 (WM (zk z) ad (fX6_begins_G G (upd V 3 0) f) (fX6_begins_V G (upd V 3 0) f)) 10 [(0, .ref (ad 0)), (1, .int f), (2, .int at9)] []) :
    WW z 0 0 (WM (zk z) ad G V) 0 [(0, .ref (ad 0)), (1, .int f), (2, .int at9)] [] := by
  refine r_aload_n E (q := 1) 0 dX6_work_0 rfl rfl rfl ?_
  refine r_iconst E (q := 2) (v := 0) dX6_work_1 (by decide) rfl ?_
  refine r_put E (q := 5) pX6_164 rfl 0 wm_0 rfl rfl (Nat.le_of_ble_eq_true rfl) wmv_3 dX6_work_2 rfl ?_
  refine r_aload_n E (q := 6) 0 dX6_work_5 rfl rfl rfl ?_
  refine r_iload_n E (q := 7) 1 dX6_work_6 rfl rfl rfl ?_
  refine rVv E (q := 10) cvX6_170 T.rr 0 wm_0 rfl [.int f] (c_X6_begins f (show vp_in 0 40 from by unfold vp_in; decide)) (by omega) rfl rfl (Nat.le_of_ble_eq_true rfl) ⟨Nat.zero_le _, Nat.zero_le _⟩ dX6_work_7 rfl ?_
  exact k_10
/-- work(f, at): the formula's value, failure, count -/
def rsW (V V' : Nat → Int32) (e : Int32 × Int32 × Int32) : Prop := V' 5 = e.2.1 ∧ V' 6 = V 6 + e.2.2 ∧ (e.2.1 = 0 → V' 4 = e.1) ∧ ∀ j, j ≠ 3 → j ≠ 4 → j ≠ 5 → j ≠ 6 → V' j = V j
def pW (k : Kt) (ad : Nat → Nat) (G : Nat → Nat → Int32) (V : Nat → Int32) (e : Int32 × Int32 × Int32) : Option Value → va_W → Prop := fun v w' => v = none ∧ ∃ (G' : Nat → Nat → Int32) (V' : Nat → Int32), w' = WM k ad G' V' ∧ agS 0 G G' ∧ rsW V V' e
set_option maxHeartbeats 800000 in
theorem c_work {l : Launch} {k : Kt} {ad : Nat → Nat} {G : Nat → Nat → Int32} {V : Nat → Int32} {nf r j : Nat} (hnf : nf ≤ 40) (hW : FW (G 4) (G 5) (G 6) nf) {f at9 : Int32} (hr : at9 = nI r) (hrn : r + 6 ≤ 36000) (hf : f = nI j) (hj : j < nf) (h5 : V 5 = 0) :
    CT l k yX6_work cX6_work 3 none 3 [.ref (ad 0), .int f, .int at9] (WM k ad G V) (pW k ad G V (evS (G 4) (G 5) (G 6) (G 3) (fun m => G 20 (r + m)) 40 f)) 0 0 := by
  refine ct_of (own := RX6) (lv0 := [(0, .ref (ad 0)), (1, .int f), (2, .int at9)]) (by decide) rfl (Nat.le_of_ble_eq_true rfl) rfl ?_
  rintro z rfl rfl hz - E T
  refine p_work E T hz (Nat.le_refl 3) f at9 ?_
  have e0 : ix ((upd V 3 0) 3) = 0 := rfl
  have eG : fX6_begins_G G (upd V 3 0) f = ug (ug G 17 0 f) 18 0 0 := rfl
  have a : agS 0 G (ug (ug G 17 0 f) 18 0 0) := (agS.put (by omega) (Nat.le_refl 0)).tr (agS.put (by omega) (Nat.le_refl 0)) (Nat.le_refl 0)
  rw [eG]
  refine vis_work E T hz (Nat.le_refl 3) f at9 hnf hW hr hrn 40 _ _ f j 0 (V 6) (a.1 4 (by decide) (by decide) (by decide)) (a.1 5 (by decide) (by decide) (by decide)) (a.1 6 (by decide) (by decide) (by decide)) (a.1 3 (by decide) (by decide) (by decide)) (a.1 20 (by decide) (by decide) (by decide)) hf hj (by omega) (by omega) rfl h5 rfl (by rw [ug_p (by decide), ug_same]) (by rw [ug_same]) ?_
  intro G' V' ag rs
  refine x_work E T hz f at9 ?_ ⟨rfl, G', V', rfl, a.tr ag (Nat.le_refl 0), rs.1, rs.2.1, fun e => (rs.2.2.1 e).2, fun j p q r s => (rs.2.2.2 j p q r s).trans ?_⟩
  · by_cases e : (evS (G 4) (G 5) (G 6) (G 3) (fun m => G 20 (r + m)) 40 f).2.1 = 0
    · left; rw [(rs.2.2.1 e).1]; decide
    · right; rw [rs.1]; exact e
  · show (upd (upd (upd V 3 0) 3 _) 6 _) j = V j
    simp only [upd, if_neg p, if_neg s]
