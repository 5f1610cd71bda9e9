theorem r_nGM {z : Zt} {cells slots pc : Nat} {k : Kt} {ad : Nat → Nat} {G' : Nat → Nat → Int32} {V : Nat → Int32} {lv : Lv} {st : List Value} (h : ∀ G1 : Nat → Nat → Int32, G1 = G' → WW z cells slots (WM k ad G1 V) pc lv st) : WW z cells slots (WM k ad G' V) pc lv st := h G' rfl
theorem r_nGC {z : Zt} {cells slots pc n : Nat} {k : Kt} {ad : Nat → Nat} {G' : Nat → Nat → Int32} {V : Nat → Int32} {lv : Lv} {st : List Value} (h : ∀ G1 : Nat → Nat → Int32, G1 = G' → WW z cells slots (WC k ad G1 V n) pc lv st) : WW z cells slots (WC k ad G' V n) pc lv st := h G' rfl
def sm6 (G : Nat → Nat → Int32) (x i at9 : Int32) : Int32 := if (if (if (if (if (if G 20 (ix ((fX6_place x i) + 0)) = G 20 (ix (at9 + 0)) then 1 else 0 : Int32) = 0 then 0 else (if G 20 (ix ((fX6_place x i) + 1)) = G 20 (ix (at9 + 1)) then 1 else 0) : Int32) = 0 then 0 else (if G 20 (ix ((fX6_place x i) + 2)) = G 20 (ix (at9 + 2)) then 1 else 0) : Int32) = 0 then 0 else (if G 20 (ix ((fX6_place x i) + 3)) = G 20 (ix (at9 + 3)) then 1 else 0) : Int32) = 0 then 0 else (if G 20 (ix ((fX6_place x i) + 4)) = G 20 (ix (at9 + 4)) then 1 else 0) : Int32) = 0 then 0 else (if G 20 (ix ((fX6_place x i) + 5)) = G 20 (ix (at9 + 5)) then 1 else 0)
set_option maxHeartbeats 800000 in
theorem sm6_iff {G : Nat → Nat → Int32} {x i at9 : Int32} {p a : Nat} (hp : fX6_place x i = nI p) (ha : at9 = nI a) (hp6 : p + 6 ≤ 36000) (ha6 : a + 6 ≤ 36000) : (rd (G 20) p = rd (G 20) a → ¬ sm6 G x i at9 = 0) ∧ (¬ rd (G 20) p = rd (G 20) a → sm6 G x i at9 = 0) := by
  have A : ∀ (w : Int32) (c m : Nat), w = nI c → c + 6 ≤ 36000 → m < 6 → ix (w + nI m) = c + m := fun w c m h1 h2 h3 => by rw [h1]; exact nIadd (by omega)
  have x0 : ix (fX6_place x i + 0) = p + 0 := A _ p 0 hp hp6 (by omega)
  have x1 : ix (fX6_place x i + 1) = p + 1 := A _ p 1 hp hp6 (by omega)
  have x2 : ix (fX6_place x i + 2) = p + 2 := A _ p 2 hp hp6 (by omega)
  have x3 : ix (fX6_place x i + 3) = p + 3 := A _ p 3 hp hp6 (by omega)
  have x4 : ix (fX6_place x i + 4) = p + 4 := A _ p 4 hp hp6 (by omega)
  have x5 : ix (fX6_place x i + 5) = p + 5 := A _ p 5 hp hp6 (by omega)
  have y0 : ix (at9 + 0) = a + 0 := A _ a 0 ha ha6 (by omega)
  have y1 : ix (at9 + 1) = a + 1 := A _ a 1 ha ha6 (by omega)
  have y2 : ix (at9 + 2) = a + 2 := A _ a 2 ha ha6 (by omega)
  have y3 : ix (at9 + 3) = a + 3 := A _ a 3 ha ha6 (by omega)
  have y4 : ix (at9 + 4) = a + 4 := A _ a 4 ha ha6 (by omega)
  have y5 : ix (at9 + 5) = a + 5 := A _ a 5 ha ha6 (by omega)
  unfold sm6 rd
  rw [x0, x1, x2, x3, x4, x5, y0, y1, y2, y3, y4, y5]
  simp only [Nat.add_zero, List.cons.injEq, and_true]
  by_cases h0 : G 20 p = G 20 a
  · by_cases h1 : G 20 (p + 1) = G 20 (a + 1)
    · by_cases h2 : G 20 (p + 2) = G 20 (a + 2)
      · by_cases h3 : G 20 (p + 3) = G 20 (a + 3)
        · by_cases h4 : G 20 (p + 4) = G 20 (a + 4)
          · by_cases h5 : G 20 (p + 5) = G 20 (a + 5) <;> simp [h0, h1, h2, h3, h4, h5]
          · simp [h0, h1, h2, h3, h4]
        · simp [h0, h1, h2, h3]
      · simp [h0, h1, h2]
    · simp [h0, h1]
  · simp [h0]
set_option maxRecDepth 100000 in
set_option maxHeartbeats 800000 in
theorem s_has {z : Zt} (E : EN z cX6_has RX6) {w0 : va_W} {P : Option Value → va_W → Prop} {lvl : Nat} (T : RT z (some .boolean) lvl w0 P 0 0) (hz : zn z = 6) {ad : Nat → Nat} {G : Nat → Nat → Int32} {V : Nat → Int32} (hlv : 1 ≤ lvl) (x at9 i : Int32) (hx : vp_in x 60) (h_at9 : ∃ a : Nat, at9 = nI a ∧ a + 6 ≤ 36000 ∧ 36000 < 2 ^ 31) (h_pl0 : ¬ G 21 (ix x) ≤ i → ∃ a : Nat, fX6_place x i = nI a ∧ a + 6 ≤ 36000 ∧ 36000 < 2 ^ 31) (h0 : G 21 (ix x) ≤ i → P (some (.int 0)) (WM (zk z) ad G V)) (h1 : ¬ G 21 (ix x) ≤ i → ¬ sm6 G x i at9 = 0 → P (some (.int 1)) (WM (zk z) ad G V)) (k_2 : ¬ G 21 (ix x) ≤ i → sm6 G x i at9 = 0 → WW z 0 0 (WM (zk z) ad G V) 2 [(0, .ref (ad 0)), (1, .int x), (2, .int at9), (3, .int (i + 1))] []) :
    WW z 0 0 (WM (zk z) ad G V) 2 [(0, .ref (ad 0)), (1, .int x), (2, .int at9), (3, .int i)] [] := by
  refine r_iload_n E (q := 3) 3 dX6_has_2 rfl rfl rfl ?_
  refine r_aload_n E (q := 4) 0 dX6_has_3 rfl rfl rfl ?_
  refine r_get E (q := 7) fX6_72 0 wm_0 rfl dX6_has_4 rfl ?_
  refine r_iload_n E (q := 8) 1 dX6_has_7 rfl rfl rfl ?_
  refine r_iald E (q := 9) 21 wm_21 hx dX6_has_8 rfl ?_
  refine r_icmp_ge E (q := 12) 81 dX6_has_9 (by decide) rfl (fun c1 => ?_) (fun c1 => ?_)
  · refine r_iconst E (q := 82) (v := 0) dX6_has_81 (by decide) rfl ?_
    exact r_zret E T (Or.inl rfl) dX6_has_82 (h0 c1)
  · have h_pl := h_pl0 (by assumption)
    refine r_iconst E (q := 13) (v := 1) dX6_has_12 (by decide) rfl ?_
    refine r_istore E (q := 15) (lv' := [(0, .ref (ad 0)), (1, .int x), (2, .int at9), (3, .int i), (4, .int 1)]) [1, 2, 3, 4, 0] dX6_has_13 (by rw [hz]; decide) rfl rfl ?_
    refine r_iconst E (q := 16) (v := 0) dX6_has_15 (by decide) rfl ?_
    refine r_istore E (q := 18) (lv' := [(0, .ref (ad 0)), (1, .int x), (2, .int at9), (3, .int i), (4, .int 1), (5, .int 0)]) [1, 2, 3, 4, 5, 0] dX6_has_16 (by rw [hz]; decide) rfl rfl ?_
    refine r_iload E (q := 20) 5 dX6_has_18 rfl rfl ?_
    refine r_bipush E (q := 22) (v := 6) dX6_has_20 (by decide) rfl ?_
    refine r_icmp_ge E (q := 25) 68 dX6_has_22 (by decide) rfl (fun c2 => absurd c2 (by decide)) (fun _ => ?_)
    refine r_iload E (q := 27) 4 dX6_has_25 rfl rfl ?_
    refine r_if_eq E (q := 30) 59 dX6_has_27 (by decide) rfl (fun c3 => absurd c3 (by decide)) (fun _ => ?_)
    refine r_aload_n E (q := 31) 0 dX6_has_30 rfl rfl rfl ?_
    refine r_get E (q := 34) fX6_69 0 wm_0 rfl dX6_has_31 rfl ?_
    refine r_iload_n E (q := 35) 1 dX6_has_34 rfl rfl rfl ?_
    refine r_iload_n E (q := 36) 3 dX6_has_35 rfl rfl rfl ?_
    refine rSi E (q := 39) csX6_196 T.rr [.int x, .int i] (c_X6_place x i) (by omega) rfl rfl (Nat.le_of_ble_eq_true rfl) ⟨Nat.zero_le _, Nat.zero_le _⟩ dX6_has_36 rfl ?_
    refine r_iload E (q := 41) 5 dX6_has_39 rfl rfl ?_
    refine r_iadd E (q := 42) dX6_has_41 rfl ?_
    refine r_iald E (q := 43) 20 wm_20 (off_in (m := 0) h_pl (by omega)) dX6_has_42 rfl ?_
    refine r_aload_n E (q := 44) 0 dX6_has_43 rfl rfl rfl ?_
    refine r_get E (q := 47) fX6_69 0 wm_0 rfl dX6_has_44 rfl ?_
    refine r_iload_n E (q := 48) 2 dX6_has_47 rfl rfl rfl ?_
    refine r_iload E (q := 50) 5 dX6_has_48 rfl rfl ?_
    refine r_iadd E (q := 51) dX6_has_50 rfl ?_
    refine r_iald E (q := 52) 20 wm_20 (off_in (m := 0) h_at9 (by omega)) dX6_has_51 rfl ?_
    refine r_join 60 (if G 20 (ix ((fX6_place x i) + 0)) = G 20 (ix (at9 + 0)) then 1 else 0) (rest := []) ?_ (fun hj1 => ?_)
    · refine r_istore E (q := 62) (lv' := [(0, .ref (ad 0)), (1, .int x), (2, .int at9), (3, .int i), (4, .int (if G 20 (ix ((fX6_place x i) + 0)) = G 20 (ix (at9 + 0)) then 1 else 0)), (5, .int 0)]) [1, 2, 3, 4, 0, 5] dX6_has_60 (by rw [hz]; decide) rfl rfl ?_
      refine r_iinc E (q := 65) (v := 1) (lv' := [(0, .ref (ad 0)), (1, .int x), (2, .int at9), (3, .int i), (4, .int (if G 20 (ix ((fX6_place x i) + 0)) = G 20 (ix (at9 + 0)) then 1 else 0)), (5, .int 1)]) 5 [1, 2, 3, 4, 5, 0] dX6_has_62 rfl (by rfl) (by rw [hz]; decide) rfl rfl ?_
      refine r_goto E 18 dX6_has_65 (by decide) ?_
      refine r_iload E (q := 20) 5 dX6_has_18 rfl rfl ?_
      refine r_bipush E (q := 22) (v := 6) dX6_has_20 (by decide) rfl ?_
      refine r_icmp_ge E (q := 25) 68 dX6_has_22 (by decide) rfl (fun c5 => absurd c5 (by decide)) (fun _ => ?_)
      refine r_iload E (q := 27) 4 dX6_has_25 rfl rfl ?_
      refine r_join 60 (if (if G 20 (ix ((fX6_place x i) + 0)) = G 20 (ix (at9 + 0)) then 1 else 0 : Int32) = 0 then 0 else (if G 20 (ix ((fX6_place x i) + 1)) = G 20 (ix (at9 + 1)) then 1 else 0)) (rest := []) ?_ (fun hj2 => ?_)
      · refine r_istore E (q := 62) (lv' := [(0, .ref (ad 0)), (1, .int x), (2, .int at9), (3, .int i), (4, .int (if (if G 20 (ix ((fX6_place x i) + 0)) = G 20 (ix (at9 + 0)) then 1 else 0 : Int32) = 0 then 0 else (if G 20 (ix ((fX6_place x i) + 1)) = G 20 (ix (at9 + 1)) then 1 else 0))), (5, .int 1)]) [1, 2, 3, 4, 0, 5] dX6_has_60 (by rw [hz]; decide) rfl rfl ?_
        refine r_iinc E (q := 65) (v := 2) (lv' := [(0, .ref (ad 0)), (1, .int x), (2, .int at9), (3, .int i), (4, .int (if (if G 20 (ix ((fX6_place x i) + 0)) = G 20 (ix (at9 + 0)) then 1 else 0 : Int32) = 0 then 0 else (if G 20 (ix ((fX6_place x i) + 1)) = G 20 (ix (at9 + 1)) then 1 else 0))), (5, .int 2)]) 5 [1, 2, 3, 4, 5, 0] dX6_has_62 rfl (by rfl) (by rw [hz]; decide) rfl rfl ?_
        refine r_goto E 18 dX6_has_65 (by decide) ?_
        refine r_iload E (q := 20) 5 dX6_has_18 rfl rfl ?_
        refine r_bipush E (q := 22) (v := 6) dX6_has_20 (by decide) rfl ?_
        refine r_icmp_ge E (q := 25) 68 dX6_has_22 (by decide) rfl (fun c8 => absurd c8 (by decide)) (fun _ => ?_)
        refine r_iload E (q := 27) 4 dX6_has_25 rfl rfl ?_
        refine r_join 60 (if (if (if G 20 (ix ((fX6_place x i) + 0)) = G 20 (ix (at9 + 0)) then 1 else 0 : Int32) = 0 then 0 else (if G 20 (ix ((fX6_place x i) + 1)) = G 20 (ix (at9 + 1)) then 1 else 0) : Int32) = 0 then 0 else (if G 20 (ix ((fX6_place x i) + 2)) = G 20 (ix (at9 + 2)) then 1 else 0)) (rest := []) ?_ (fun hj3 => ?_)
        · refine r_istore E (q := 62) (lv' := [(0, .ref (ad 0)), (1, .int x), (2, .int at9), (3, .int i), (4, .int (if (if (if G 20 (ix ((fX6_place x i) + 0)) = G 20 (ix (at9 + 0)) then 1 else 0 : Int32) = 0 then 0 else (if G 20 (ix ((fX6_place x i) + 1)) = G 20 (ix (at9 + 1)) then 1 else 0) : Int32) = 0 then 0 else (if G 20 (ix ((fX6_place x i) + 2)) = G 20 (ix (at9 + 2)) then 1 else 0))), (5, .int 2)]) [1, 2, 3, 4, 0, 5] dX6_has_60 (by rw [hz]; decide) rfl rfl ?_
          refine r_iinc E (q := 65) (v := 3) (lv' := [(0, .ref (ad 0)), (1, .int x), (2, .int at9), (3, .int i), (4, .int (if (if (if G 20 (ix ((fX6_place x i) + 0)) = G 20 (ix (at9 + 0)) then 1 else 0 : Int32) = 0 then 0 else (if G 20 (ix ((fX6_place x i) + 1)) = G 20 (ix (at9 + 1)) then 1 else 0) : Int32) = 0 then 0 else (if G 20 (ix ((fX6_place x i) + 2)) = G 20 (ix (at9 + 2)) then 1 else 0))), (5, .int 3)]) 5 [1, 2, 3, 4, 5, 0] dX6_has_62 rfl (by rfl) (by rw [hz]; decide) rfl rfl ?_
          refine r_goto E 18 dX6_has_65 (by decide) ?_
          refine r_iload E (q := 20) 5 dX6_has_18 rfl rfl ?_
          refine r_bipush E (q := 22) (v := 6) dX6_has_20 (by decide) rfl ?_
          refine r_icmp_ge E (q := 25) 68 dX6_has_22 (by decide) rfl (fun c11 => absurd c11 (by decide)) (fun _ => ?_)
          refine r_iload E (q := 27) 4 dX6_has_25 rfl rfl ?_
          refine r_join 60 (if (if (if (if G 20 (ix ((fX6_place x i) + 0)) = G 20 (ix (at9 + 0)) then 1 else 0 : Int32) = 0 then 0 else (if G 20 (ix ((fX6_place x i) + 1)) = G 20 (ix (at9 + 1)) then 1 else 0) : Int32) = 0 then 0 else (if G 20 (ix ((fX6_place x i) + 2)) = G 20 (ix (at9 + 2)) then 1 else 0) : Int32) = 0 then 0 else (if G 20 (ix ((fX6_place x i) + 3)) = G 20 (ix (at9 + 3)) then 1 else 0)) (rest := []) ?_ (fun hj4 => ?_)
          · refine r_istore E (q := 62) (lv' := [(0, .ref (ad 0)), (1, .int x), (2, .int at9), (3, .int i), (4, .int (if (if (if (if G 20 (ix ((fX6_place x i) + 0)) = G 20 (ix (at9 + 0)) then 1 else 0 : Int32) = 0 then 0 else (if G 20 (ix ((fX6_place x i) + 1)) = G 20 (ix (at9 + 1)) then 1 else 0) : Int32) = 0 then 0 else (if G 20 (ix ((fX6_place x i) + 2)) = G 20 (ix (at9 + 2)) then 1 else 0) : Int32) = 0 then 0 else (if G 20 (ix ((fX6_place x i) + 3)) = G 20 (ix (at9 + 3)) then 1 else 0))), (5, .int 3)]) [1, 2, 3, 4, 0, 5] dX6_has_60 (by rw [hz]; decide) rfl rfl ?_
            refine r_iinc E (q := 65) (v := 4) (lv' := [(0, .ref (ad 0)), (1, .int x), (2, .int at9), (3, .int i), (4, .int (if (if (if (if G 20 (ix ((fX6_place x i) + 0)) = G 20 (ix (at9 + 0)) then 1 else 0 : Int32) = 0 then 0 else (if G 20 (ix ((fX6_place x i) + 1)) = G 20 (ix (at9 + 1)) then 1 else 0) : Int32) = 0 then 0 else (if G 20 (ix ((fX6_place x i) + 2)) = G 20 (ix (at9 + 2)) then 1 else 0) : Int32) = 0 then 0 else (if G 20 (ix ((fX6_place x i) + 3)) = G 20 (ix (at9 + 3)) then 1 else 0))), (5, .int 4)]) 5 [1, 2, 3, 4, 5, 0] dX6_has_62 rfl (by rfl) (by rw [hz]; decide) rfl rfl ?_
            refine r_goto E 18 dX6_has_65 (by decide) ?_
            refine r_iload E (q := 20) 5 dX6_has_18 rfl rfl ?_
            refine r_bipush E (q := 22) (v := 6) dX6_has_20 (by decide) rfl ?_
            refine r_icmp_ge E (q := 25) 68 dX6_has_22 (by decide) rfl (fun c14 => absurd c14 (by decide)) (fun _ => ?_)
            refine r_iload E (q := 27) 4 dX6_has_25 rfl rfl ?_
            refine r_join 60 (if (if (if (if (if G 20 (ix ((fX6_place x i) + 0)) = G 20 (ix (at9 + 0)) then 1 else 0 : Int32) = 0 then 0 else (if G 20 (ix ((fX6_place x i) + 1)) = G 20 (ix (at9 + 1)) then 1 else 0) : Int32) = 0 then 0 else (if G 20 (ix ((fX6_place x i) + 2)) = G 20 (ix (at9 + 2)) then 1 else 0) : Int32) = 0 then 0 else (if G 20 (ix ((fX6_place x i) + 3)) = G 20 (ix (at9 + 3)) then 1 else 0) : Int32) = 0 then 0 else (if G 20 (ix ((fX6_place x i) + 4)) = G 20 (ix (at9 + 4)) then 1 else 0)) (rest := []) ?_ (fun hj5 => ?_)
            · refine r_istore E (q := 62) (lv' := [(0, .ref (ad 0)), (1, .int x), (2, .int at9), (3, .int i), (4, .int (if (if (if (if (if G 20 (ix ((fX6_place x i) + 0)) = G 20 (ix (at9 + 0)) then 1 else 0 : Int32) = 0 then 0 else (if G 20 (ix ((fX6_place x i) + 1)) = G 20 (ix (at9 + 1)) then 1 else 0) : Int32) = 0 then 0 else (if G 20 (ix ((fX6_place x i) + 2)) = G 20 (ix (at9 + 2)) then 1 else 0) : Int32) = 0 then 0 else (if G 20 (ix ((fX6_place x i) + 3)) = G 20 (ix (at9 + 3)) then 1 else 0) : Int32) = 0 then 0 else (if G 20 (ix ((fX6_place x i) + 4)) = G 20 (ix (at9 + 4)) then 1 else 0))), (5, .int 4)]) [1, 2, 3, 4, 0, 5] dX6_has_60 (by rw [hz]; decide) rfl rfl ?_
              refine r_iinc E (q := 65) (v := 5) (lv' := [(0, .ref (ad 0)), (1, .int x), (2, .int at9), (3, .int i), (4, .int (if (if (if (if (if G 20 (ix ((fX6_place x i) + 0)) = G 20 (ix (at9 + 0)) then 1 else 0 : Int32) = 0 then 0 else (if G 20 (ix ((fX6_place x i) + 1)) = G 20 (ix (at9 + 1)) then 1 else 0) : Int32) = 0 then 0 else (if G 20 (ix ((fX6_place x i) + 2)) = G 20 (ix (at9 + 2)) then 1 else 0) : Int32) = 0 then 0 else (if G 20 (ix ((fX6_place x i) + 3)) = G 20 (ix (at9 + 3)) then 1 else 0) : Int32) = 0 then 0 else (if G 20 (ix ((fX6_place x i) + 4)) = G 20 (ix (at9 + 4)) then 1 else 0))), (5, .int 5)]) 5 [1, 2, 3, 4, 5, 0] dX6_has_62 rfl (by rfl) (by rw [hz]; decide) rfl rfl ?_
              refine r_goto E 18 dX6_has_65 (by decide) ?_
              refine r_iload E (q := 20) 5 dX6_has_18 rfl rfl ?_
              refine r_bipush E (q := 22) (v := 6) dX6_has_20 (by decide) rfl ?_
              refine r_icmp_ge E (q := 25) 68 dX6_has_22 (by decide) rfl (fun c17 => absurd c17 (by decide)) (fun _ => ?_)
              refine r_iload E (q := 27) 4 dX6_has_25 rfl rfl ?_
              refine r_join 60 (if (if (if (if (if (if G 20 (ix ((fX6_place x i) + 0)) = G 20 (ix (at9 + 0)) then 1 else 0 : Int32) = 0 then 0 else (if G 20 (ix ((fX6_place x i) + 1)) = G 20 (ix (at9 + 1)) then 1 else 0) : Int32) = 0 then 0 else (if G 20 (ix ((fX6_place x i) + 2)) = G 20 (ix (at9 + 2)) then 1 else 0) : Int32) = 0 then 0 else (if G 20 (ix ((fX6_place x i) + 3)) = G 20 (ix (at9 + 3)) then 1 else 0) : Int32) = 0 then 0 else (if G 20 (ix ((fX6_place x i) + 4)) = G 20 (ix (at9 + 4)) then 1 else 0) : Int32) = 0 then 0 else (if G 20 (ix ((fX6_place x i) + 5)) = G 20 (ix (at9 + 5)) then 1 else 0)) (rest := []) ?_ (fun hj6 => ?_)
              · refine r_istore E (q := 62) (lv' := [(0, .ref (ad 0)), (1, .int x), (2, .int at9), (3, .int i), (4, .int (if (if (if (if (if (if G 20 (ix ((fX6_place x i) + 0)) = G 20 (ix (at9 + 0)) then 1 else 0 : Int32) = 0 then 0 else (if G 20 (ix ((fX6_place x i) + 1)) = G 20 (ix (at9 + 1)) then 1 else 0) : Int32) = 0 then 0 else (if G 20 (ix ((fX6_place x i) + 2)) = G 20 (ix (at9 + 2)) then 1 else 0) : Int32) = 0 then 0 else (if G 20 (ix ((fX6_place x i) + 3)) = G 20 (ix (at9 + 3)) then 1 else 0) : Int32) = 0 then 0 else (if G 20 (ix ((fX6_place x i) + 4)) = G 20 (ix (at9 + 4)) then 1 else 0) : Int32) = 0 then 0 else (if G 20 (ix ((fX6_place x i) + 5)) = G 20 (ix (at9 + 5)) then 1 else 0))), (5, .int 5)]) [1, 2, 3, 4, 0, 5] dX6_has_60 (by rw [hz]; decide) rfl rfl ?_
                refine r_iinc E (q := 65) (v := 6) (lv' := [(0, .ref (ad 0)), (1, .int x), (2, .int at9), (3, .int i), (4, .int (if (if (if (if (if (if G 20 (ix ((fX6_place x i) + 0)) = G 20 (ix (at9 + 0)) then 1 else 0 : Int32) = 0 then 0 else (if G 20 (ix ((fX6_place x i) + 1)) = G 20 (ix (at9 + 1)) then 1 else 0) : Int32) = 0 then 0 else (if G 20 (ix ((fX6_place x i) + 2)) = G 20 (ix (at9 + 2)) then 1 else 0) : Int32) = 0 then 0 else (if G 20 (ix ((fX6_place x i) + 3)) = G 20 (ix (at9 + 3)) then 1 else 0) : Int32) = 0 then 0 else (if G 20 (ix ((fX6_place x i) + 4)) = G 20 (ix (at9 + 4)) then 1 else 0) : Int32) = 0 then 0 else (if G 20 (ix ((fX6_place x i) + 5)) = G 20 (ix (at9 + 5)) then 1 else 0))), (5, .int 6)]) 5 [1, 2, 3, 4, 5, 0] dX6_has_62 rfl (by rfl) (by rw [hz]; decide) rfl rfl ?_
                refine r_goto E 18 dX6_has_65 (by decide) ?_
                refine r_iload E (q := 20) 5 dX6_has_18 rfl rfl ?_
                refine r_bipush E (q := 22) (v := 6) dX6_has_20 (by decide) rfl ?_
                refine r_icmp_ge E (q := 25) 68 dX6_has_22 (by decide) rfl (fun _ => ?_) (fun c20 => absurd c20 (by decide))
                refine r_iload E (q := 70) 4 dX6_has_68 rfl rfl ?_
                refine r_if_eq E (q := 73) 75 dX6_has_70 (by decide) rfl (fun c21 => ?_) (fun c21 => ?_)
                · refine r_iinc E (q := 78) (v := i + 1) (lv' := [(0, .ref (ad 0)), (1, .int x), (2, .int at9), (3, .int (i + 1)), (4, .int (if (if (if (if (if (if G 20 (ix ((fX6_place x i) + 0)) = G 20 (ix (at9 + 0)) then 1 else 0 : Int32) = 0 then 0 else (if G 20 (ix ((fX6_place x i) + 1)) = G 20 (ix (at9 + 1)) then 1 else 0) : Int32) = 0 then 0 else (if G 20 (ix ((fX6_place x i) + 2)) = G 20 (ix (at9 + 2)) then 1 else 0) : Int32) = 0 then 0 else (if G 20 (ix ((fX6_place x i) + 3)) = G 20 (ix (at9 + 3)) then 1 else 0) : Int32) = 0 then 0 else (if G 20 (ix ((fX6_place x i) + 4)) = G 20 (ix (at9 + 4)) then 1 else 0) : Int32) = 0 then 0 else (if G 20 (ix ((fX6_place x i) + 5)) = G 20 (ix (at9 + 5)) then 1 else 0))), (5, .int 6)]) 3 [1, 2, 3, 0, 4, 5] dX6_has_75 rfl (by rfl) (by rw [hz]; decide) rfl rfl ?_
                  refine r_goto E 2 dX6_has_78 (by decide) ?_
                  refine r_sub [0, 1, 2, 3] rfl ?_
                  exact k_2 c1 c21
                · refine r_iconst E (q := 74) (v := 1) dX6_has_73 (by decide) rfl ?_
                  exact r_zret E T (Or.inr rfl) dX6_has_74 (h1 c1 c21)
              · refine r_if_eq E (q := 30) 59 dX6_has_27 (by decide) rfl (fun c18 => ?_) (fun c18 => ?_)
                · refine r_iconst E (q := 60) (v := 0) dX6_has_59 (by decide) rfl ?_
                  exact hj6 _ (if_pos c18).symm
                · refine r_aload_n E (q := 31) 0 dX6_has_30 rfl rfl rfl ?_
                  refine r_get E (q := 34) fX6_69 0 wm_0 rfl dX6_has_31 rfl ?_
                  refine r_iload_n E (q := 35) 1 dX6_has_34 rfl rfl rfl ?_
                  refine r_iload_n E (q := 36) 3 dX6_has_35 rfl rfl rfl ?_
                  refine rSi E (q := 39) csX6_196 T.rr [.int x, .int i] (c_X6_place x i) (by omega) rfl rfl (Nat.le_of_ble_eq_true rfl) ⟨Nat.zero_le _, Nat.zero_le _⟩ dX6_has_36 rfl ?_
                  refine r_iload E (q := 41) 5 dX6_has_39 rfl rfl ?_
                  refine r_iadd E (q := 42) dX6_has_41 rfl ?_
                  refine r_iald E (q := 43) 20 wm_20 (off_in (m := 5) h_pl (by omega)) dX6_has_42 rfl ?_
                  refine r_aload_n E (q := 44) 0 dX6_has_43 rfl rfl rfl ?_
                  refine r_get E (q := 47) fX6_69 0 wm_0 rfl dX6_has_44 rfl ?_
                  refine r_iload_n E (q := 48) 2 dX6_has_47 rfl rfl rfl ?_
                  refine r_iload E (q := 50) 5 dX6_has_48 rfl rfl ?_
                  refine r_iadd E (q := 51) dX6_has_50 rfl ?_
                  refine r_iald E (q := 52) 20 wm_20 (off_in (m := 5) h_at9 (by omega)) dX6_has_51 rfl ?_
                  refine r_icmp_ne E (q := 55) 59 dX6_has_52 (by decide) rfl (fun c19 => ?_) (fun c19 => ?_)
                  · refine r_iconst E (q := 60) (v := 0) dX6_has_59 (by decide) rfl ?_
                    exact hj6 _ ((if_neg c18).trans (if_neg c19)).symm
                  · refine r_iconst E (q := 56) (v := 1) dX6_has_55 (by decide) rfl ?_
                    refine r_goto E 60 dX6_has_56 (by decide) ?_
                    exact hj6 _ ((if_neg c18).trans (if_pos c19)).symm
            · refine r_if_eq E (q := 30) 59 dX6_has_27 (by decide) rfl (fun c15 => ?_) (fun c15 => ?_)
              · refine r_iconst E (q := 60) (v := 0) dX6_has_59 (by decide) rfl ?_
                exact hj5 _ (if_pos c15).symm
              · refine r_aload_n E (q := 31) 0 dX6_has_30 rfl rfl rfl ?_
                refine r_get E (q := 34) fX6_69 0 wm_0 rfl dX6_has_31 rfl ?_
                refine r_iload_n E (q := 35) 1 dX6_has_34 rfl rfl rfl ?_
                refine r_iload_n E (q := 36) 3 dX6_has_35 rfl rfl rfl ?_
                refine rSi E (q := 39) csX6_196 T.rr [.int x, .int i] (c_X6_place x i) (by omega) rfl rfl (Nat.le_of_ble_eq_true rfl) ⟨Nat.zero_le _, Nat.zero_le _⟩ dX6_has_36 rfl ?_
                refine r_iload E (q := 41) 5 dX6_has_39 rfl rfl ?_
                refine r_iadd E (q := 42) dX6_has_41 rfl ?_
                refine r_iald E (q := 43) 20 wm_20 (off_in (m := 4) h_pl (by omega)) dX6_has_42 rfl ?_
                refine r_aload_n E (q := 44) 0 dX6_has_43 rfl rfl rfl ?_
                refine r_get E (q := 47) fX6_69 0 wm_0 rfl dX6_has_44 rfl ?_
                refine r_iload_n E (q := 48) 2 dX6_has_47 rfl rfl rfl ?_
                refine r_iload E (q := 50) 5 dX6_has_48 rfl rfl ?_
                refine r_iadd E (q := 51) dX6_has_50 rfl ?_
                refine r_iald E (q := 52) 20 wm_20 (off_in (m := 4) h_at9 (by omega)) dX6_has_51 rfl ?_
                refine r_icmp_ne E (q := 55) 59 dX6_has_52 (by decide) rfl (fun c16 => ?_) (fun c16 => ?_)
                · refine r_iconst E (q := 60) (v := 0) dX6_has_59 (by decide) rfl ?_
                  exact hj5 _ ((if_neg c15).trans (if_neg c16)).symm
                · refine r_iconst E (q := 56) (v := 1) dX6_has_55 (by decide) rfl ?_
                  refine r_goto E 60 dX6_has_56 (by decide) ?_
                  exact hj5 _ ((if_neg c15).trans (if_pos c16)).symm
          · refine r_if_eq E (q := 30) 59 dX6_has_27 (by decide) rfl (fun c12 => ?_) (fun c12 => ?_)
            · refine r_iconst E (q := 60) (v := 0) dX6_has_59 (by decide) rfl ?_
              exact hj4 _ (if_pos c12).symm
            · refine r_aload_n E (q := 31) 0 dX6_has_30 rfl rfl rfl ?_
              refine r_get E (q := 34) fX6_69 0 wm_0 rfl dX6_has_31 rfl ?_
              refine r_iload_n E (q := 35) 1 dX6_has_34 rfl rfl rfl ?_
              refine r_iload_n E (q := 36) 3 dX6_has_35 rfl rfl rfl ?_
              refine rSi E (q := 39) csX6_196 T.rr [.int x, .int i] (c_X6_place x i) (by omega) rfl rfl (Nat.le_of_ble_eq_true rfl) ⟨Nat.zero_le _, Nat.zero_le _⟩ dX6_has_36 rfl ?_
              refine r_iload E (q := 41) 5 dX6_has_39 rfl rfl ?_
              refine r_iadd E (q := 42) dX6_has_41 rfl ?_
              refine r_iald E (q := 43) 20 wm_20 (off_in (m := 3) h_pl (by omega)) dX6_has_42 rfl ?_
              refine r_aload_n E (q := 44) 0 dX6_has_43 rfl rfl rfl ?_
              refine r_get E (q := 47) fX6_69 0 wm_0 rfl dX6_has_44 rfl ?_
              refine r_iload_n E (q := 48) 2 dX6_has_47 rfl rfl rfl ?_
              refine r_iload E (q := 50) 5 dX6_has_48 rfl rfl ?_
              refine r_iadd E (q := 51) dX6_has_50 rfl ?_
              refine r_iald E (q := 52) 20 wm_20 (off_in (m := 3) h_at9 (by omega)) dX6_has_51 rfl ?_
              refine r_icmp_ne E (q := 55) 59 dX6_has_52 (by decide) rfl (fun c13 => ?_) (fun c13 => ?_)
              · refine r_iconst E (q := 60) (v := 0) dX6_has_59 (by decide) rfl ?_
                exact hj4 _ ((if_neg c12).trans (if_neg c13)).symm
              · refine r_iconst E (q := 56) (v := 1) dX6_has_55 (by decide) rfl ?_
                refine r_goto E 60 dX6_has_56 (by decide) ?_
                exact hj4 _ ((if_neg c12).trans (if_pos c13)).symm
        · refine r_if_eq E (q := 30) 59 dX6_has_27 (by decide) rfl (fun c9 => ?_) (fun c9 => ?_)
          · refine r_iconst E (q := 60) (v := 0) dX6_has_59 (by decide) rfl ?_
            exact hj3 _ (if_pos c9).symm
          · refine r_aload_n E (q := 31) 0 dX6_has_30 rfl rfl rfl ?_
            refine r_get E (q := 34) fX6_69 0 wm_0 rfl dX6_has_31 rfl ?_
            refine r_iload_n E (q := 35) 1 dX6_has_34 rfl rfl rfl ?_
            refine r_iload_n E (q := 36) 3 dX6_has_35 rfl rfl rfl ?_
            refine rSi E (q := 39) csX6_196 T.rr [.int x, .int i] (c_X6_place x i) (by omega) rfl rfl (Nat.le_of_ble_eq_true rfl) ⟨Nat.zero_le _, Nat.zero_le _⟩ dX6_has_36 rfl ?_
            refine r_iload E (q := 41) 5 dX6_has_39 rfl rfl ?_
            refine r_iadd E (q := 42) dX6_has_41 rfl ?_
            refine r_iald E (q := 43) 20 wm_20 (off_in (m := 2) h_pl (by omega)) dX6_has_42 rfl ?_
            refine r_aload_n E (q := 44) 0 dX6_has_43 rfl rfl rfl ?_
            refine r_get E (q := 47) fX6_69 0 wm_0 rfl dX6_has_44 rfl ?_
            refine r_iload_n E (q := 48) 2 dX6_has_47 rfl rfl rfl ?_
            refine r_iload E (q := 50) 5 dX6_has_48 rfl rfl ?_
            refine r_iadd E (q := 51) dX6_has_50 rfl ?_
            refine r_iald E (q := 52) 20 wm_20 (off_in (m := 2) h_at9 (by omega)) dX6_has_51 rfl ?_
            refine r_icmp_ne E (q := 55) 59 dX6_has_52 (by decide) rfl (fun c10 => ?_) (fun c10 => ?_)
            · refine r_iconst E (q := 60) (v := 0) dX6_has_59 (by decide) rfl ?_
              exact hj3 _ ((if_neg c9).trans (if_neg c10)).symm
            · refine r_iconst E (q := 56) (v := 1) dX6_has_55 (by decide) rfl ?_
              refine r_goto E 60 dX6_has_56 (by decide) ?_
              exact hj3 _ ((if_neg c9).trans (if_pos c10)).symm
      · refine r_if_eq E (q := 30) 59 dX6_has_27 (by decide) rfl (fun c6 => ?_) (fun c6 => ?_)
        · refine r_iconst E (q := 60) (v := 0) dX6_has_59 (by decide) rfl ?_
          exact hj2 _ (if_pos c6).symm
        · refine r_aload_n E (q := 31) 0 dX6_has_30 rfl rfl rfl ?_
          refine r_get E (q := 34) fX6_69 0 wm_0 rfl dX6_has_31 rfl ?_
          refine r_iload_n E (q := 35) 1 dX6_has_34 rfl rfl rfl ?_
          refine r_iload_n E (q := 36) 3 dX6_has_35 rfl rfl rfl ?_
          refine rSi E (q := 39) csX6_196 T.rr [.int x, .int i] (c_X6_place x i) (by omega) rfl rfl (Nat.le_of_ble_eq_true rfl) ⟨Nat.zero_le _, Nat.zero_le _⟩ dX6_has_36 rfl ?_
          refine r_iload E (q := 41) 5 dX6_has_39 rfl rfl ?_
          refine r_iadd E (q := 42) dX6_has_41 rfl ?_
          refine r_iald E (q := 43) 20 wm_20 (off_in (m := 1) h_pl (by omega)) dX6_has_42 rfl ?_
          refine r_aload_n E (q := 44) 0 dX6_has_43 rfl rfl rfl ?_
          refine r_get E (q := 47) fX6_69 0 wm_0 rfl dX6_has_44 rfl ?_
          refine r_iload_n E (q := 48) 2 dX6_has_47 rfl rfl rfl ?_
          refine r_iload E (q := 50) 5 dX6_has_48 rfl rfl ?_
          refine r_iadd E (q := 51) dX6_has_50 rfl ?_
          refine r_iald E (q := 52) 20 wm_20 (off_in (m := 1) h_at9 (by omega)) dX6_has_51 rfl ?_
          refine r_icmp_ne E (q := 55) 59 dX6_has_52 (by decide) rfl (fun c7 => ?_) (fun c7 => ?_)
          · refine r_iconst E (q := 60) (v := 0) dX6_has_59 (by decide) rfl ?_
            exact hj2 _ ((if_neg c6).trans (if_neg c7)).symm
          · refine r_iconst E (q := 56) (v := 1) dX6_has_55 (by decide) rfl ?_
            refine r_goto E 60 dX6_has_56 (by decide) ?_
            exact hj2 _ ((if_neg c6).trans (if_pos c7)).symm
    · refine r_icmp_ne E (q := 55) 59 dX6_has_52 (by decide) rfl (fun c4 => ?_) (fun c4 => ?_)
      · refine r_iconst E (q := 60) (v := 0) dX6_has_59 (by decide) rfl ?_
        exact hj1 _ (if_neg c4).symm
      · refine r_iconst E (q := 56) (v := 1) dX6_has_55 (by decide) rfl ?_
        refine r_goto E 60 dX6_has_56 (by decide) ?_
        exact hj1 _ (if_pos c4).symm
set_option maxRecDepth 100000 in
set_option maxHeartbeats 800000 in
theorem p_has {z : Zt} (E : EN z cX6_has RX6) {w0 : va_W} {P : Option Value → va_W → Prop} {lvl : Nat} (T : RT z (some .boolean) lvl w0 P 0 0) (hz : zn z = 6) {ad : Nat → Nat} {G : Nat → Nat → Int32} {V : Nat → Int32} (x at9 : Int32) (k_2 : WW z 0 0 (WM (zk z) ad G V) 2 [(0, .ref (ad 0)), (1, .int x), (2, .int at9), (3, .int 0)] []) :
    WW z 0 0 (WM (zk z) ad G V) 0 [(0, .ref (ad 0)), (1, .int x), (2, .int at9)] [] := by
  refine r_iconst E (q := 1) (v := 0) dX6_has_0 (by decide) rfl ?_
  refine r_istore_n E (q := 2) (lv' := [(0, .ref (ad 0)), (1, .int x), (2, .int at9), (3, .int 0)]) [1, 2, 3, 0] dX6_has_1 rfl (by rw [hz]; decide) rfl rfl ?_
  exact k_2
set_option maxHeartbeats 800000 in
theorem c_has {l : Launch} {k : Kt} {ad : Nat → Nat} {G : Nat → Nat → Int32} {V : Nat → Int32} {n a len : Nat} {x at9 : Int32} (hx : x = nI n) (hn : n < 60) (ha : at9 = nI a) (ha6 : a + 6 ≤ 36000) (hL : G 21 n = nI len) (hl : len ≤ 100) :
    CT l k yX6_has cX6_has 6 (some .boolean) 1 [.ref (ad 0), .int x, .int at9] (WM k ad G V) (eqI (if rd (G 20) a ∈ tb (G 20) (600 * n) len then 1 else 0) (WM k ad G V)) 0 0 := by
  refine ct_of (own := RX6) (lv0 := [(0, .ref (ad 0)), (1, .int x), (2, .int at9)]) (by decide) rfl (Nat.le_of_ble_eq_true rfl) rfl ?_
  rintro z rfl rfl hz - E T
  have exn : ix x = n := by rw [hx]; exact ix_nI (by omega)
  have main : ∀ (N j : Nat) (i : Int32), i = nI j → j ≤ len → len ≤ j + N → (∀ j', j' < j → ¬ rd (G 20) (600 * n + 6 * j') = rd (G 20) a) → WW z 0 0 (WM (zk z) ad G V) 2 [(0, .ref (ad 0)), (1, .int x), (2, .int at9), (3, .int i)] [] := by
    intro N
    induction N with
    | zero =>
      intro j i hi h1 h2 h3
      have hjl : j = len := by omega
      refine s_has E T hz (Nat.le_refl 1) x at9 i (by rw [hx]; exact vp_in_nI hn (by omega)) ⟨a, ha, ha6, by decide⟩ (fun c => absurd (by rw [exn, hL, hi, hjl]; exact Int32.le_refl _) c) (fun _ => eqI.mk ?_ rfl) (fun c => absurd (by rw [exn, hL, hi, hjl]; exact Int32.le_refl _) c) (fun c => absurd (by rw [exn, hL, hi, hjl]; exact Int32.le_refl _) c)
      rw [if_neg]
      intro hm
      obtain ⟨t, ht, e⟩ := List.mem_map.mp hm
      exact h3 t (by rw [hjl]; exact List.mem_range.mp ht) e
    | succ N ih =>
      intro j i hi h1 h2 h3
      have hpl : j < len → fX6_place x i = nI (600 * n + 6 * j) := fun h => by rw [hx, hi]; exact place_n hn (by omega)
      have hlt : ¬ G 21 (ix x) ≤ i → j < len := fun c => by
        rcases Nat.lt_or_ge j len with q | q
        · exact q
        · exact absurd (by rw [exn, hL, hi]; exact nI_le q (by omega)) c
      refine s_has E T hz (Nat.le_refl 1) x at9 i (by rw [hx]; exact vp_in_nI hn (by omega)) ⟨a, ha, ha6, by decide⟩ (fun c => ⟨_, hpl (hlt c), by have := hlt c; omega, by decide⟩) (fun c => eqI.mk ?_ rfl) (fun c s => eqI.mk ?_ rfl) (fun c s => ?_)
      · rw [if_neg]
        intro hm
        obtain ⟨t, ht, e⟩ := List.mem_map.mp hm
        have hj : len ≤ j := by
          rw [exn, hL, hi, nI_leI (by omega) (by omega)] at c; exact c
        exact h3 t (by have := List.mem_range.mp ht; omega) e
      · have hj := hlt c
        have e : rd (G 20) (600 * n + 6 * j) = rd (G 20) a := Classical.byContradiction fun q => s ((sm6_iff (hpl hj) ha (by omega) ha6).2 q)
        rw [if_pos]
        exact List.mem_map.mpr ⟨j, List.mem_range.mpr hj, e⟩
      · have hj := hlt c
        refine ih (j + 1) (i + 1) (by rw [hi]; exact nI_1 j) (by omega) (by omega) (fun j' hj' => ?_)
        rcases Nat.lt_or_ge j' j with q | q
        · exact h3 j' q
        · have : j' = j := by omega
          subst this
          exact fun e => (sm6_iff (hpl hj) ha (by omega) ha6).1 e s
  refine p_has E T hz x at9 ?_
  exact main len 0 0 rfl (Nat.zero_le _) (by omega) (fun j' h => absurd h (Nat.not_lt_zero _))
