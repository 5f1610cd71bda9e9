theorem srcS_len (S : Nat → Int32) (a i : Nat) : (srcS S a i).length = i := by unfold srcS; simp
theorem srcS_succ (S : Nat → Int32) (a i : Nat) : srcS S a (i + 1) = srcS S a i ++ [srcR S a i] := by
  unfold srcS; rw [List.range_succ, List.map_append]; rfl
set_option maxHeartbeats 1600000 in
theorem c_giveSource {l : Launch} {k : Kt} {ad0 : Nat → Nat} {G0 : Nat → Nat → Int32} {V0 : Nat → Int32} {n0 u0 aN la : Nat} {a9 : Int32} {O : Ot} (hn : gch n0) (hu : u0 ≤ n0) (h2 : V0 2 = nI u0) (h5 : V0 5 = 0) (haN : aN < 4) (hs : G0 3 aN = nI la) (hla : la ≤ 6) (ha : a9 = nI aN) (hO : (srcS (G0 2) aN la, 0, V0 6) = O) (hcap : u0 + 6 * O.1.length ≤ 36000) :
    CT l k yX3_giveSource cX3_giveSource 4 none 83 [.ref (ad0 23), .int a9] (WC k ad0 G0 V0 n0) (gvQ k ad0 G0 V0 n0 u0 O) (kC n0 u0 O) (kS n0 u0 O) := by
  refine ct_of (own := RX3) (lv0 := [(0, .ref (ad0 23)), (1, .int a9)]) (by decide) rfl (Nat.le_of_ble_eq_true rfl) rfl ?_
  rintro z rfl rfl hz - E T
  have hnb := gch_le hn
  have ax : ix a9 = aN := by rw [ha]; exact ix_nI (by omega)
  have av : vp_in a9 4 := by rw [ha]; exact vp_in_nI haN (by omega)
  have hOl : O.1.length = la := by rw [← hO]; exact srcS_len _ _ _
  have main : ∀ (N i : Nat) (ad : Nat → Nat) (G : Nat → Nat → Int32) (V : Nat → Int32) (n : Nat), la ≤ i + N → i ≤ la → stC ad0 G0 V0 n0 u0 ad G V n (srcS (G0 2) aN i, 0, V0 6) → WW z (kC n0 u0 (srcS (G0 2) aN i, 0, V0 6)) (kS n0 u0 (srcS (G0 2) aN i, 0, V0 6)) (WC (zk z) ad G V n) 2 [(0, .ref (ad 23)), (1, .int a9), (2, .int (nI i))] [] := by
    intro N
    induction N with
    | zero =>
      intro i ad G V n h1 h2' st
      have e : i = la := by omega
      have q3 : G 3 (ix a9) = nI la := by rw [ax, st.2.1 3 (by decide)]; exact hs
      refine gs_b E T hz (kcost hn (by dsimp only; rw [srcS_len, hOl]; omega)) a9 (nI i) av (fun _ => ⟨rfl, ad, G, V, n, rfl, by rw [← hO, ← e]; exact st⟩) (fun c1 => absurd (by rw [q3, e]; exact Int32.le_refl _) c1)
    | succ N ih =>
      intro i ad G V n h1 h2' st
      have q3 : G 3 (ix a9) = nI la := by rw [ax, st.2.1 3 (by decide)]; exact hs
      refine gs_b E T hz (kcost hn (by dsimp only; rw [srcS_len, hOl]; omega)) a9 (nI i) av (fun c1 => ?_) (fun c1 => ?_)
      · rw [q3, nI_leI (by omega) (by omega)] at c1
        have e : i = la := by omega
        exact ⟨rfl, ad, G, V, n, rfl, by rw [← hO, ← e]; exact st⟩
      · have q : i < la := by
          rcases Nat.lt_or_ge i la with q | q
          · exact q
          · exact absurd (by rw [q3]; exact nI_le q (by omega)) c1
        refine s_ae E T.rr (by decide) hn st (by rw [srcS_len, hOl]; omega) hcap rfl rfl (fun a => [(0, .ref a), (1, .int a9), (2, .int (nI i))]) (Nat.le_of_ble_eq_true rfl) dX3_giveSource_16 (q := 19) rfl (fun ad' G' V' n' hold st3 => ?_)
        have eL : (srcS (G0 2) aN i ++ [([0, 0, 0, 0, 0, 0] : List Int32)]).length = i + 1 := by rw [List.length_append, srcS_len]; rfl
        obtain ⟨rn3, ru3, r363⟩ := st3.room hn (by dsimp only; rw [eL]; omega)
        dsimp only at ru3
        rw [eL] at ru3
        have er : fX4_cellOf a9 (nI i) = nI (18 * aN + 3 * i) := by
          unfold fX4_cellOf
          rw [ha, show (6 : Int32) = nI 6 from rfl, show (3 : Int32) = nI 3 from rfl, pk_mul, nI_add, pk_mul]
          congr 1; omega
        refine gs_c E T hz (kcost hn (by dsimp only; rw [eL, hOl]; omega)) (by decide) a9 (nI i) _ er rfl (by omega) (by rw [srcS_len]; omega) (by omega) (fun G1 e1 => ?_)
        have lr := st3.lastrow.2
        rw [srcS_len] at lr e1
        have g24 : ∀ j, G1 24 j = if u0 + 6 * i ≤ j ∧ j < u0 + 6 * i + 3 then G0 2 (18 * aN + 3 * i + (j - (u0 + 6 * i))) else G' 24 j := fun j => by
          rw [e1, va_up_self, st3.2.1 2 (by decide)]; rfl
        have st4 := st3.re (G1 := G1) (r1 := srcR (G0 2) aN i) (fun p hp => by rw [e1, va_up_ne _ _ hp]) (fun j hj => by rw [srcS_len] at hj; rw [g24, if_neg (by omega)]) (by
          rw [srcS_len]
          unfold rd at lr ⊢
          simp only [List.cons.injEq, and_true] at lr
          obtain ⟨_, _, _, l3, l4, l5⟩ := lr
          rw [g24, g24, g24, g24, g24, g24, if_pos (by omega), if_pos (by omega), if_pos (by omega), if_neg (by omega), if_neg (by omega), if_neg (by omega), ← l3, ← l4, ← l5, Nat.sub_self, Nat.add_sub_cancel_left, Nat.add_sub_cancel_left]
          rfl)
        rw [← srcS_succ] at st4
        have KK := ih (i + 1) ad' G1 V' n' (by omega) (by omega) st4
        have eLL : (srcS (G0 2) aN (i + 1)).length = (srcS (G0 2) aN i ++ [([0, 0, 0, 0, 0, 0] : List Int32)]).length := by rw [eL, srcS_len]
        unfold kC kS at KK ⊢
        dsimp only at KK ⊢
        rw [eLL] at KK
        rw [nI_1]
        exact KK
  refine gs_a E T hz ⟨Nat.zero_le _, Nat.zero_le _⟩ a9 ?_
  exact r_widen (Nat.zero_le _) (Nat.zero_le _) (main la 0 ad0 G0 V0 n0 (by omega) (Nat.zero_le _) (stC.begin hn hu h2 h5))
theorem joinL_mono {C : Nat → Int32} {m b : Nat} {s : Int32} {row : List Int32} {j : Nat} : ∀ {L : Nat}, j ≤ L → (joinL m s row (tb C b j)).length ≤ (joinL m s row (tb C b L)).length
  | 0, h => by rw [Nat.le_zero.mp h]; exact Nat.le_refl _
  | L + 1, h => by
    rcases Nat.lt_or_ge j (L + 1) with q | q
    · have := joinL_mono (C := C) (m := m) (b := b) (s := s) (row := row) (j := j) (L := L) (by omega)
      rw [tb_succ, joinL_append, List.length_append]; omega
    · rw [Nat.le_antisymm h q]; exact Nat.le_refl _
set_option maxHeartbeats 1600000 in
theorem c_giveJoined {l : Launch} {k : Kt} {ad0 : Nat → Nat} {G0 Q : Nat → Nat → Int32} {V0 : Nat → Int32} {n0 u0 aN sa la bN sb lb mN : Nat} {a9 b9 m9 f9 : Int32} {O : Ot} (jb : jbP G0 V0 n0 u0 aN sa la) (ha : a9 = nI aN) (hb9 : b9 = nI bN) (hbN : bN < 60) (hbs : G0 25 bN = nI sb) (hbe : G0 26 bN = nI (sb + 6 * lb)) (hsb : sb + 6 * lb ≤ u0) (hm9 : m9 = nI mN) (hmN : mN < 6) (hO : tkL Q 4 m9 f9 (tb (G0 24) sb lb) ([], 0, V0 6) 0 (tb (G0 24) sa la) = O) (hcap : u0 + 6 * O.1.length ≤ 36000) :
    CT l k yX3_giveJoined cX3_giveJoined 8 none 83 [.ref (ad0 23), .int a9, .int b9, .int m9, .int f9] (WC k ad0 G0 V0 n0) (gvQ k ad0 G0 V0 n0 u0 O) (kC n0 u0 O) (kS n0 u0 O) := by
  refine ct_of (own := RX3) (lv0 := [(0, .ref (ad0 23)), (1, .int a9), (2, .int b9), (3, .int m9), (4, .int f9)]) (by decide) rfl (Nat.le_of_ble_eq_true rfl) rfl ?_
  rintro z rfl rfl hz - E T
  obtain ⟨hn, hu, h2, h5, haN, hs, he, hsa⟩ := jb
  have hnb := gch_le hn
  have ax : ix a9 = aN := by rw [ha]; exact ix_nI (by omega)
  have av : vp_in a9 60 := by rw [ha]; exact vp_in_nI haN (by omega)
  have bx : ix b9 = bN := by rw [hb9]; exact ix_nI (by omega)
  have bv : vp_in b9 60 := by rw [hb9]; exact vp_in_nI hbN (by omega)
  have loop := gv_loop (z := z) (ad0 := ad0) (G0 := G0) (V0 := V0) (n0 := n0) (u0 := u0) (F := Q) (kind := 4) (m := m9) (v := f9) (bs := tb (G0 24) sb lb) (rows := tb (G0 24) sa la) (O := O) (PC := 8) (sa := sa) (lvf := fun a r => [(0, .ref a), (1, .int a9), (2, .int b9), (3, .int m9), (4, .int f9), (5, .int r)]) (by
    intro i row ad G V n o hg st h0 hl hlo K Fx
    obtain ⟨os, f, c⟩ := o
    dsimp only at h0
    subst h0
    obtain ⟨hi, erow⟩ := tb_row hg
    have q26 : G 26 (ix a9) = nI (sa + 6 * la) := by rw [ax, st.2.1 26 (by decide)]; exact he
    have q25 : G 25 (ix b9) = nI (sb + 6 * 0) := by rw [bx, st.2.1 25 (by decide)]; exact hbs
    have et : tkS Q 4 m9 f9 (tb (G0 24) sb lb) (os, 0, c) i row = (os ++ joinL mN f9 row (tb (G0 24) sb lb), 0, c) := by
      unfold tkS; rw [if_neg (by decide), if_neg (by decide), if_neg (by decide), if_pos rfl, hm9, ix_nI (by omega)]
    rw [et] at K hl
    dsimp only at hl hlo
    rw [List.length_append] at hl
    have inner : ∀ (N j : Nat) (ad : Nat → Nat) (G : Nat → Nat → Int32) (V : Nat → Int32) (n : Nat), lb ≤ j + N → j ≤ lb → stC ad0 G0 V0 n0 u0 ad G V n (os ++ joinL mN f9 row (tb (G0 24) sb j), 0, c) → WW z (kC n0 u0 (os ++ joinL mN f9 row (tb (G0 24) sb j), 0, c)) (kS n0 u0 (os ++ joinL mN f9 row (tb (G0 24) sb j), 0, c)) (WC (zk z) ad G V n) 27 [(0, .ref (ad 23)), (1, .int a9), (2, .int b9), (3, .int m9), (4, .int f9), (5, .int (nI (sa + 6 * i))), (6, .int (nI (sb + 6 * j)))] [] := by
      have step : ∀ (j : Nat) (ad : Nat → Nat) (G : Nat → Nat → Int32) (V : Nat → Int32) (n : Nat), j ≤ lb → stC ad0 G0 V0 n0 u0 ad G V n (os ++ joinL mN f9 row (tb (G0 24) sb j), 0, c) → (j < lb → ∀ (ad' : Nat → Nat) (G' : Nat → Nat → Int32) (V' : Nat → Int32) (n' : Nat), stC ad0 G0 V0 n0 u0 ad' G' V' n' (os ++ joinL mN f9 row (tb (G0 24) sb (j + 1)), 0, c) → WW z (kC n0 u0 (os ++ joinL mN f9 row (tb (G0 24) sb (j + 1)), 0, c)) (kS n0 u0 (os ++ joinL mN f9 row (tb (G0 24) sb (j + 1)), 0, c)) (WC (zk z) ad' G' V' n') 27 [(0, .ref (ad' 23)), (1, .int a9), (2, .int b9), (3, .int m9), (4, .int f9), (5, .int (nI (sa + 6 * i))), (6, .int (nI (sb + 6 * (j + 1))))] []) → WW z (kC n0 u0 (os ++ joinL mN f9 row (tb (G0 24) sb j), 0, c)) (kS n0 u0 (os ++ joinL mN f9 row (tb (G0 24) sb j), 0, c)) (WC (zk z) ad G V n) 27 [(0, .ref (ad 23)), (1, .int a9), (2, .int b9), (3, .int m9), (4, .int f9), (5, .int (nI (sa + 6 * i))), (6, .int (nI (sb + 6 * j)))] [] := by
        intro j ad G V n hj st K2
        have q26b : G 26 (ix b9) = nI (sb + 6 * lb) := by rw [bx, st.2.1 26 (by decide)]; exact hbe
        have hjm := joinL_mono (C := G0 24) (m := mN) (b := sb) (s := f9) (row := row) hj
        obtain ⟨rn, ru, r36⟩ := st.room hn (by dsimp only; rw [List.length_append]; omega)
        dsimp only at ru
        rw [List.length_append] at ru
        have hlt : ¬ G 26 (ix b9) ≤ nI (sb + 6 * j) → j < lb := fun c1 => by
          rcases Nat.lt_or_ge j lb with q | q
          · exact q
          · exact absurd (by rw [q26b]; exact nI_le (by omega) (by omega)) c1
        have e1 : G 24 (ix (nI (sa + 6 * i) + m9)) = row.getD mN 0 := by
          rw [hm9, nIadd (by omega), erow, rd_get hmN]; exact st.2.2.1 _ (by omega)
        have e2 : j < lb → G 24 (ix (nI (sb + 6 * j) + m9)) = (rd (G0 24) (sb + 6 * j)).getD mN 0 := fun q => by
          rw [hm9, nIadd (by omega), rd_get hmN]; exact st.2.2.1 _ (by omega)
        refine gj_c E T hz (kcost hn (by dsimp only; rw [List.length_append]; omega)) a9 b9 m9 f9 (nI (sa + 6 * i)) (nI (sb + 6 * j)) bv (fun _ => by rw [hm9, nI_add]; exact vp_in_nI (by omega) (by omega)) (fun c1 => by have := hlt c1; rw [hm9, nI_add]; exact vp_in_nI (by omega) (by omega)) (fun c1 => ?_) (fun c1 c2 => ?_) (fun c1 c2 => ?_)
        · rw [q26b, nI_leI (by omega) (by omega)] at c1
          have e : j = lb := by omega
          subst e
          rw [nI_6]
          exact K ad G V n st rfl
        · have q := hlt c1
          rw [e1, e2 q] at c2
          rw [nI_6]
          have KK := K2 q ad G V n
          rw [tb_succ, joinL_append, if_neg (fun w => c2 w.symm), List.append_nil] at KK
          exact KK st
        · have q := hlt c1
          rw [e1, e2 q] at c2
          have hjm2 := joinL_mono (C := G0 24) (m := mN) (b := sb) (s := f9) (row := row) (show j + 1 ≤ lb by omega)
          have KK := K2 q
          rw [tb_succ, joinL_append, if_pos c2.symm, ← List.append_assoc] at KK
          rw [tb_succ, joinL_append, if_pos c2.symm, List.length_append] at hjm2
          have hjm3 : (joinL mN f9 row (tb (G0 24) sb j)).length + 1 ≤ (joinL mN f9 row (tb (G0 24) sb lb)).length := hjm2
          generalize hos : os ++ joinL mN f9 row (tb (G0 24) sb j) = os1 at st KK ⊢
          have hol : os1.length = os.length + (joinL mN f9 row (tb (G0 24) sb j)).length := by rw [← hos, List.length_append]
          have hl' : os1.length + 1 ≤ O.1.length := by omega
          refine s_ac E T.rr (by decide) hn st (r := sa + 6 * i) rfl (by omega) hl' hcap rfl rfl (fun a => [(0, .ref a), (1, .int a9), (2, .int b9), (3, .int m9), (4, .int f9), (5, .int (nI (sa + 6 * i))), (6, .int (nI (sb + 6 * j)))]) (Nat.le_of_ble_eq_true rfl) dX3_giveJoined_62 (q := 65) rfl (fun ad' G' V' n' st3 => ?_)
          have eo : rd (G 24) (sa + 6 * i) = row := by rw [st.old (by omega), erow]
          rw [eo] at st3 ⊢
          have hl3 : (os1 ++ [row]).length ≤ O.1.length := by rw [List.length_append]; exact hl'
          obtain ⟨rn3, ru3, r363⟩ := st3.room hn (by dsimp only; omega)
          dsimp only at ru3
          rw [List.length_append] at ru3
          have ru4 : u0 + 6 * (os1.length + 1) ≤ n' := ru3
          refine gj_d E T hz (kcost hn hl3) (by decide) a9 b9 m9 f9 (nI (sa + 6 * i)) (nI (sb + 6 * j)) (nI (u0 + 6 * os1.length)) (c_copyMembers rfl rfl (f := sb + 6 * j) (u := u0 + 6 * os1.length) (by omega) (by omega) (by omega)) ?_
          have st4 := st3.cpm (t9 := f9) (f := sb + 6 * j) rfl
          have eo2 : rd (G' 24) (sb + 6 * j) = rd (G0 24) (sb + 6 * j) := st3.old (by omega)
          rw [eo2] at st4
          rw [nI_6]
          have KKK := KK ad' _ V' n' st4
          have eLL : (os1 ++ [joinR f9 row (rd (G0 24) (sb + 6 * j))]).length = (os1 ++ [row]).length := by simp
          unfold kC kS at KKK ⊢
          dsimp only at KKK ⊢
          rw [eLL] at KKK
          exact KKK
      intro N
      induction N with
      | zero => intro j ad G V n h1 h2' st; exact step j ad G V n h2' st (fun q => absurd q (by omega))
      | succ N ih => intro j ad G V n h1 h2' st; exact step j ad G V n h2' st (fun q ad' G' V' n' st' => ih (j + 1) ad' G' V' n' (by omega) (by omega) st')
    refine gj_b E T hz (kcost hn hlo) a9 b9 m9 f9 (nI (sa + 6 * i)) av (fun _ => bv) (fun c1 => ?_) (fun c1 => ?_)
    · exfalso; rw [q26, nI_leI (by omega) (by omega)] at c1; omega
    · rw [q25]
      have ej : os ++ joinL mN f9 row (tb (G0 24) sb 0) = os := by
        rw [tb_0]; show os ++ [] = os; rw [List.append_nil]
      have I0 := inner lb 0 ad G V n (by omega) (Nat.zero_le _)
      rw [ej] at I0
      exact I0 st) (by
    intro ad G V n st
    have q26 : G 26 (ix a9) = nI (sa + 6 * la) := by rw [ax, st.2.1 26 (by decide)]; exact he
    have ab : G 26 (ix a9) ≤ nI (sa + 6 * la) := by rw [q26]; exact Int32.le_refl _
    rw [tb_len]
    refine gj_b E T hz ⟨Nat.le_refl _, Nat.le_refl _⟩ a9 b9 m9 f9 (nI (sa + 6 * la)) av (fun _ => bv) (fun _ => ⟨rfl, ad, G, V, n, rfl, st⟩) (fun c1 => absurd ab c1))
  refine gj_a E T hz ⟨Nat.zero_le _, Nat.zero_le _⟩ a9 b9 m9 f9 av ?_
  rw [ax, hs]
  exact r_widen (Nat.zero_le _) (Nat.zero_le _) (loop la 0 ad0 G0 V0 n0 ([], 0, V0 6) (by rw [tb_len]; omega) (Nat.zero_le _) (stC.begin hn hu h2 h5) rfl hO)
/-- the first of some -/
theorem fm_ex (P : Nat → Prop) : ∀ len : Nat, (∃ i, i < len ∧ P i ∧ ∀ t, t < i → ¬ P t) ∨ ∀ i, i < len → ¬ P i
  | 0 => Or.inr fun i h => absurd h (Nat.not_lt_zero _)
  | len + 1 => by
    rcases fm_ex P len with ⟨i, h1, h2, h3⟩ | h
    · exact Or.inl ⟨i, by omega, h2, h3⟩
    · rcases Classical.em (P len) with q | q
      · exact Or.inl ⟨len, by omega, q, h⟩
      · refine Or.inr fun i hi => ?_
        rcases Nat.lt_or_ge i len with w | w
        · exact h i w
        · have : i = len := by omega
          subst this; exact q
set_option maxHeartbeats 800000 in
theorem c_findMember {l : Launch} {k : Kt} {ad : Nat → Nat} {G : Nat → Nat → Int32} {V : Nat → Int32} {n u0 len m : Nat} {s9 m9 v9 q9 : Int32} (es : s9 = nI u0) (em : m9 = nI m) (hm : m < 6) (h2 : V 2 = nI (u0 + 6 * len)) (hu : u0 + 6 * len ≤ n) (hn : n < 2 ^ 31)
    (hq : (∃ i, i < len ∧ G 24 (u0 + 6 * i + m) = v9 ∧ (∀ t, t < i → ¬ G 24 (u0 + 6 * t + m) = v9) ∧ q9 = nI (u0 + 6 * i)) ∨ ((∀ t, t < len → ¬ G 24 (u0 + 6 * t + m) = v9) ∧ q9 = -1)) :
    CT l k yX3_findMember cX3_findMember 5 (some .int) 0 [.ref (ad 23), .int s9, .int m9, .int v9] (WC k ad G V n) (eqI q9 (WC k ad G V n)) 0 0 := by
  refine ct_of (own := RX3) (lv0 := [(0, .ref (ad 23)), (1, .int s9), (2, .int m9), (3, .int v9)]) (by decide) rfl (Nat.le_of_ble_eq_true rfl) rfl ?_
  rintro z rfl rfl hz - E T
  have main : ∀ (N i : Nat), len ≤ i + N → i ≤ len → (∀ t, t < i → ¬ G 24 (u0 + 6 * t + m) = v9) → WW z 0 0 (WC (zk z) ad G V n) 3 [(0, .ref (ad 23)), (1, .int s9), (2, .int m9), (3, .int v9), (4, .int (nI (u0 + 6 * i)))] [] := by
    have step : ∀ (i : Nat), i ≤ len → (∀ t, t < i → ¬ G 24 (u0 + 6 * t + m) = v9) → (i < len → (∀ t, t < i + 1 → ¬ G 24 (u0 + 6 * t + m) = v9) → WW z 0 0 (WC (zk z) ad G V n) 3 [(0, .ref (ad 23)), (1, .int s9), (2, .int m9), (3, .int v9), (4, .int (nI (u0 + 6 * (i + 1))))] []) → WW z 0 0 (WC (zk z) ad G V n) 3 [(0, .ref (ad 23)), (1, .int s9), (2, .int m9), (3, .int v9), (4, .int (nI (u0 + 6 * i)))] [] := by
      intro i hi hno K
      have hlt : ¬ V 2 ≤ nI (u0 + 6 * i) → i < len := fun c => by
        rcases Nat.lt_or_ge i len with q | q
        · exact q
        · exact absurd (by rw [h2]; exact nI_le (by omega) (by omega)) c
      have ei : i < len → ix (nI (u0 + 6 * i) + m9) = u0 + 6 * i + m := fun q => by rw [em]; exact nIadd (by omega)
      refine fm_b E T hz s9 m9 v9 _ (fun c => by have := hlt c; rw [em, nI_add]; exact vp_in_nI (by omega) hn) (fun c => ?_) (fun c d => ?_) (fun c d => ?_)
      · rw [h2, nI_leI (by omega) (by omega)] at c
        have e : i = len := by omega
        subst e
        rcases hq with ⟨i, h1, h2, _, _⟩ | ⟨_, e⟩
        · exact absurd h2 (hno i h1)
        · exact eqI.mk e.symm rfl
      · have q := hlt c
        rw [ei q] at d
        rw [nI_6]
        refine K q (fun t ht => ?_)
        rcases Nat.lt_or_ge t i with w | w
        · exact hno t w
        · have : t = i := by omega
          subst this; exact d
      · have q := hlt c
        rw [ei q] at d
        rcases hq with ⟨i1, h1, h2, h3, e⟩ | ⟨h, _⟩
        · have : i1 = i := by
            rcases Nat.lt_trichotomy i1 i with w | w | w
            · exact absurd h2 (hno i1 w)
            · exact w
            · exact absurd d (h3 i w)
          subst this
          exact eqI.mk e.symm rfl
        · exact absurd d (h i q)
    intro N
    induction N with
    | zero => intro i h1 h2' hno; exact step i h2' hno (fun q => absurd q (by omega))
    | succ N ih => intro i h1 h2' hno; exact step i h2' hno (fun q hn' => ih (i + 1) (by omega) (by omega) hn')
  refine fm_a E T hz s9 m9 v9 ?_
  rw [es]
  rw [es] at main
  exact main len 0 (by omega) (Nat.zero_le _) (fun t ht => absurd ht (Nat.not_lt_zero _))
theorem stC.putAt {ad0 : Nat → Nat} {G0 : Nat → Nat → Int32} {V0 : Nat → Int32} {n0 u0 : Nat} {ad : Nat → Nat} {G : Nat → Nat → Int32} {V : Nat → Int32} {n : Nat} {os : List (List Int32)} {e : Int32 × Int32} (h : stC ad0 G0 V0 n0 u0 ad G V n (os, e)) {i m q : Nat} {y : Int32} {r : List Int32} (hi : os[i]? = some r) (hm : m < 6) (hq : q = u0 + 6 * i + m) : stC ad0 G0 V0 n0 u0 ad (ug G 24 q y) V n (os.set i (r.set m y), e) := by
  obtain ⟨h1, h2, h3, h4, h5, h6, h7, h8, h9⟩ := h
  dsimp only at h4 h5 h9
  have hil : i < os.length := (List.getElem?_eq_some_iff.mp hi).1
  have hr : r = rd (G 24) (u0 + 6 * i) := by
    rw [h4, tb_get hil] at hi
    exact (Option.some.inj hi).symm
  refine ⟨h1, fun p hp => by rw [ug_other hp]; exact h2 p hp, fun j hj => by rw [ug_i (by omega)]; exact h3 j hj, ?_, ?_, h6, h7, h8, ?_⟩
  · dsimp only
    rw [List.length_set]
    have e2 : ug G 24 q y 24 = fun j => if j = u0 + 6 * i + m then y else G 24 j := by
      funext j; rw [ug_if2, hq]
    rw [e2]
    conv => lhs; rw [h4]
    symm
    refine tb_set hil ?_ (fun j h1 h2 => ?_)
    · rw [rd_set hm, hr]
    · rw [if_neg (by omega)]
  · dsimp only; rw [List.length_set]; exact h5
  · dsimp only; rw [List.length_set]; exact h9
set_option maxHeartbeats 1600000 in
theorem c_giveFolded {l : Launch} {k : Kt} {ad0 : Nat → Nat} {G0 Q : Nat → Nat → Int32} {V0 : Nat → Int32} {n0 u0 aN sa la mN kN : Nat} {a9 m9 f9 : Int32} {bs : List (List Int32)} {O : Ot} (jb : jbP G0 V0 n0 u0 aN sa la) (ha : a9 = nI aN) (hm9 : m9 = nI mN) (hmN : mN < 6) (hk9 : f9 = nI kN) (hkN : kN < 6) (hkm : kN ≠ mN) (hO : tkL Q 6 m9 f9 bs ([], 0, V0 6) 0 (tb (G0 24) sa la) = O) (hcap : u0 + 6 * O.1.length ≤ 36000) :
    CT l k yX3_giveFolded cX3_giveFolded 7 none 83 [.ref (ad0 23), .int a9, .int m9, .int f9] (WC k ad0 G0 V0 n0) (gvQ k ad0 G0 V0 n0 u0 O) (kC n0 u0 O) (kS n0 u0 O) := by
  refine ct_of (own := RX3) (lv0 := [(0, .ref (ad0 23)), (1, .int a9), (2, .int m9), (3, .int f9)]) (by decide) rfl (Nat.le_of_ble_eq_true rfl) rfl ?_
  rintro z rfl rfl hz - E T
  obtain ⟨hn, hu, h2, h5, haN, hs, he, hsa⟩ := jb
  have hnb := gch_le hn
  have ax : ix a9 = aN := by rw [ha]; exact ix_nI (by omega)
  have av : vp_in a9 60 := by rw [ha]; exact vp_in_nI haN (by omega)
  have loop := gv_loop (z := z) (ad0 := ad0) (G0 := G0) (V0 := V0) (n0 := n0) (u0 := u0) (F := Q) (kind := 6) (m := m9) (v := f9) (bs := bs) (rows := tb (G0 24) sa la) (O := O) (PC := 14) (sa := sa) (lvf := fun a r => [(0, .ref a), (1, .int a9), (2, .int m9), (3, .int f9), (4, .int (nI u0)), (5, .int r)]) (by
    intro i row ad G V n o hg st h0 hl hlo K Fx
    obtain ⟨os, f, c⟩ := o
    dsimp only at h0
    subst h0
    obtain ⟨hi, erow⟩ := tb_row hg
    have q26 : G 26 (ix a9) = nI (sa + 6 * la) := by rw [ax, st.2.1 26 (by decide)]; exact he
    obtain ⟨rn, ru, r36⟩ := st.room hn (by omega)
    dsimp only at ru hlo
    have et : tkS Q 6 m9 f9 bs (os, 0, c) i row = (foldL mN kN row os, 0, c) := by
      unfold tkS; rw [if_neg (by decide), if_neg (by decide), if_neg (by decide), if_neg (by decide), if_pos rfl, hm9, hk9, ix_nI (by omega), ix_nI (by omega)]
    rw [et] at K hl
    dsimp only at hl
    have eo : rd (G 24) (sa + 6 * i) = row := by rw [st.old (by omega), erow]
    have hos : os = tb (G 24) u0 os.length := st.2.2.2.1
    have eM : G 24 (ix (nI (sa + 6 * i) + m9)) = row.getD mN 0 := by rw [hm9, nIadd (by omega), ← eo, rd_get hmN]
    have eK : G 24 (ix (nI (sa + 6 * i) + f9)) = row.getD kN 0 := by rw [hk9, nIadd (by omega), ← eo, rd_get hkN]
    have og : ∀ t, t < os.length → os[t]? = some (rd (G 24) (u0 + 6 * t)) := fun t ht => by rw [hos, tb_get ht]
    have vm : vp_in (nI (sa + 6 * i) + m9) n := by rw [hm9, nI_add]; exact vp_in_nI (by omega) (by omega)
    have vk : vp_in (nI (sa + 6 * i) + f9) n := by rw [hk9, nI_add]; exact vp_in_nI (by omega) (by omega)
    have no : ¬ G 26 (ix a9) ≤ nI (sa + 6 * i) := by rw [q26, nI_leI (by omega) (by omega)]; omega
    rcases fm_ex (fun t => G 24 (u0 + 6 * t + mN) = row.getD mN 0) os.length with ⟨t, ht, hte, hto⟩ | hno
    · have cf : CT (zl z) (zk z) yX3_findMember cX3_findMember 5 (some .int) 0 [.ref (ad 23), .int (nI u0), .int m9, .int (G 24 (ix (nI (sa + 6 * i) + m9)))] (WC (zk z) ad G V n) (eqI (nI (u0 + 6 * t)) (WC (zk z) ad G V n)) 0 0 := by
        rw [eM]
        exact c_findMember rfl hm9 hmN st.2.2.2.2.1 ru (by omega) (Or.inl ⟨t, ht, hte, hto, rfl⟩)
      have t0 : (0 : Int32) ≤ nI (u0 + 6 * t) := nI_le (a := 0) (Nat.zero_le _) (by omega)
      have eq : ix (nI (u0 + 6 * t) + f9) = u0 + 6 * t + kN := by rw [hk9]; exact nIadd (by omega)
      refine gd_b E T hz (kcost hn hlo) (by decide) a9 m9 f9 (nI u0) (nI (sa + 6 * i)) _ (fun _ => cf) av (fun _ => vm) (fun _ _ => by rw [hk9, nI_add]; exact vp_in_nI (by omega) (by omega)) (fun _ _ => vk) (fun c1 => absurd c1 no) (fun G1 e1 _ _ => ?_) (fun _ c2 => absurd t0 c2)
      rw [eq, eK] at e1
      have hr2 : (rd (G 24) (u0 + 6 * t)).getD mN 0 = row.getD mN 0 := by rw [rd_get hmN]; exact hte
      have ef : foldL mN kN row os = os.set t ((rd (G 24) (u0 + 6 * t)).set kN ((rd (G 24) (u0 + 6 * t)).getD kN 0 + row.getD kN 0)) := foldL_at (og t ht) hr2 (fun i' r' h1 h2 => by
        rw [og i' (by omega)] at h2
        rw [← Option.some.inj h2, rd_get hmN]; exact hto i' h1)
      have st2 := st.putAt (i := t) (m := kN) (y := G 24 (u0 + 6 * t + kN) + row.getD kN 0) (og t ht) hkN rfl
      rw [← e1] at st2
      rw [ef, rd_get hkN] at K
      rw [nI_6]
      have KK := K ad G1 V n st2 rfl
      unfold kC kS at KK ⊢
      dsimp only at KK ⊢
      rw [List.length_set] at KK
      exact KK
    · have cf : CT (zl z) (zk z) yX3_findMember cX3_findMember 5 (some .int) 0 [.ref (ad 23), .int (nI u0), .int m9, .int (G 24 (ix (nI (sa + 6 * i) + m9)))] (WC (zk z) ad G V n) (eqI (-1) (WC (zk z) ad G V n)) 0 0 := by
        rw [eM]
        exact c_findMember rfl hm9 hmN st.2.2.2.2.1 ru (by omega) (Or.inr ⟨hno, rfl⟩)
      refine gd_b E T hz (kcost hn hlo) (by decide) a9 m9 f9 (nI u0) (nI (sa + 6 * i)) _ (fun _ => cf) av (fun _ => vm) (fun _ c2 => absurd c2 (by decide)) (fun _ c2 => absurd c2 (by decide)) (fun c1 => absurd c1 no) (fun _ _ _ c2 => absurd c2 (by decide)) (fun _ _ => ?_)
      have ef : foldL mN kN row os = os ++ [((List.replicate 6 (0 : Int32)).set mN (row.getD mN 0)).set kN (0 + row.getD kN 0)] := foldL_none (fun r hr => by
        obtain ⟨t, ht, e⟩ := List.mem_iff_getElem?.mp hr |>.elim fun t ht => (⟨t, (List.getElem?_eq_some_iff.mp ht).1, ht⟩ : ∃ t, t < os.length ∧ os[t]? = some r)
        rw [og t ht] at e
        rw [← Option.some.inj e, rd_get hmN]; exact hno t ht)
      rw [ef] at K hl
      have hl' : os.length + 1 ≤ O.1.length := by rw [List.length_append] at hl; exact hl
      refine s_ae E T.rr (by decide) hn st hl' hcap rfl rfl (fun a => [(0, .ref a), (1, .int a9), (2, .int m9), (3, .int f9), (4, .int (nI u0)), (5, .int (nI (sa + 6 * i)))]) (Nat.le_of_ble_eq_true rfl) dX3_giveFolded_49 (q := 52) rfl (fun ad' G' V' n' hold st3 => ?_)
      have hl3 : (os ++ [([0, 0, 0, 0, 0, 0] : List Int32)]).length ≤ O.1.length := by rw [List.length_append]; exact hl'
      obtain ⟨rn3, ru3, r363⟩ := st3.room hn (by dsimp only; omega)
      dsimp only at ru3
      rw [List.length_append] at ru3
      have ru4 : u0 + 6 * (os.length + 1) ≤ n' := ru3
      have eM2 : G' 24 (ix (nI (sa + 6 * i) + m9)) = row.getD mN 0 := by rw [hm9, nIadd (by omega), hold _ (by omega), ← eo, rd_get hmN]
      have eu1 : ix (nI (u0 + 6 * os.length) + m9) = u0 + 6 * os.length + mN := by rw [hm9]; exact nIadd (by omega)
      have eu2 : ix (nI (u0 + 6 * os.length) + f9) = u0 + 6 * os.length + kN := by rw [hk9]; exact nIadd (by omega)
      have vm2 : vp_in (nI (sa + 6 * i) + m9) n' := by rw [hm9, nI_add]; exact vp_in_nI (by omega) (by omega)
      have vk2 : vp_in (nI (sa + 6 * i) + f9) n' := by rw [hk9, nI_add]; exact vp_in_nI (by omega) (by omega)
      refine gd_c E T hz (kcost hn hl3) a9 m9 f9 (nI u0) (nI (sa + 6 * i)) (nI (u0 + 6 * os.length)) vm2 (by rw [hm9, nI_add]; exact vp_in_nI (by omega) (by omega)) (fun _ _ => by rw [hk9, nI_add]; exact vp_in_nI (by omega) (by omega)) (fun _ _ => vk2) (fun G1 G2 e1 e2 => ?_)
      rw [eu1, eM2] at e1
      have lr := st3.lastrow.2
      have ez : G' 24 (u0 + 6 * os.length + kN) = 0 := by
        rw [← rd_get (C := G' 24) (p := u0 + 6 * os.length) hkN, ← lr]
        rcases (show kN = 0 ∨ kN = 1 ∨ kN = 2 ∨ kN = 3 ∨ kN = 4 ∨ kN = 5 by omega) with rfl | rfl | rfl | rfl | rfl | rfl <;> rfl
      have ek1 : G1 24 (u0 + 6 * os.length + kN) = 0 := by rw [e1, ug_i (by omega)]; exact ez
      have ek2 : G1 24 (ix (nI (sa + 6 * i) + f9)) = row.getD kN 0 := by rw [hk9, nIadd (by omega), e1, ug_i (by omega), hold _ (by omega), ← eo, rd_get hkN]
      rw [eu2, ek1, ek2] at e2
      have st4 := st3.put (m := mN) (y := row.getD mN 0) hmN rfl
      rw [← e1] at st4
      have st5 := st4.put (m := kN) (y := 0 + row.getD kN 0) hkN rfl
      rw [← e2] at st5
      rw [nI_6]
      have KK := K ad' G2 V' n' st5 rfl
      have eLL : (os ++ [((List.replicate 6 (0 : Int32)).set mN (row.getD mN 0)).set kN (0 + row.getD kN 0)]).length = (os ++ [([0, 0, 0, 0, 0, 0] : List Int32)]).length := by simp
      unfold kC kS at KK ⊢
      dsimp only at KK ⊢
      rw [eLL] at KK
      exact KK) (by
    intro ad G V n st
    have q26 : G 26 (ix a9) = nI (sa + 6 * la) := by rw [ax, st.2.1 26 (by decide)]; exact he
    have ab : G 26 (ix a9) ≤ nI (sa + 6 * la) := by rw [q26]; exact Int32.le_refl _
    rw [tb_len]
    refine gd_b E T hz ⟨Nat.le_refl _, Nat.le_refl _⟩ (by decide) a9 m9 f9 (nI u0) (nI (sa + 6 * la)) 0 (fun c1 => absurd ab c1) av (fun c1 => absurd ab c1) (fun c1 => absurd ab c1) (fun c1 => absurd ab c1) (fun _ => ⟨rfl, ad, G, V, n, rfl, st⟩) (fun _ _ c1 => absurd ab c1) (fun c1 => absurd ab c1))
  refine gd_a E T hz ⟨Nat.zero_le _, Nat.zero_le _⟩ a9 m9 f9 av ?_
  rw [ax, hs, h2]
  exact r_widen (Nat.zero_le _) (Nat.zero_le _) (loop la 0 ad0 G0 V0 n0 ([], 0, V0 6) (by rw [tb_len]; omega) (Nat.zero_le _) (stC.begin hn hu h2 h5) rfl hO)
