section STC2
variable {ad0 : Nat → Nat} {G0 : Nat → Nat → Int32} {V0 : Nat → Int32} {n0 u0 : Nat} {ad : Nat → Nat} {G : Nat → Nat → Int32} {V : Nat → Int32} {n : Nat}
theorem stC.lastrow {os : List (List Int32)} {r : List Int32} {e : Int32 × Int32} (h : stC ad0 G0 V0 n0 u0 ad G V n (os ++ [r], e)) : os = tb (G 24) u0 os.length ∧ r = rd (G 24) (u0 + 6 * os.length) := by
  have h4 := h.2.2.2.1
  have eL : (os ++ [r]).length = os.length + 1 := by rw [List.length_append]; rfl
  dsimp only at h4
  rw [eL, tb_succ] at h4
  refine ⟨(List.append_inj h4 (by rw [tb_len])).1, ?_⟩
  have := (List.append_inj h4 (by rw [tb_len])).2
  simpa using this
theorem stC.re {os : List (List Int32)} {r r1 : List Int32} {e : Int32 × Int32} (h : stC ad0 G0 V0 n0 u0 ad G V n (os ++ [r], e)) {G1 : Nat → Nat → Int32} (hp : ∀ p, p ≠ 24 → G1 p = G p) (hj : ∀ j, j < u0 + 6 * os.length → G1 24 j = G 24 j) (hr : rd (G1 24) (u0 + 6 * os.length) = r1) : stC ad0 G0 V0 n0 u0 ad G1 V n (os ++ [r1], e) := by
  have hl := h.lastrow.1
  obtain ⟨h1, h2, h3, h4, h5, h6, h7, h8, h9⟩ := h
  have eL : (os ++ [r]).length = os.length + 1 := by rw [List.length_append]; rfl
  have eL2 : (os ++ [r1]).length = os.length + 1 := by rw [List.length_append]; rfl
  dsimp only at h5 h9
  refine ⟨h1, fun p q => (hp p q).trans (h2 p q), fun j q => (hj j (by omega)).trans (h3 j q), ?_, ?_, h6, h7, h8, ?_⟩
  · dsimp only
    rw [eL2, tb_succ, hr]
    congr 1
    exact hl.trans (tb_congr fun j q => (hj _ (by omega)).symm)
  · dsimp only; rw [eL2, ← eL]; exact h5
  · dsimp only; rw [eL2, ← eL]; exact h9
theorem cpM_at {t9 : Int32} {f u m : Nat} (hm : m < 6) : cpM G t9 f u 24 (u + m) = if (t9 >>> (nI m &&& 31)) &&& 1 = 1 then G 24 (f + m) else G 24 (u + m) := by
  unfold cpM
  rw [va_up_self, Nat.add_sub_cancel_left]
  by_cases c : (t9 >>> (nI m &&& 31)) &&& 1 = 1
  · rw [if_pos ⟨by omega, by omega, c⟩, if_pos c]
  · rw [if_neg (fun h => c h.2.2), if_neg c]
theorem cpM_rd {t9 : Int32} {f u : Nat} : rd (cpM G t9 f u 24) u = joinR t9 (rd (G 24) u) (rd (G 24) f) := by
  show [cpM G t9 f u 24 (u + 0), cpM G t9 f u 24 (u + 1), cpM G t9 f u 24 (u + 2), cpM G t9 f u 24 (u + 3), cpM G t9 f u 24 (u + 4), cpM G t9 f u 24 (u + 5)] = _
  rw [cpM_at (by omega), cpM_at (by omega), cpM_at (by omega), cpM_at (by omega), cpM_at (by omega), cpM_at (by omega)]
  rfl
theorem stC.cpm {os : List (List Int32)} {r : List Int32} {e : Int32 × Int32} (h : stC ad0 G0 V0 n0 u0 ad G V n (os ++ [r], e)) {t9 : Int32} {f u : Nat} (hu : u = u0 + 6 * os.length) : stC ad0 G0 V0 n0 u0 ad (cpM G t9 f u) V n (os ++ [joinR t9 r (rd (G 24) f)], e) := by
  refine h.re (fun p hp => va_up_ne _ _ hp) (fun j hj => ?_) ?_
  · unfold cpM; rw [va_up_self, if_neg (by omega)]
  · rw [← hu, cpM_rd, h.lastrow.2, hu]
theorem keepR_z (t9 : Int32) (r : List Int32) : joinR t9 [0, 0, 0, 0, 0, 0] r = keepR t9 r := by
  unfold joinR keepR
  apply List.map_congr_left
  intro m hm
  have hm := List.mem_range.mp hm
  rcases (show m = 0 ∨ m = 1 ∨ m = 2 ∨ m = 3 ∨ m = 4 ∨ m = 5 by omega) with rfl | rfl | rfl | rfl | rfl | rfl <;> rfl
end STC2
set_option maxHeartbeats 1600000 in
theorem c_giveKept {l : Launch} {k : Kt} {ad0 : Nat → Nat} {G0 Q : Nat → Nat → Int32} {V0 : Nat → Int32} {n0 u0 aN sa la : Nat} {a9 f9 m : Int32} {bs : List (List Int32)} {O : Ot} (jb : jbP G0 V0 n0 u0 aN sa la) (ha : a9 = nI aN) (hO : tkL Q 3 m f9 bs ([], 0, V0 6) 0 (tb (G0 24) sa la) = O) (hcap : u0 + 6 * O.1.length ≤ 36000) :
    CT l k yX3_giveKept cX3_giveKept 5 none 83 [.ref (ad0 23), .int a9, .int f9] (WC k ad0 G0 V0 n0) (gvQ k ad0 G0 V0 n0 u0 O) (kC n0 u0 O) (kS n0 u0 O) := by
  refine ct_of (own := RX3) (lv0 := [(0, .ref (ad0 23)), (1, .int a9), (2, .int f9)]) (by decide) rfl (Nat.le_of_ble_eq_true rfl) rfl ?_
  rintro z rfl rfl hz - E T
  obtain ⟨hn, hu, h2, h5, haN, hs, he, hsa⟩ := jb
  have hnb := gch_le hn
  have ax : ix a9 = aN := by rw [ha]; exact ix_nI (by omega)
  have av : vp_in a9 60 := by rw [ha]; exact vp_in_nI haN (by omega)
  have loop := gv_loop (z := z) (ad0 := ad0) (G0 := G0) (V0 := V0) (n0 := n0) (u0 := u0) (F := Q) (kind := 3) (m := m) (v := f9) (bs := bs) (rows := tb (G0 24) sa la) (O := O) (PC := 7) (sa := sa) (lvf := fun a r => [(0, .ref a), (1, .int a9), (2, .int f9), (3, .int r)]) (by
    intro i row ad G V n o hg st h0 hl hlo K Fx
    obtain ⟨os, f, c⟩ := o
    dsimp only at h0
    subst h0
    obtain ⟨hi, erow⟩ := tb_row hg
    have q26 : G 26 (ix a9) = nI (sa + 6 * la) := by rw [ax, st.2.1 26 (by decide)]; exact he
    obtain ⟨rn, ru, r36⟩ := st.room hn (by omega)
    dsimp only at ru hlo
    have et : tkS Q 3 m f9 bs (os, 0, c) i row = (os ++ [keepR f9 row], 0, c) := by
      unfold tkS; rw [if_neg (by decide), if_neg (by decide), if_pos rfl]
    rw [et] at K hl
    have hl' : os.length + 1 ≤ O.1.length := by dsimp only at hl; rw [List.length_append] at hl; exact hl
    refine gk_b E T hz (kcost hn hlo) a9 f9 (nI (sa + 6 * i)) av (fun c1 => ?_) (fun c1 => ?_)
    · exfalso; rw [q26, nI_leI (by omega) (by omega)] at c1; omega
    · refine s_ae E T.rr (by decide) hn st hl' hcap rfl rfl (fun a => [(0, .ref a), (1, .int a9), (2, .int f9), (3, .int (nI (sa + 6 * i)))]) (Nat.le_of_ble_eq_true rfl) dX3_giveKept_18 (q := 21) rfl (fun ad' G' V' n' hold st3 => ?_)
      have hl3 : (os ++ [([0, 0, 0, 0, 0, 0] : List Int32)]).length ≤ O.1.length := by rw [List.length_append]; exact hl'
      obtain ⟨rn3, ru3, r363⟩ := st3.room hn (by dsimp only; omega)
      dsimp only at ru3
      rw [List.length_append] at ru3
      have ru4 : u0 + 6 * (os.length + 1) ≤ n' := ru3
      refine gk_c E T hz (kcost hn hl3) (by decide) a9 f9 (nI (sa + 6 * i)) (nI (u0 + 6 * os.length)) (c_copyMembers rfl rfl (f := sa + 6 * i) (u := u0 + 6 * os.length) (by omega) (by omega) (by omega)) ?_
      have st4 := st3.cpm (t9 := f9) (f := sa + 6 * i) rfl
      have eo : rd (G' 24) (sa + 6 * i) = row := by rw [st3.old (by omega), erow]
      rw [eo, keepR_z] at st4
      rw [nI_6]
      have KK := K ad' _ V' n' st4 rfl
      have eLL : (os ++ [keepR f9 row]).length = (os ++ [([0, 0, 0, 0, 0, 0] : List Int32)]).length := by simp
      unfold kC kS at KK ⊢
      dsimp only at KK ⊢
      rw [eLL] at KK
      exact KK) (by
    intro ad G V n st
    have q26 : G 26 (ix a9) = nI (sa + 6 * la) := by rw [ax, st.2.1 26 (by decide)]; exact he
    rw [tb_len]
    refine gk_b E T hz ⟨Nat.le_refl _, Nat.le_refl _⟩ a9 f9 (nI (sa + 6 * la)) av (fun _ => ⟨rfl, ad, G, V, n, rfl, st⟩) (fun c1 => absurd (by rw [q26]; exact Int32.le_refl _) c1))
  refine gk_a E T hz ⟨Nat.zero_le _, Nat.zero_le _⟩ a9 f9 av ?_
  rw [ax, hs]
  exact r_widen (Nat.zero_le _) (Nat.zero_le _) (loop la 0 ad0 G0 V0 n0 ([], 0, V0 6) (by rw [tb_len]; omega) (Nat.zero_le _) (stC.begin hn hu h2 h5) rfl hO)
set_option maxHeartbeats 800000 in
theorem il_iff {G : Nat → Nat → Int32} {r9 o9 : Int32} {p a n : Nat} (hp : r9 = nI p) (ha : o9 = nI a) (hp6 : p + 6 ≤ n) (ha6 : a + 6 ≤ n) (hn : n < 2 ^ 31) : (rd (G 24) p = rd (G 24) a → ¬ fX3_isLike G r9 o9 = 0) ∧ (¬ rd (G 24) p = rd (G 24) a → fX3_isLike G r9 o9 = 0) := by
  have A : ∀ (w : Int32) (c m : Nat), w = nI c → c + 6 ≤ n → m < 6 → ix (w + nI m) = c + m := fun w c m h1 h2 h3 => by rw [h1]; exact nIadd (by omega)
  have x0 : ix (r9 + 0) = p + 0 := A _ p 0 hp hp6 (by omega)
  have x1 : ix (r9 + 1) = p + 1 := A _ p 1 hp hp6 (by omega)
  have x2 : ix (r9 + 2) = p + 2 := A _ p 2 hp hp6 (by omega)
  have x3 : ix (r9 + 3) = p + 3 := A _ p 3 hp hp6 (by omega)
  have x4 : ix (r9 + 4) = p + 4 := A _ p 4 hp hp6 (by omega)
  have x5 : ix (r9 + 5) = p + 5 := A _ p 5 hp hp6 (by omega)
  have y0 : ix (o9 + 0) = a + 0 := A _ a 0 ha ha6 (by omega)
  have y1 : ix (o9 + 1) = a + 1 := A _ a 1 ha ha6 (by omega)
  have y2 : ix (o9 + 2) = a + 2 := A _ a 2 ha ha6 (by omega)
  have y3 : ix (o9 + 3) = a + 3 := A _ a 3 ha ha6 (by omega)
  have y4 : ix (o9 + 4) = a + 4 := A _ a 4 ha ha6 (by omega)
  have y5 : ix (o9 + 5) = a + 5 := A _ a 5 ha ha6 (by omega)
  unfold fX3_isLike rd
  rw [x0, x1, x2, x3, x4, x5, y0, y1, y2, y3, y4, y5]
  simp only [Nat.add_zero, List.cons.injEq, and_true]
  by_cases h0 : G 24 p = G 24 a
  · by_cases h1 : G 24 (p + 1) = G 24 (a + 1)
    · by_cases h2 : G 24 (p + 2) = G 24 (a + 2)
      · by_cases h3 : G 24 (p + 3) = G 24 (a + 3)
        · by_cases h4 : G 24 (p + 4) = G 24 (a + 4)
          · by_cases h5 : G 24 (p + 5) = G 24 (a + 5) <;> simp [h0, h1, h2, h3, h4, h5]
          · simp [h0, h1, h2, h3, h4]
        · simp [h0, h1, h2, h3]
      · simp [h0, h1, h2]
    · simp [h0, h1]
  · simp [h0]
theorem tb_mem {C : Nat → Int32} {b n : Nat} {row : List Int32} : row ∈ tb C b n ↔ ∃ i, i < n ∧ row = rd C (b + 6 * i) := by
  unfold tb
  constructor
  · intro h
    obtain ⟨i, hi, e⟩ := List.mem_map.mp h
    exact ⟨i, List.mem_range.mp hi, e.symm⟩
  · rintro ⟨i, hi, e⟩
    exact List.mem_map.mpr ⟨i, List.mem_range.mpr hi, e.symm⟩
set_option maxHeartbeats 800000 in
theorem c_hasLike {l : Launch} {k : Kt} {ad : Nat → Nat} {G : Nat → Nat → Int32} {V : Nat → Int32} {n u0 len r : Nat} {s9 r9 : Int32} (es : s9 = nI u0) (er : r9 = nI r) (hr : r + 6 ≤ n) (h2 : V 2 = nI (u0 + 6 * len)) (hu : u0 + 6 * len ≤ n) (hn : n < 2 ^ 31) :
    CT l k yX3_hasLike cX3_hasLike 4 (some .boolean) 1 [.ref (ad 23), .int s9, .int r9] (WC k ad G V n) (eqI (if rd (G 24) r ∈ tb (G 24) u0 len then 1 else 0) (WC k ad G V n)) 0 0 := by
  refine ct_of (own := RX3) (lv0 := [(0, .ref (ad 23)), (1, .int s9), (2, .int r9)]) (by decide) rfl (Nat.le_of_ble_eq_true rfl) rfl ?_
  rintro z rfl rfl hz - E T
  have main : ∀ (N i : Nat), len ≤ i + N → i ≤ len → (∀ t, t < i → ¬ rd (G 24) r = rd (G 24) (u0 + 6 * t)) → WW z 0 0 (WC (zk z) ad G V n) 2 [(0, .ref (ad 23)), (1, .int s9), (2, .int r9), (3, .int (nI (u0 + 6 * i)))] [] := by
    have fin : ∀ i, i ≤ len → (∀ t, t < i → ¬ rd (G 24) r = rd (G 24) (u0 + 6 * t)) → V 2 ≤ nI (u0 + 6 * i) → (if rd (G 24) r ∈ tb (G 24) u0 len then 1 else 0 : Int32) = 0 := by
      intro i hi hno c
      rw [h2, nI_leI (by omega) (by omega)] at c
      have e : i = len := by omega
      rw [if_neg]
      intro hm
      obtain ⟨t, ht, e2⟩ := tb_mem.mp hm
      exact hno t (by omega) e2
    intro N
    induction N with
    | zero =>
      intro i h1 h2' hno
      have ab : V 2 ≤ nI (u0 + 6 * i) := by rw [h2]; exact nI_le (by omega) (by omega)
      exact hl_b E T hz (Nat.le_refl 1) s9 r9 _ (fun c => absurd ab c) (fun c => absurd ab c) (fun c => eqI.mk (fin i h2' hno c).symm rfl) (fun c => absurd ab c) (fun c => absurd ab c)
    | succ N ih =>
      intro i h1 h2' hno
      have hlt : ¬ V 2 ≤ nI (u0 + 6 * i) → i < len := fun c => by
        rcases Nat.lt_or_ge i len with q | q
        · exact q
        · exact absurd (by rw [h2]; exact nI_le (by omega) (by omega)) c
      refine hl_b E T hz (Nat.le_refl 1) s9 r9 _ (fun c => ⟨r, er, hr, hn⟩) (fun c => ⟨_, rfl, by have := hlt c; omega, hn⟩) (fun c => eqI.mk (fin i h2' hno c).symm rfl) (fun c d => ?_) (fun c d => ?_)
      · have q := hlt c
        rw [nI_6]
        refine ih (i + 1) (by omega) (by omega) (fun t ht => ?_)
        rcases Nat.lt_or_ge t i with w | w
        · exact hno t w
        · have : t = i := by omega
          subst this
          intro e
          exact (il_iff er rfl hr (by omega) hn).1 e d
      · have q := hlt c
        refine eqI.mk ?_ rfl
        rw [if_pos]
        refine tb_mem.mpr ⟨i, q, ?_⟩
        exact Classical.byContradiction fun w => d ((il_iff er rfl hr (by omega) hn).2 w)
  refine hl_a E T hz s9 r9 ?_
  rw [es]
  rw [es] at main
  exact main len 0 (by omega) (Nat.zero_le _) (fun t ht => absurd ht (Nat.not_lt_zero _))
set_option maxHeartbeats 1600000 in
theorem c_giveOnce {l : Launch} {k : Kt} {ad0 : Nat → Nat} {G0 Q : Nat → Nat → Int32} {V0 : Nat → Int32} {n0 u0 aN sa la : Nat} {a9 m v : Int32} {bs : List (List Int32)} {O : Ot} (jb : jbP G0 V0 n0 u0 aN sa la) (ha : a9 = nI aN) (hO : tkL Q 7 m v bs ([], 0, V0 6) 0 (tb (G0 24) sa la) = O) (hcap : u0 + 6 * O.1.length ≤ 36000) :
    CT l k yX3_giveOnce cX3_giveOnce 4 none 83 [.ref (ad0 23), .int a9] (WC k ad0 G0 V0 n0) (gvQ k ad0 G0 V0 n0 u0 O) (kC n0 u0 O) (kS n0 u0 O) := by
  refine ct_of (own := RX3) (lv0 := [(0, .ref (ad0 23)), (1, .int a9)]) (by decide) rfl (Nat.le_of_ble_eq_true rfl) rfl ?_
  rintro z rfl rfl hz - E T
  obtain ⟨hn, hu, h2, h5, haN, hs, he, hsa⟩ := jb
  have hnb := gch_le hn
  have ax : ix a9 = aN := by rw [ha]; exact ix_nI (by omega)
  have av : vp_in a9 60 := by rw [ha]; exact vp_in_nI haN (by omega)
  have loop := gv_loop (z := z) (ad0 := ad0) (G0 := G0) (V0 := V0) (n0 := n0) (u0 := u0) (F := Q) (kind := 7) (m := m) (v := v) (bs := bs) (rows := tb (G0 24) sa la) (O := O) (PC := 12) (sa := sa) (lvf := fun a r => [(0, .ref a), (1, .int a9), (2, .int (nI u0)), (3, .int r)]) (by
    intro i row ad G V n o hg st h0 hl hlo K Fx
    obtain ⟨os, f, c⟩ := o
    dsimp only at h0
    subst h0
    obtain ⟨hi, erow⟩ := tb_row hg
    have q26 : G 26 (ix a9) = nI (sa + 6 * la) := by rw [ax, st.2.1 26 (by decide)]; exact he
    obtain ⟨rn, ru, r36⟩ := st.room hn (by omega)
    dsimp only at ru hlo
    have et : tkS Q 7 m v bs (os, 0, c) i row = ((if row ∈ os then os else os ++ [row]), 0, c) := by
      unfold tkS; rw [if_neg (by decide), if_neg (by decide), if_neg (by decide), if_neg (by decide), if_neg (by decide), if_pos rfl]
    have eo : rd (G 24) (sa + 6 * i) = row := by rw [st.old (by omega), erow]
    have hos : os = tb (G 24) u0 os.length := st.2.2.2.1
    have ch := c_hasLike (l := zl z) (k := zk z) (ad := ad) (G := G) (V := V) (n := n) (u0 := u0) (len := os.length) (r := sa + 6 * i) (s9 := nI u0) (r9 := nI (sa + 6 * i)) rfl rfl (by omega) st.2.2.2.2.1 ru (by omega)
    rw [← hos, eo] at ch
    refine go_b E T hz (kcost hn hlo) (by decide) a9 (nI u0) (nI (sa + 6 * i)) _ (fun _ => ch) av (fun c1 => ?_) (fun c1 c2 => ?_) (fun c1 c2 => ?_)
    · exfalso; rw [q26, nI_leI (by omega) (by omega)] at c1; omega
    · have hm : row ∈ os := Classical.byContradiction fun w => c2 (if_neg w)
      rw [et, if_pos hm] at K
      rw [nI_6]
      exact K ad G V n st rfl
    · have hm : ¬ row ∈ os := fun w => by rw [if_pos w] at c2; exact absurd c2 (by decide)
      rw [et, if_neg hm] at K hl
      have hl' : os.length + 1 ≤ O.1.length := by dsimp only at hl; rw [List.length_append] at hl; exact hl
      refine s_ac E T.rr (by decide) hn st (r := sa + 6 * i) rfl (by omega) hl' hcap rfl rfl (fun a => [(0, .ref a), (1, .int a9), (2, .int (nI u0)), (3, .int (nI (sa + 6 * i)))]) (Nat.le_of_ble_eq_true rfl) dX3_giveOnce_33 (q := 36) rfl (fun ad' G' V' n' st3 => ?_)
      rw [eo] at st3 ⊢
      refine go_c E T hz (kcost hn (by dsimp only; rw [List.length_append]; exact hl')) a9 _ _ _ ?_
      rw [nI_6]
      exact K ad' G' V' n' st3 rfl) (by
    intro ad G V n st
    have q26 : G 26 (ix a9) = nI (sa + 6 * la) := by rw [ax, st.2.1 26 (by decide)]; exact he
    have ab : G 26 (ix a9) ≤ nI (sa + 6 * la) := by rw [q26]; exact Int32.le_refl _
    rw [tb_len]
    refine go_b E T hz ⟨Nat.le_refl _, Nat.le_refl _⟩ (by decide) a9 (nI u0) (nI (sa + 6 * la)) 0 (fun c1 => absurd ab c1) av (fun _ => ⟨rfl, ad, G, V, n, rfl, st⟩) (fun c1 => absurd ab c1) (fun c1 => absurd ab c1))
  refine go_a E T hz ⟨Nat.zero_le _, Nat.zero_le _⟩ a9 av ?_
  rw [ax, hs, h2]
  exact r_widen (Nat.zero_le _) (Nat.zero_le _) (loop la 0 ad0 G0 V0 n0 ([], 0, V0 6) (by rw [tb_len]; omega) (Nat.zero_le _) (stC.begin hn hu h2 h5) rfl hO)
theorem tkL_5 {F : Nat → Nat → Int32} {m v : Int32} {bs : List (List Int32)} : ∀ (R os : List (List Int32)) (i : Nat) (c : Int32), tkL F 5 m v bs (os, 0, c) i R = (os ++ R, 0, c)
  | [], os, i, c => by rw [List.append_nil]; rfl
  | r :: R, os, i, c => by
    show (if (0 : Int32) = 0 then tkL F 5 m v bs (tkS F 5 m v bs (os, 0, c) i r) (i + 1) R else _) = _
    have et : tkS F 5 m v bs (os, 0, c) i r = (os ++ [r], 0, c) := by
      unfold tkS; rw [if_neg (by decide), if_neg (by decide), if_neg (by decide), if_neg (by decide), if_neg (by decide), if_neg (by decide), if_neg (by decide)]
    rw [if_pos rfl, et, tkL_5 R, List.append_assoc]; rfl
set_option maxHeartbeats 1600000 in
theorem c_giveFirst {l : Launch} {k : Kt} {ad0 : Nat → Nat} {G0 : Nat → Nat → Int32} {V0 : Nat → Int32} {n0 u0 aN sa la q : Nat} {a9 f9 : Int32} {O : Ot} (jb : jbP G0 V0 n0 u0 aN sa la) (ha : a9 = nI aN) (hq : f9 = nI q) (hq1 : q ≤ 100) (hO : (tb (G0 24) sa (if q < la then q else la), 0, V0 6) = O) (hcap : u0 + 6 * O.1.length ≤ 36000) :
    CT l k yX3_giveFirst cX3_giveFirst 5 none 83 [.ref (ad0 23), .int a9, .int f9] (WC k ad0 G0 V0 n0) (gvQ k ad0 G0 V0 n0 u0 O) (kC n0 u0 O) (kS n0 u0 O) := by
  refine ct_of (own := RX3) (lv0 := [(0, .ref (ad0 23)), (1, .int a9), (2, .int f9)]) (by decide) rfl (Nat.le_of_ble_eq_true rfl) rfl ?_
  rintro z rfl rfl hz - E T
  obtain ⟨hn, hu, h2, h5, haN, hs, he, hsa⟩ := jb
  have hnb := gch_le hn
  have ax : ix a9 = aN := by rw [ha]; exact ix_nI (by omega)
  have av : vp_in a9 60 := by rw [ha]; exact vp_in_nI haN (by omega)
  obtain ⟨lc, hlc⟩ : ∃ lc, lc = if q < la then q else la := ⟨_, rfl⟩
  have hlc2 : lc ≤ la := by rw [hlc]; split <;> omega
  rw [← hlc] at hO
  have ee : (if (G0 25 (ix a9)) + (f9 * 6) < G0 26 (ix a9) then (G0 25 (ix a9)) + (f9 * 6) else G0 26 (ix a9) : Int32) = nI (sa + 6 * lc) := by
    rw [ax, hs, he, hq, show (6 : Int32) = nI 6 from rfl, pk_mul, nI_add, hlc]
    by_cases c : q < la
    · rw [if_pos c, if_pos (nI_lt (by omega) (by omega))]; congr 1; omega
    · rw [if_neg c, if_neg (nI_nlt (by omega) (by omega))]
  have loop := gv_loop (z := z) (ad0 := ad0) (G0 := G0) (V0 := V0) (n0 := n0) (u0 := u0) (F := fun _ _ => 0) (kind := 5) (m := 0) (v := 0) (bs := []) (rows := tb (G0 24) sa lc) (O := O) (PC := 29) (sa := sa) (lvf := fun a r => [(0, .ref a), (1, .int a9), (2, .int f9), (3, .int (nI (sa + 6 * lc))), (4, .int r)]) (by
    intro i row ad G V n o hg st h0 hl hlo K Fx
    obtain ⟨os, f, c⟩ := o
    dsimp only at h0
    subst h0
    obtain ⟨hi, erow⟩ := tb_row hg
    obtain ⟨rn, ru, r36⟩ := st.room hn (by omega)
    dsimp only at ru hlo
    have et : tkS (fun _ _ => 0) 5 0 0 [] (os, 0, c) i row = (os ++ [row], 0, c) := by
      unfold tkS; rw [if_neg (by decide), if_neg (by decide), if_neg (by decide), if_neg (by decide), if_neg (by decide), if_neg (by decide), if_neg (by decide)]
    have eo : rd (G 24) (sa + 6 * i) = row := by rw [st.old (by omega), erow]
    rw [et] at K hl
    have hl' : os.length + 1 ≤ O.1.length := by dsimp only at hl; rw [List.length_append] at hl; exact hl
    refine gi_b E T hz (kcost hn hlo) a9 f9 _ (nI (sa + 6 * i)) (fun c1 => ?_) (fun c1 => ?_)
    · exfalso; rw [nI_leI (by omega) (by omega)] at c1; omega
    · refine s_ac E T.rr (by decide) hn st (r := sa + 6 * i) rfl (by omega) hl' hcap rfl rfl (fun a => [(0, .ref a), (1, .int a9), (2, .int f9), (3, .int (nI (sa + 6 * lc))), (4, .int (nI (sa + 6 * i)))]) (Nat.le_of_ble_eq_true rfl) dX3_giveFirst_38 (q := 41) rfl (fun ad' G' V' n' st3 => ?_)
      rw [eo] at st3 ⊢
      refine gi_c E T hz (kcost hn (by dsimp only; rw [List.length_append]; exact hl')) a9 f9 _ _ _ ?_
      rw [nI_6]
      exact K ad' G' V' n' st3 rfl) (by
    intro ad G V n st
    rw [tb_len]
    refine gi_b E T hz ⟨Nat.le_refl _, Nat.le_refl _⟩ a9 f9 _ (nI (sa + 6 * lc)) (fun _ => ⟨rfl, ad, G, V, n, rfl, st⟩) (fun c1 => absurd (Int32.le_refl _) c1))
  refine gi_a E T hz ⟨Nat.zero_le _, Nat.zero_le _⟩ (by decide) a9 f9 av ?_
  rw [ee, ax, hs]
  refine r_widen (Nat.zero_le _) (Nat.zero_le _) (loop lc 0 ad0 G0 V0 n0 ([], 0, V0 6) (by rw [tb_len]; omega) (Nat.zero_le _) (stC.begin hn hu h2 h5) rfl ?_)
  rw [List.drop_zero, tkL_5]; exact hO
