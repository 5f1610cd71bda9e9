def gvQ (k : Kt) (ad0 : Nat → Nat) (G0 : Nat → Nat → Int32) (V0 : Nat → Int32) (n0 u0 : Nat) (O : Ot) : Option Value → va_W → Prop :=
  fun v w' => v = none ∧ ∃ (ad' : Nat → Nat) (G' : Nat → Nat → Int32) (V' : Nat → Int32) (n' : Nat), w' = WC k ad' G' V' n' ∧ stC ad0 G0 V0 n0 u0 ad' G' V' n' O
/-- where the rows of a lie -/
def jbP (G0 : Nat → Nat → Int32) (V0 : Nat → Int32) (n0 u0 aN sa la : Nat) : Prop :=
  gch n0 ∧ u0 ≤ n0 ∧ V0 2 = nI u0 ∧ V0 5 = 0 ∧ aN < 60 ∧ G0 25 aN = nI sa ∧ G0 26 aN = nI (sa + 6 * la) ∧ sa + 6 * la ≤ u0
theorem agF.to {G G0 Q : Nat → Nat → Int32} {nf : Nat} (h : ∀ p, p ≠ 24 → G p = G0 p) (ag : agF G0 Q nf) : agF G Q nf := by
  unfold agF
  rw [h 6 (by decide), h 7 (by decide), h 8 (by decide), h 4 (by decide)]; exact ag
theorem s_ac {z : Zt} {cc : ByteArray} (E : EN z cc RX3) {d mx sx : Nat} (hR : RR z d mx sx) (hdl : 3 < d) {ad0 : Nat → Nat} {G0 : Nat → Nat → Int32} {V0 : Nat → Int32} {n0 u0 : Nat} (hn : gch n0) {ad : Nat → Nat} {G : Nat → Nat → Int32} {V : Nat → Int32} {n : Nat} {os : List (List Int32)} {e : Int32 × Int32} (st : stC ad0 G0 V0 n0 u0 ad G V n (os, e)) {x : Int32} {r : Nat} (hx : x = nI r) (hr : r + 6 ≤ u0 + 6 * os.length) {O : Ot} (hle : os.length + 1 ≤ O.1.length) (hcap : u0 + 6 * O.1.length ≤ 36000) (hmx : mx = kC n0 u0 O) (hsx : sx = kS n0 u0 O) (lvf : Nat → Lv) {rest : List Value} (hcat : (rest.map fun v => v.category).sum ≤ 8) {pc q : Nat} (hd : decode cc pc = .ok (.invokevirtual 133, 3)) (hq : pc + 3 = q)
    (k : ∀ (ad' : Nat → Nat) (G' : Nat → Nat → Int32) (V' : Nat → Int32) (n' : Nat), stC ad0 G0 V0 n0 u0 ad' G' V' n' (os ++ [rd (G 24) r], e) → WW z (kC n0 u0 (os ++ [rd (G 24) r], e)) (kS n0 u0 (os ++ [rd (G 24) r], e)) (WC (zk z) ad' G' V' n') q (lvf (ad' 23)) (.int (nI (u0 + 6 * os.length)) :: rest)) :
    WW z (kC n0 u0 (os, e)) (kS n0 u0 (os, e)) (WC (zk z) ad G V n) pc (lvf (ad 23)) (.int x :: .ref (ad 23) :: rest) := by
  obtain ⟨rn, ru, r36⟩ := st.room hn (by dsimp only; omega)
  dsimp only at ru
  have h9 : n = gw n0 (u0 + 6 * os.length) := st.2.2.2.2.2.2.2.2
  have hV2 : V 2 = nI (u0 + 6 * os.length) := st.2.2.2.2.1
  have eL : (os ++ [rd (G 24) r]).length = os.length + 1 := by rw [List.length_append]; rfl
  have ec : kC n0 u0 (os, e) + kc n (u0 + 6 * os.length + 6) = kC n0 u0 (os ++ [rd (G 24) r], e) := by
    show kc n0 (u0 + 6 * os.length) + _ = kc n0 (u0 + 6 * (os ++ [rd (G 24) r]).length)
    rw [eL, show u0 + 6 * (os.length + 1) = u0 + 6 * os.length + 6 by omega, h9]
    exact kc_add (by omega)
  have es : kS n0 u0 (os, e) + ks n (u0 + 6 * os.length + 6) = kS n0 u0 (os ++ [rd (G 24) r], e) := by
    show ks n0 (u0 + 6 * os.length) + _ = ks n0 (u0 + 6 * (os ++ [rd (G 24) r]).length)
    rw [eL, show u0 + 6 * (os.length + 1) = u0 + 6 * os.length + 6 by omega, h9]
    exact ks_add hn (by omega)
  refine r_ac E hR hdl hx hr hV2 ru rn (by omega) lvf hcat ⟨?_, ?_⟩ hd hq (fun ad' G' hp => ?_)
  · rw [ec, hmx]; exact kc_mono (by dsimp only; rw [eL]; omega)
  · rw [es, hsx]; exact ks_mono hn (by dsimp only; rw [eL]; omega)
  · rw [ec, es]
    exact k ad' G' _ _ (st.add rfl hp)
theorem s_ae {z : Zt} {cc : ByteArray} (E : EN z cc RX3) {d mx sx : Nat} (hR : RR z d mx sx) (hdl : 2 < d) {ad0 : Nat → Nat} {G0 : Nat → Nat → Int32} {V0 : Nat → Int32} {n0 u0 : Nat} (hn : gch n0) {ad : Nat → Nat} {G : Nat → Nat → Int32} {V : Nat → Int32} {n : Nat} {os : List (List Int32)} {e : Int32 × Int32} (st : stC ad0 G0 V0 n0 u0 ad G V n (os, e)) {O : Ot} (hle : os.length + 1 ≤ O.1.length) (hcap : u0 + 6 * O.1.length ≤ 36000) (hmx : mx = kC n0 u0 O) (hsx : sx = kS n0 u0 O) (lvf : Nat → Lv) {rest : List Value} (hcat : (rest.map fun v => v.category).sum ≤ 8) {pc q : Nat} (hd : decode cc pc = .ok (.invokevirtual 115, 3)) (hq : pc + 3 = q)
    (k : ∀ (ad' : Nat → Nat) (G' : Nat → Nat → Int32) (V' : Nat → Int32) (n' : Nat), (∀ j, j < u0 + 6 * os.length → G' 24 j = G 24 j) → stC ad0 G0 V0 n0 u0 ad' G' V' n' (os ++ [[0, 0, 0, 0, 0, 0]], e) → WW z (kC n0 u0 (os ++ [[0, 0, 0, 0, 0, 0]], e)) (kS n0 u0 (os ++ [[0, 0, 0, 0, 0, 0]], e)) (WC (zk z) ad' G' V' n') q (lvf (ad' 23)) (.int (nI (u0 + 6 * os.length)) :: rest)) :
    WW z (kC n0 u0 (os, e)) (kS n0 u0 (os, e)) (WC (zk z) ad G V n) pc (lvf (ad 23)) (.ref (ad 23) :: rest) := by
  obtain ⟨rn, ru, r36⟩ := st.room hn (by dsimp only; omega)
  dsimp only at ru
  have h9 : n = gw n0 (u0 + 6 * os.length) := st.2.2.2.2.2.2.2.2
  have hV2 : V 2 = nI (u0 + 6 * os.length) := st.2.2.2.2.1
  have eL : (os ++ [([0, 0, 0, 0, 0, 0] : List Int32)]).length = os.length + 1 := by rw [List.length_append]; rfl
  have ec : kC n0 u0 (os, e) + kc n (u0 + 6 * os.length + 6) = kC n0 u0 (os ++ [[0, 0, 0, 0, 0, 0]], e) := by
    show kc n0 (u0 + 6 * os.length) + _ = kc n0 (u0 + 6 * (os ++ [([0, 0, 0, 0, 0, 0] : List Int32)]).length)
    rw [eL, show u0 + 6 * (os.length + 1) = u0 + 6 * os.length + 6 by omega, h9]
    exact kc_add (by omega)
  have es : kS n0 u0 (os, e) + ks n (u0 + 6 * os.length + 6) = kS n0 u0 (os ++ [[0, 0, 0, 0, 0, 0]], e) := by
    show ks n0 (u0 + 6 * os.length) + _ = ks n0 (u0 + 6 * (os ++ [([0, 0, 0, 0, 0, 0] : List Int32)]).length)
    rw [eL, show u0 + 6 * (os.length + 1) = u0 + 6 * os.length + 6 by omega, h9]
    exact ks_add hn (by omega)
  refine r_ae E hR hdl hV2 ru rn (by omega) lvf hcat ⟨?_, ?_⟩ hd hq (fun ad' G' hp => ?_)
  · rw [ec, hmx]; exact kc_mono (by dsimp only; rw [eL]; omega)
  · rw [es, hsx]; exact ks_mono hn (by dsimp only; rw [eL]; omega)
  · rw [ec, es]
    exact k ad' G' _ _ hp.2.2.1 (st.add rfl hp)
theorem nI_6 (s i : Nat) : nI (s + 6 * i) + 6 = nI (s + 6 * (i + 1)) := by rw [show (6 : Int32) = nI 6 from rfl, nI_add]; congr 1
theorem kcost {n0 u0 : Nat} (hn : gch n0) {o O : Ot} (h : o.1.length ≤ O.1.length) : kC n0 u0 o ≤ kC n0 u0 O ∧ kS n0 u0 o ≤ kS n0 u0 O := ⟨kc_mono (by omega), ks_mono hn (by omega)⟩
theorem tb_row {C : Nat → Int32} {b n i : Nat} {row : List Int32} (h : (tb C b n)[i]? = some row) : i < n ∧ row = rd C (b + 6 * i) := by
  have hi : i < n := by have := (List.getElem?_eq_some_iff.mp h).1; rwa [tb_len] at this
  rw [tb_get hi] at h
  exact ⟨hi, (Option.some.inj h).symm⟩
set_option maxHeartbeats 1600000 in
theorem c_giveFiltered {l : Launch} {k : Kt} {ad0 : Nat → Nat} {G0 Q : Nat → Nat → Int32} {V0 : Nat → Int32} {n0 u0 aN sa la nf j : Nat} {a9 f9 m : Int32} {bs : List (List Int32)} {O : Ot} (hnf : nf ≤ 40) (hW : FW (Q 0) (Q 1) (Q 2) nf) (ag : agF G0 Q nf) (jb : jbP G0 V0 n0 u0 aN sa la) (ha : a9 = nI aN) (hf : f9 = nI j) (hj : j < nf) (hO : tkL Q 1 m f9 bs ([], 0, V0 6) 0 (tb (G0 24) sa la) = O) (hcap : u0 + 6 * O.1.length ≤ 36000) :
    CT l k yX3_giveFiltered cX3_giveFiltered 5 none 83 [.ref (ad0 23), .int a9, .int f9] (WC k ad0 G0 V0 n0) (gvQ k ad0 G0 V0 n0 u0 O) (kC n0 u0 O) (kS n0 u0 O) := by
  refine ct_of (own := RX3) (lv0 := [(0, .ref (ad0 23)), (1, .int a9), (2, .int f9)]) (by decide) rfl (Nat.le_of_ble_eq_true rfl) rfl ?_
  rintro z rfl rfl hz - E T
  obtain ⟨hn, hu, h2, h5, haN, hs, he, hsa⟩ := jb
  have hnb := gch_le hn
  have ax : ix a9 = aN := by rw [ha]; exact ix_nI (by omega)
  have av : vp_in a9 60 := by rw [ha]; exact vp_in_nI haN (by omega)
  have loop := gv_loop (z := z) (ad0 := ad0) (G0 := G0) (V0 := V0) (n0 := n0) (u0 := u0) (F := Q) (kind := 1) (m := m) (v := f9) (bs := bs) (rows := tb (G0 24) sa la) (O := O) (PC := 7) (sa := sa) (lvf := fun a r => [(0, .ref a), (1, .int a9), (2, .int f9), (3, .int r)]) (by
    intro i row ad G V n o hg st h0 hl hlo K Fx
    obtain ⟨os, f, c⟩ := o
    dsimp only at h0
    subst h0
    obtain ⟨hi, erow⟩ := tb_row hg
    have q26 : G 26 (ix a9) = nI (sa + 6 * la) := by rw [ax, st.2.1 26 (by decide)]; exact he
    obtain ⟨rn, ru, r36⟩ := st.room hn (by omega)
    dsimp only at ru hlo
    refine gf_b E T hz (kcost hn hlo) a9 f9 (nI (sa + 6 * i)) av (fun c1 => ?_) (fun c1 => ?_)
    · exfalso; rw [q26, nI_leI (by omega) (by omega)] at c1; omega
    · refine r_vo E T.rr (by decide) hnf hW (ag.to st.2.1) rfl (by omega) (by omega) hf hj st.2.2.2.2.2.1 (Nat.le_of_ble_eq_true rfl) (kcost hn hlo) dX3_giveFiltered_20 (q := 23) rfl ?_
      have eo : rd (G 24) (sa + 6 * i) = row := by rw [st.old (by omega), erow]
      rw [eo]
      generalize he2 : ev Q f9 row = e
      have et : tkS Q 1 m f9 bs (os, 0, c) i row = ((if e.2.1 = 0 ∧ ¬ e.1 = 0 then os ++ [row] else os), e.2.1, c + e.2.2) := by
        unfold tkS; rw [if_pos rfl, he2]
      have st2 := st.ve e.2
      refine gf_c E T hz (kcost hn hlo) a9 f9 _ e.1 (fun c1 c2 => ?_) (fun c1 c2 => ?_) (fun c1 => ?_)
      · rw [nI_6]
        rw [et, if_neg (fun h => h.2 c2)] at K
        exact K ad G _ n st2 c1
      · rw [et, if_pos ⟨c1, c2⟩] at K hl
        have hl' : os.length + 1 ≤ O.1.length := by dsimp only at hl; rw [List.length_append] at hl; exact hl
        refine s_ac E T.rr (by decide) hn st2 (r := sa + 6 * i) rfl (by omega) hl' hcap rfl rfl (fun a => [(0, .ref a), (1, .int a9), (2, .int f9), (3, .int (nI (sa + 6 * i)))]) (Nat.le_of_ble_eq_true rfl) dX3_giveFiltered_40 (q := 43) rfl (fun ad' G' V' n' st3 => ?_)
        rw [eo] at st3 ⊢
        refine gf_d E T hz (kcost hn (by dsimp only; rw [List.length_append]; exact hl')) a9 f9 _ _ ?_
        rw [nI_6]
        exact K ad' G' V' n' st3 c1
      · have eO := Fx (by rw [et]; exact c1)
        rw [et, if_neg (fun h => c1 h.1)] at eO
        exact ⟨rfl, ad, G, _, n, rfl, by rw [← eO]; exact st2⟩) (by
    intro ad G V n st
    have q26 : G 26 (ix a9) = nI (sa + 6 * la) := by rw [ax, st.2.1 26 (by decide)]; exact he
    rw [tb_len]
    refine gf_b E T hz ⟨Nat.le_refl _, Nat.le_refl _⟩ a9 f9 (nI (sa + 6 * la)) av (fun _ => ⟨rfl, ad, G, V, n, rfl, st⟩) (fun c1 => absurd (by rw [q26]; exact Int32.le_refl _) c1))
  refine gf_a E T hz ⟨Nat.zero_le _, Nat.zero_le _⟩ a9 f9 av ?_
  rw [ax, hs]
  exact r_widen (Nat.zero_le _) (Nat.zero_le _) (loop la 0 ad0 G0 V0 n0 ([], 0, V0 6) (by rw [tb_len]; omega) (Nat.zero_le _) (stC.begin hn hu h2 h5) rfl hO)
set_option maxHeartbeats 1600000 in
theorem c_giveSet {l : Launch} {k : Kt} {ad0 : Nat → Nat} {G0 Q : Nat → Nat → Int32} {V0 : Nat → Int32} {n0 u0 aN sa la nf j mN : Nat} {a9 f9 m9 : Int32} {bs : List (List Int32)} {O : Ot} (hnf : nf ≤ 40) (hW : FW (Q 0) (Q 1) (Q 2) nf) (ag : agF G0 Q nf) (jb : jbP G0 V0 n0 u0 aN sa la) (ha : a9 = nI aN) (hm9 : m9 = nI mN) (hmN : mN < 6) (hf : f9 = nI j) (hj : j < nf) (hO : tkL Q 2 m9 f9 bs ([], 0, V0 6) 0 (tb (G0 24) sa la) = O) (hcap : u0 + 6 * O.1.length ≤ 36000) :
    CT l k yX3_giveSet cX3_giveSet 7 none 83 [.ref (ad0 23), .int a9, .int m9, .int f9] (WC k ad0 G0 V0 n0) (gvQ k ad0 G0 V0 n0 u0 O) (kC n0 u0 O) (kS n0 u0 O) := by
  refine ct_of (own := RX3) (lv0 := [(0, .ref (ad0 23)), (1, .int a9), (2, .int m9), (3, .int f9)]) (by decide) rfl (Nat.le_of_ble_eq_true rfl) rfl ?_
  rintro z rfl rfl hz - E T
  obtain ⟨hn, hu, h2, h5, haN, hs, he, hsa⟩ := jb
  have hnb := gch_le hn
  have ax : ix a9 = aN := by rw [ha]; exact ix_nI (by omega)
  have av : vp_in a9 60 := by rw [ha]; exact vp_in_nI haN (by omega)
  have loop := gv_loop (z := z) (ad0 := ad0) (G0 := G0) (V0 := V0) (n0 := n0) (u0 := u0) (F := Q) (kind := 2) (m := m9) (v := f9) (bs := bs) (rows := tb (G0 24) sa la) (O := O) (PC := 8) (sa := sa) (lvf := fun a r => [(0, .ref a), (1, .int a9), (2, .int m9), (3, .int f9), (4, .int r)]) (by
    intro i row ad G V n o hg st h0 hl hlo K Fx
    obtain ⟨os, f, c⟩ := o
    dsimp only at h0
    subst h0
    obtain ⟨hi, erow⟩ := tb_row hg
    have q26 : G 26 (ix a9) = nI (sa + 6 * la) := by rw [ax, st.2.1 26 (by decide)]; exact he
    obtain ⟨rn, ru, r36⟩ := st.room hn (by omega)
    dsimp only at ru hlo
    refine gt_b E T hz (kcost hn hlo) a9 m9 f9 (nI (sa + 6 * i)) av (fun c1 => ?_) (fun c1 => ?_)
    · exfalso; rw [q26, nI_leI (by omega) (by omega)] at c1; omega
    · refine r_vo E T.rr (by decide) hnf hW (ag.to st.2.1) rfl (by omega) (by omega) hf hj st.2.2.2.2.2.1 (Nat.le_of_ble_eq_true rfl) (kcost hn hlo) dX3_giveSet_23 (q := 26) rfl ?_
      have eo : rd (G 24) (sa + 6 * i) = row := by rw [st.old (by omega), erow]
      rw [eo]
      generalize he2 : ev Q f9 row = e
      have et : tkS Q 2 m9 f9 bs (os, 0, c) i row = ((if e.2.1 = 0 then os ++ [row.set mN e.1] else os), e.2.1, c + e.2.2) := by
        unfold tkS; rw [if_neg (by decide), if_pos rfl, he2, hm9, ix_nI (by omega)]
      have st2 := st.ve e.2
      refine gt_c E T hz (kcost hn hlo) a9 m9 f9 _ e.1 (fun c1 => ?_) (fun c1 => ?_)
      · have c1 : e.2.1 = 0 := c1
        rw [et, if_pos c1] at K hl
        have hl' : os.length + 1 ≤ O.1.length := by dsimp only at hl; rw [List.length_append] at hl; exact hl
        refine s_ac E T.rr (by decide) hn st2 (r := sa + 6 * i) rfl (by omega) hl' hcap rfl rfl (fun a => [(0, .ref a), (1, .int a9), (2, .int m9), (3, .int f9), (4, .int (nI (sa + 6 * i))), (5, .int e.1)]) (Nat.le_of_ble_eq_true rfl) dX3_giveSet_39 (q := 42) rfl (fun ad' G' V' n' st3 => ?_)
        rw [eo] at st3 ⊢
        have hl3 : (os ++ [row]).length ≤ O.1.length := by rw [List.length_append]; exact hl'
        obtain ⟨rn3, ru3, r363⟩ := st3.room hn (by dsimp only; omega)
        dsimp only at ru3
        rw [List.length_append] at ru3
        have ru4 : u0 + 6 * (os.length + 1) ≤ n' := ru3
        refine gt_d E T hz (kcost hn hl3) a9 m9 f9 _ e.1 _ (by rw [hm9, nI_add]; exact vp_in_nI (by omega) (by omega)) (fun G1 e1 => ?_)
        rw [nI_6]
        rw [hm9, nI_add, ix_nI (by omega)] at e1
        have st4 := st3.put (m := mN) (y := e.1) hmN rfl
        rw [← e1] at st4
        have KK := K ad' G1 V' n' st4 c1
        have eLL : (os ++ [row.set mN e.1]).length = (os ++ [row]).length := by simp
        unfold kC kS at KK ⊢
        dsimp only at KK ⊢
        rw [eLL] at KK
        exact KK
      · have c1 : ¬ e.2.1 = 0 := c1
        have eO := Fx (by rw [et]; exact c1)
        rw [et, if_neg c1] at eO
        exact ⟨rfl, ad, G, _, n, rfl, by rw [← eO]; exact st2⟩) (by
    intro ad G V n st
    have q26 : G 26 (ix a9) = nI (sa + 6 * la) := by rw [ax, st.2.1 26 (by decide)]; exact he
    rw [tb_len]
    refine gt_b E T hz ⟨Nat.le_refl _, Nat.le_refl _⟩ a9 m9 f9 (nI (sa + 6 * la)) av (fun _ => ⟨rfl, ad, G, V, n, rfl, st⟩) (fun c1 => absurd (by rw [q26]; exact Int32.le_refl _) c1))
  refine gt_a E T hz ⟨Nat.zero_le _, Nat.zero_le _⟩ a9 m9 f9 av ?_
  rw [ax, hs]
  exact r_widen (Nat.zero_le _) (Nat.zero_le _) (loop la 0 ad0 G0 V0 n0 ([], 0, V0 6) (by rw [tb_len]; omega) (Nat.zero_le _) (stC.begin hn hu h2 h5) rfl hO)
