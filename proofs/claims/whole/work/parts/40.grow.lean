/-! MAKING AND COPYING of arrays; the growth of the class's cells -/
theorem ar_i : Cond.arrayClass .int ∈ TB := TB_mem 101 (by rfl) (by rfl)
theorem ar_z : Cond.arrayClass .boolean ∈ TB := TB_mem 139 (by rfl) (by rfl)
section GROW
variable {z : Zt} {cc : ByteArray} {own : String} {cells slots : Nat} {w : va_W} {pc q : Nat} {lv : Lv} {rest : List Value}
theorem r_keep (is : List Nat) {w' : va_W} (h1 : is.filterMap (fun i => w[i]?) = w') (h2 : is.map (fun i => w[i]?) = w'.map some) (hn : va_nd is = true) (k : WW z cells slots w' pc lv rest) : WW z cells slots w pc lv rest :=
  fun H locs ls hP hD hS hl => k H locs ls (hP.sub is h1) (hD.sub is hn h2) hS hl
theorem r_newi (E : EN z cc own) {d mx sx : Nat} (hR : RR z d mx sx) {x : Int32} {N : Nat} (hx : x = nI N) (hN : N ≤ 100000) (hc : cells + 1 ≤ mx) (hs : slots + N ≤ sx) (hd : decode cc pc = .ok (.newarray .int, 2)) (hq : pc + 2 = q) (k : ∀ b : Nat, WW z (cells + 1) (slots + N) (w ++ [(b, .inl ((zk z).2.1, N, .inl (fun _ => 0)))]) q lv (.ref b :: rest)) : WW z cells slots w pc lv (.int x :: rest) := by
  subst hq
  intro H locs ls hP hD hS hl
  have hn : ¬ x < 0 := by rw [hx]; exact nI_pos (by omega)
  refine va_newa (atype := .int) (a0 := (N, .inl (fun _ => 0))) E.1 E.2.1 (E.2.2.2.2.1 _ ar_i) rfl E.2.2.2.2.2.1 hP hD hS E.2.2.2.2.2.2.1 (fun cA => rfl) hn (by rw [hx]; exact nI_clamp (by omega)) (by show N * 4 ≤ _; omega) (Nat.le_trans hc hR.2.2.1) (Nat.le_trans hs hR.2.2.2) hd (fun b cA H1 hK1 hP1 hD1 hS1 => ?_)
  have e : cA = (zk z).2.1 := by
    have h0 := (hK1.2 0 ((zk z).2.1, .int) rfl).2
    have h2 := (hK1.2 2 (cA, .int) rfl).2
    exact Option.some.inj (h2.symm.trans h0)
  subst e
  exact k b H1 locs ls hP1 hD1 hS1 hl
theorem r_newz (E : EN z cc own) {d mx sx : Nat} (hR : RR z d mx sx) {x : Int32} {N : Nat} (hx : x = nI N) (hN : N ≤ 100000) (hc : cells + 1 ≤ mx) (hs : slots + N ≤ sx) (hd : decode cc pc = .ok (.newarray .boolean, 2)) (hq : pc + 2 = q) (k : ∀ b : Nat, WW z (cells + 1) (slots + N) (w ++ [(b, .inl ((zk z).2.2, N, .inl (fun _ => 0)))]) q lv (.ref b :: rest)) : WW z cells slots w pc lv (.int x :: rest) := by
  subst hq
  intro H locs ls hP hD hS hl
  have hn : ¬ x < 0 := by rw [hx]; exact nI_pos (by omega)
  refine va_newa (atype := .boolean) (a0 := (N, .inl (fun _ => 0))) E.1 E.2.1 (E.2.2.2.2.1 _ ar_z) rfl E.2.2.2.2.2.1 hP hD hS E.2.2.2.2.2.2.1 (fun cA => rfl) hn (by rw [hx]; exact nI_clamp (by omega)) (by show N * 1 ≤ _; omega) (Nat.le_trans hc hR.2.2.1) (Nat.le_trans hs hR.2.2.2) hd (fun b cA H1 hK1 hP1 hD1 hS1 => ?_)
  have e : cA = (zk z).2.2 := by
    have h0 := (hK1.2 1 ((zk z).2.2, .boolean) rfl).2
    have h2 := (hK1.2 2 (cA, .boolean) rfl).2
    exact Option.some.inj (h2.symm.trans h0)
  subst e
  exact k b H1 locs ls hP1 hD1 hS1 hl
theorem r_copy (E : EN z cc own) {d mx sx idx : Nat} (hR : RR z (d + 1) mx sx) (hL : Cond.methodLink own idx arraycopyName ∈ TB) (q0 q1 : Nat) {a0 a1 n0 n1 : Nat} {f g : Nat → Int32} (ha0 : w[q0]? = some (a0, .inl ((zk z).2.1, n0, .inl f))) (ha1 : w[q1]? = some (a1, .inl ((zk z).2.1, n1, .inl g))) {sp dp n : Int32} {s0 d0 m0 : Nat} (hs : sp = nI s0) (hdp : dp = nI d0) (hnn : n = nI m0) (h1 : s0 + m0 ≤ n0) (h2 : d0 + m0 ≤ n1) (h3 : n0 < 2 ^ 31) (h4 : n1 < 2 ^ 31) (hcat : (rest.map fun v => v.category).sum ≤ 8) {w' : va_W} (hw : w.set q1 (a1, .inl ((zk z).2.1, n1, .inl (va_cpy f g s0 d0 m0))) = w') (hd : decode cc pc = .ok (.invokestatic idx, 3)) (hq : pc + 3 = q) (k : WW z cells slots w' q lv rest) : WW z cells slots w pc lv (.int n :: .int dp :: .ref a1 :: .int sp :: .ref a0 :: rest) := by
  subst hq
  subst hw
  intro H locs ls hP hD hS hl
  have e1 : sp.toNatClampNeg = s0 := by rw [hs]; exact nI_clamp (by omega)
  have e2 : dp.toNatClampNeg = d0 := by rw [hdp]; exact nI_clamp (by omega)
  have e3 : n.toNatClampNeg = m0 := by rw [hnn]; exact nI_clamp (by omega)
  refine va_copyi (ty := .int) E.1 E.2.1 (E.2.2.1.trans hl.1.symm) E.2.2.2.1 (E.2.2.2.2.1 _ hL) (E.2.2.2.2.1 _ ac_n) (E.2.2.2.2.1 _ ac_s) (E.2.2.2.2.1 _ ac_i) E.2.2.2.2.2.1 hP hD hS q0 q1 0 0 ha0 ha1 rfl rfl rfl (by rw [hs]; exact nI_pos (by omega)) (by rw [hdp]; exact nI_pos (by omega)) (by rw [hnn]; exact nI_pos (by omega)) (by rw [e1, e3]; exact h1) (by rw [e2, e3]; exact h2) (fun i _ => rfl) (by have := hR.1; omega) (Nat.le_trans (Nat.add_le_add_right hcat _) (Nat.le_trans (by show 8 + (7 + 11) ≤ 40 * (d + 1); omega) hR.2.1)) hd (fun H1 locs1 hP1 hD1 hS1 => ?_)
  rw [e1, e2, e3] at hP1 hD1
  exact k H1 locs1 ls hP1 hD1 hS1 hl
theorem r_aret (E : EN z cc own) {d mc ms : Nat} {w0 : va_W} {P : Option Value → va_W → Prop} {rt : FieldType} (hrt : (∃ n, rt = .object n) ∨ ∃ t, rt = .array t) (T : RT z (some rt) d w0 P mc ms) {v : Nat} (hd : decode cc pc = .ok (.areturn, 1)) (hp : P (some (.ref v)) w) : WW z mc ms w pc lv [.ref v] := by
  intro H locs ls hP hD hS hl
  rw [T.2.2.2.2]
  exact W.aret E.1 E.2.1 T.2.1 hrt (Or.inr ⟨v, rfl⟩) (fun t ht hW => ⟨⟨_, w, rfl, hp, by rw [ht]; exact hP, by rw [← T.2.2.2.1]; exact hD⟩, by rw [← T.2.2.2.1]; exact hS.F ht⟩) (by rw [← T.2.2.2.1]; exact hS.2.2) hd T.2.2.1
end GROW
set_option maxRecDepth 100000 in
set_option maxHeartbeats 800000 in
theorem c_copyOf24 {l : Launch} {k : Kt} {ad : Nat → Nat} {G : Nat → Nat → Int32} {V : Nat → Int32} {n N : Nat} (hn : n < N) (hN : N ≤ 100000) : CT l k yJ7_copyOf_59c91 cJ7_copyOf_59c91 3 (some (.array .int)) 1 [.ref (ad 24), .int (nI N)] (WC k ad G V n) (fun v w' => ∃ b : Nat, v = some (.ref b) ∧ w' = WC k ad G V n ++ [(b, .inl (k.2.1, N, .inl (va_cpy (G 24) (fun _ => 0) 0 0 n)))]) 1 N := by
  refine ct_of (own := RJ7) (lv0 := [(0, .ref (ad 24)), (1, .int (nI N))]) (by decide) rfl (Nat.le_of_ble_eq_true rfl) rfl ?_
  rintro z rfl rfl hz - E T
  refine r_iload_n E (q := 1) 1 dJ7_copyOf_59c91_0 rfl rfl rfl ?_
  refine r_aload_n E (q := 2) 0 dJ7_copyOf_59c91_1 rfl rfl rfl ?_
  refine r_alen E (q := 3) 24 wc_24 dJ7_copyOf_59c91_2 rfl ?_
  refine r_icmp_ne E (q := 6) 14 dJ7_copyOf_59c91_3 (by decide) rfl (fun c => ?_) (fun c => ?_)
  · refine r_iload_n E (q := 15) 1 dJ7_copyOf_59c91_14 rfl rfl rfl ?_
    refine r_newi E (q := 17) T.rr rfl hN (Nat.le_refl _) (by omega) dJ7_copyOf_59c91_15 rfl (fun b => ?_)
    refine r_astore_n E (lv' := [(0, .ref (ad 24)), (1, .int (nI N)), (2, .ref b)]) (q := 18) [1, 2, 0] dJ7_copyOf_59c91_17 rfl (by rw [hz]; decide) rfl rfl ?_
    refine r_aload_n E (q := 19) 0 dJ7_copyOf_59c91_18 rfl rfl rfl ?_
    refine r_iconst E (v := 0) (q := 20) dJ7_copyOf_59c91_19 (by decide) rfl ?_
    refine r_aload_n E (q := 21) 2 dJ7_copyOf_59c91_20 rfl rfl rfl ?_
    refine r_iconst E (v := 0) (q := 22) dJ7_copyOf_59c91_21 (by decide) rfl ?_
    refine r_aload_n E (q := 23) 0 dJ7_copyOf_59c91_22 rfl rfl rfl ?_
    refine r_alen E (n := n) (f := G 24) (q := 24) 24 rfl dJ7_copyOf_59c91_23 rfl ?_
    refine r_iload_n E (q := 25) 1 dJ7_copyOf_59c91_24 rfl rfl rfl ?_
    refine r_min E (d := 0) (q := 28) T.rr mnJ7_304 mn_s mn_i mn_c (Nat.le_of_ble_eq_true rfl) (by omega) (by omega) dJ7_copyOf_59c91_25 rfl ?_
    refine r_v (y := nI n) (if_neg (nI_nlt (by omega) (by omega))) ?_
    refine r_copy E (d := 0) (q := 31) T.rr acJ7_150 24 28 (f := G 24) (g := fun _ => 0) (n0 := n) (n1 := N) rfl rfl (s0 := 0) (d0 := 0) (m0 := n) rfl rfl rfl (by omega) (by omega) (by omega) (by omega) (Nat.le_of_ble_eq_true rfl) rfl dJ7_copyOf_59c91_28 rfl ?_
    refine r_aload_n E (q := 32) 2 dJ7_copyOf_59c91_31 rfl rfl rfl ?_
    refine r_widen (Nat.le_refl 1) (show 0 + N ≤ N by omega) ?_
    exact r_aret E (Or.inr ⟨_, rfl⟩) T dJ7_copyOf_59c91_32 ⟨b, rfl, rfl⟩
  · exfalso
    rw [nI_eq (by omega) (by omega)] at c
    omega
/-! how long cells is: u cells are wanted -/
def gch (n : Nat) : Prop := n = 120 ∨ n = 240 ∨ n = 480 ∨ n = 960 ∨ n = 1920 ∨ n = 3840 ∨ n = 7680 ∨ n = 15360 ∨ n = 30720 ∨ n = 36000
def gsz (u : Nat) : Nat := if u ≤ 120 then 120 else if u ≤ 240 then 240 else if u ≤ 480 then 480 else if u ≤ 960 then 960 else if u ≤ 1920 then 1920 else if u ≤ 3840 then 3840 else if u ≤ 7680 then 7680 else if u ≤ 15360 then 15360 else if u ≤ 30720 then 30720 else 36000
def gw (n u : Nat) : Nat := if gsz u ≤ n then n else gsz u
def gph (n : Nat) : Nat := if n < 36000 then 2 * n else 108000
def kc (n u : Nat) : Nat := gw n u - n
def ks (n u : Nat) : Nat := gph (gw n u) - gph n
theorem gsz_ch (u : Nat) : gch (gsz u) := by
  unfold gch gsz; repeat' split
  all_goals omega
theorem gsz_ge {u : Nat} (h : u ≤ 36000) : u ≤ gsz u := by
  unfold gsz; repeat' split
  all_goals omega
theorem gsz_mono {u v : Nat} (h : u ≤ v) : gsz u ≤ gsz v := by
  unfold gsz; repeat' split
  all_goals omega
theorem gch_le {n : Nat} (h : gch n) : 120 ≤ n ∧ n ≤ 36000 := by unfold gch at h; omega
theorem gw_ch {n u : Nat} (h : gch n) : gch (gw n u) := by
  unfold gw; split
  · exact h
  · exact gsz_ch u
theorem gw_ge {n u : Nat} (h : u ≤ 36000) : u ≤ gw n u := by
  have := gsz_ge h
  unfold gw; split <;> omega
theorem gw_n (n u : Nat) : n ≤ gw n u := by unfold gw; split <;> omega
theorem gw_gw {n u v : Nat} (h : u ≤ v) : gw (gw n u) v = gw n v := by
  have := gsz_mono h
  unfold gw; repeat' split
  all_goals omega
theorem gw_mono {n u v : Nat} (h : u ≤ v) : gw n u ≤ gw n v := by
  have := gsz_mono h
  unfold gw; repeat' split
  all_goals omega
theorem gw_id {n u : Nat} (hn : gch n) (h : u ≤ n) : gw n u = n := by
  unfold gw; rw [if_pos]
  unfold gch at hn; unfold gsz; repeat' split
  all_goals omega
theorem gw_up {n u : Nat} (hn : gch n) (h : u ≤ n) (h2 : n < u + 6) (h3 : u + 6 ≤ 36000) : gw n (u + 6) = (if 36000 < 2 * n then 36000 else 2 * n) ∧ n < gw n (u + 6) := by
  unfold gw gsz; unfold gch at hn; repeat' split
  all_goals omega
theorem gph_mono {n m : Nat} (h : n ≤ m) (hm : m ≤ 36000) : gph n ≤ gph m := by
  unfold gph; repeat' split
  all_goals omega
theorem gph_up {n : Nat} (hn : gch n) (h : n < 36000) : (if 36000 < 2 * n then 36000 else 2 * n) ≤ gph (if 36000 < 2 * n then 36000 else 2 * n) - gph n := by
  unfold gph; unfold gch at hn; repeat' split
  all_goals omega
theorem kc_add {n u v : Nat} (h : u ≤ v) : kc n u + kc (gw n u) v = kc n v := by
  unfold kc; rw [gw_gw h]; have := gw_n n u; have := gw_mono (n := n) h; omega
theorem ks_add {n u v : Nat} (hn : gch n) (h : u ≤ v) : ks n u + ks (gw n u) v = ks n v := by
  unfold ks; rw [gw_gw h]
  have a := gph_mono (gw_n n u) (gch_le (gw_ch (u := u) hn)).2
  have b := gph_mono (gw_mono (n := n) h) (gch_le (gw_ch (u := v) hn)).2
  omega
theorem kc_mono {n u v : Nat} (h : u ≤ v) : kc n u ≤ kc n v := by have := kc_add (n := n) h; omega
theorem ks_mono {n u v : Nat} (hn : gch n) (h : u ≤ v) : ks n u ≤ ks n v := by have := ks_add hn h; omega
theorem kc_0 {n u : Nat} (hn : gch n) (h : u ≤ n) : kc n u = 0 := by unfold kc; rw [gw_id hn h]; omega
theorem ks_0 {n u : Nat} (hn : gch n) (h : u ≤ n) : ks n u = 0 := by unfold ks; rw [gw_id hn h]; omega
