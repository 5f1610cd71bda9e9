def ap1G (G : Nat → Nat → Int32) (V : Nat → Int32) (x : Int32) : Nat → Nat → Int32 := fX2_exchange_G (fX2_addLike_G G (upd V 9 (V 9 + 1)) x (G 14 (ix (G 14 (ix x))))) x (G 14 (ix x)) (fX2_addLike G (upd V 9 (V 9 + 1)) x (G 14 (ix (G 14 (ix x))))) ((fX2_addLike_G G (upd V 9 (V 9 + 1)) x (G 14 (ix (G 14 (ix x))))) 15 (ix (G 14 (ix x))))
def ap1V (G : Nat → Nat → Int32) (V : Nat → Int32) (x : Int32) : Nat → Int32 := (fX2_addLike_V G (upd V 9 (V 9 + 1)) x (G 14 (ix (G 14 (ix x)))))
def ap3G (G : Nat → Nat → Int32) (V : Nat → Int32) (x : Int32) : Nat → Nat → Int32 := fX2_exchange_G (fX2_addLike_G G (upd V 9 (V 9 + 1)) x (G 15 (ix (G 14 (ix x))))) x (G 14 (ix x)) (G 14 (ix (G 14 (ix x)))) (fX2_addLike G (upd V 9 (V 9 + 1)) x (G 15 (ix (G 14 (ix x)))))
def ap3V (G : Nat → Nat → Int32) (V : Nat → Int32) (x : Int32) : Nat → Int32 := (fX2_addLike_V G (upd V 9 (V 9 + 1)) x (G 15 (ix (G 14 (ix x)))))
def ap4G (G : Nat → Nat → Int32) (V : Nat → Int32) (x : Int32) : Nat → Nat → Int32 := fX2_exchange_G (fX2_addLike_G (fX2_addLike_G G (upd V 9 (V 9 + 1)) x (G 14 (ix (G 14 (ix x))))) (fX2_addLike_V G (upd V 9 (V 9 + 1)) x (G 14 (ix (G 14 (ix x))))) x ((fX2_addLike_G G (upd V 9 (V 9 + 1)) x (G 14 (ix (G 14 (ix x))))) 15 (ix (G 14 (ix x))))) x (G 14 (ix x)) (fX2_addLike G (upd V 9 (V 9 + 1)) x (G 14 (ix (G 14 (ix x))))) (fX2_addLike (fX2_addLike_G G (upd V 9 (V 9 + 1)) x (G 14 (ix (G 14 (ix x))))) (fX2_addLike_V G (upd V 9 (V 9 + 1)) x (G 14 (ix (G 14 (ix x))))) x ((fX2_addLike_G G (upd V 9 (V 9 + 1)) x (G 14 (ix (G 14 (ix x))))) 15 (ix (G 14 (ix x)))))
def ap4V (G : Nat → Nat → Int32) (V : Nat → Int32) (x : Int32) : Nat → Int32 := (fX2_addLike_V (fX2_addLike_G G (upd V 9 (V 9 + 1)) x (G 14 (ix (G 14 (ix x))))) (fX2_addLike_V G (upd V 9 (V 9 + 1)) x (G 14 (ix (G 14 (ix x))))) x ((fX2_addLike_G G (upd V 9 (V 9 + 1)) x (G 14 (ix (G 14 (ix x))))) 15 (ix (G 14 (ix x)))))
def ap7G (G : Nat → Nat → Int32) (V : Nat → Int32) (x : Int32) : Nat → Nat → Int32 := fX2_skip_G (fX0_add_G G (upd V 9 (V 9 + 1)) 9 (G 17 (ix (G 14 (ix x)))) (G 17 (ix x))) x (G 14 (ix x)) (fX0_add G (upd V 9 (V 9 + 1)) 9 (G 17 (ix (G 14 (ix x)))) (G 17 (ix x)))
def ap7V (G : Nat → Nat → Int32) (V : Nat → Int32) (x : Int32) : Nat → Int32 := fX0_add_V G (upd V 9 (V 9 + 1)) 9 (G 17 (ix (G 14 (ix x)))) (G 17 (ix x))
def apSG (G : Nat → Nat → Int32) (V : Nat → Int32) (x : Int32) (w : Int32) : Nat → Nat → Int32 := fX2_skip_G G x (G 14 (ix x)) w
def ap12G (G : Nat → Nat → Int32) (V : Nat → Int32) (x : Int32) : Nat → Nat → Int32 := fX2_workAbove_G (fX2_addLike_G (fX2_addLike_G G (upd V 9 (V 9 + 1)) x (G 14 (ix (G 14 (ix x))))) (fX2_addLike_V G (upd V 9 (V 9 + 1)) x (G 14 (ix (G 14 (ix x))))) x ((fX2_addLike_G G (upd V 9 (V 9 + 1)) x (G 14 (ix (G 14 (ix x))))) 15 (ix (G 14 (ix x))))) (fX2_addLike_V (fX2_addLike_G G (upd V 9 (V 9 + 1)) x (G 14 (ix (G 14 (ix x))))) (fX2_addLike_V G (upd V 9 (V 9 + 1)) x (G 14 (ix (G 14 (ix x))))) x ((fX2_addLike_G G (upd V 9 (V 9 + 1)) x (G 14 (ix (G 14 (ix x))))) 15 (ix (G 14 (ix x))))) x (fX2_addLike G (upd V 9 (V 9 + 1)) x (G 14 (ix (G 14 (ix x))))) (fX2_addLike (fX2_addLike_G G (upd V 9 (V 9 + 1)) x (G 14 (ix (G 14 (ix x))))) (fX2_addLike_V G (upd V 9 (V 9 + 1)) x (G 14 (ix (G 14 (ix x))))) x ((fX2_addLike_G G (upd V 9 (V 9 + 1)) x (G 14 (ix (G 14 (ix x))))) 15 (ix (G 14 (ix x)))))
def ap12V (G : Nat → Nat → Int32) (V : Nat → Int32) (x : Int32) : Nat → Int32 := fX2_workAbove_V (fX2_addLike_G (fX2_addLike_G G (upd V 9 (V 9 + 1)) x (G 14 (ix (G 14 (ix x))))) (fX2_addLike_V G (upd V 9 (V 9 + 1)) x (G 14 (ix (G 14 (ix x))))) x ((fX2_addLike_G G (upd V 9 (V 9 + 1)) x (G 14 (ix (G 14 (ix x))))) 15 (ix (G 14 (ix x))))) (fX2_addLike_V (fX2_addLike_G G (upd V 9 (V 9 + 1)) x (G 14 (ix (G 14 (ix x))))) (fX2_addLike_V G (upd V 9 (V 9 + 1)) x (G 14 (ix (G 14 (ix x))))) x ((fX2_addLike_G G (upd V 9 (V 9 + 1)) x (G 14 (ix (G 14 (ix x))))) 15 (ix (G 14 (ix x))))) x (fX2_addLike G (upd V 9 (V 9 + 1)) x (G 14 (ix (G 14 (ix x))))) (fX2_addLike (fX2_addLike_G G (upd V 9 (V 9 + 1)) x (G 14 (ix (G 14 (ix x))))) (fX2_addLike_V G (upd V 9 (V 9 + 1)) x (G 14 (ix (G 14 (ix x))))) x ((fX2_addLike_G G (upd V 9 (V 9 + 1)) x (G 14 (ix (G 14 (ix x))))) 15 (ix (G 14 (ix x)))))
def apG (G : Nat → Nat → Int32) (V : Nat → Int32) (x : Int32) (r : Nat) : Nat → Nat → Int32 := if r = 3 then ap3G G V x else if r = 4 ∨ r = 11 then ap4G G V x else if r = 7 then ap7G G V x else if r = 9 then apSG G V x ((G 17 (ix (G 14 (ix x)))) &&& (G 17 (ix x))) else if r = 15 then apSG G V x (if G 17 (ix x) < G 17 (ix (G 14 (ix x))) then G 17 (ix x) else G 17 (ix (G 14 (ix x)))) else if r = 8 ∨ r = 10 ∨ r = 13 ∨ r = 14 then apSG G V x (G 17 (ix x)) else if r = 12 ∨ r = 16 then ap12G G V x else ap1G G V x
def apV (G : Nat → Nat → Int32) (V : Nat → Int32) (x : Int32) (r : Nat) : Nat → Int32 := if r = 3 then ap3V G V x else if r = 4 ∨ r = 11 then ap4V G V x else if r = 7 then ap7V G V x else if r = 9 ∨ r = 15 ∨ r = 8 ∨ r = 10 ∨ r = 13 ∨ r = 14 then (upd V 9 (V 9 + 1)) else if r = 12 ∨ r = 16 then ap12V G V x else ap1V G V x
theorem suits_kinds {G : Nat → Nat → Int32} {x r : Int32} (h : ¬ fX2_suits G x r = 0) : G 13 (ix x) = uT (ix r) ∧ G 13 (ix (G 14 (ix x))) = lT (ix r) := by
  unfold fX2_suits at h
  by_cases a : G 13 (ix x) = uT (ix r)
  · rw [if_pos a] at h
    by_cases b : G 13 (ix (G 14 (ix x))) = lT (ix r)
    · exact ⟨a, b⟩
    · rw [if_neg b] at h; exact absurd rfl h
  · rw [if_neg a] at h; exact absurd rfl h
theorem SIMP_of {G G' H H' : Nat → Nat → Int32} {V V' U U' : Nat → Int32} (S : SIMP G V H U) (e1 : G' = G) (e2 : V' 0 = V 0 ∧ V' 1 = V 1 ∧ V' 9 = V 9) (e3 : H' = H) (e4 : U' 0 = U 0 ∧ U' 1 = U 1 ∧ U' 2 = U 2) : SIMP G' V' H' U' := by
  subst e1; subst e3
  obtain ⟨nn, nf, bd, rk, p, a, u0, u1, u2⟩ := S
  exact ⟨nn, nf, bd, rk, p.v e2.1 e2.2.1, a, e4.1.trans u0, e4.2.1.trans u1, e4.2.2.trans (u2.trans e2.2.2.symm)⟩
theorem and64 : ∀ a : Nat, a < 64 → ∀ b : Nat, b < 64 → nI a &&& nI b = nI (a &&& b) ∧ a &&& b < 64 := by decide +kernel
theorem put_keep {H : Nat → Nat → Int32} {y k a b m v : Int32} {j p : Nat} (h : j ≠ ix y) : fX6_put_G H y k a b m v p j = H p j := by
  unfold fX6_put_G; simp only [ug_if, h, and_false, if_false]
theorem write_keep {G : Nat → Nat → Int32} {y k a b m v : Int32} {j p : Nat} (h : j ≠ ix y) : fX1_write_G G y k a b m v p j = G p j := by
  unfold fX1_write_G; simp only [ug_if, h, and_false, if_false]
theorem room_n {G : Nat → Nat → Int32} {V : Nat → Int32} {x : Int32} {nn r w : Nat} (hn : nn ≤ 60) (h1 : V 1 = nI nn) (hr : r < 18) (r7 : r ≠ 7) (hw : nT r = nI w) (w3 : w ≤ 3) (h : ¬ fX2_hasRoom G V x (nI r) = 0) : nn + w ≤ 60 := by
  unfold fX2_hasRoom at h
  rw [if_neg (show ¬ nI r = 7 from fun e => r7 ((nI_eq (b := 7) (by omega) (by decide)).mp e)), ix_nI (by omega), hw] at h
  unfold fX1_hasRoom at h
  rw [h1, nI_add, show (60 : Int32) = nI 60 from rfl] at h
  rcases Nat.lt_or_ge 60 (nn + w) with q | q
  · rw [if_pos (nI_lt q (by omega))] at h; exact absurd rfl h
  · exact q
theorem bothF (G : Nat → Nat → Int32) (a b : Int32) : (¬ fX0_failsOf G 9 a b = 0) ↔ (¬ G 11 (ix a) = 0 ∨ ¬ G 11 (ix b) = 0) := by
  unfold fX0_failsOf
  rw [if_neg (show ¬ (9 : Int32) = 5 by decide), if_neg (show ¬ (9 : Int32) = 6 by decide), if_neg (show ¬ fX0_takesFirst 9 = 0 by decide), if_neg (show ¬ fX0_takesSecond 9 = 0 by decide)]
  by_cases c : G 11 (ix a) = 0
  · rw [if_pos c]
    by_cases d : G 11 (ix b) = 0
    · rw [if_pos d]; simp [c, d]
    · rw [if_neg d]; simp [c, d]
  · rw [if_neg c]; simp [c]
theorem mn_lt {a b : Nat} (ha : a < 2 ^ 31) (hb : b < 2 ^ 31) : (if nI a < nI b then nI a else nI b) = nI (if a < b then a else b) := by
  by_cases c : a < b
  · rw [if_pos c, if_pos (nI_lt c hb)]
  · rw [if_neg c, if_neg (nI_nlt (by omega) ha)]
theorem mn_le {a b : Nat} (ha : a < 2 ^ 31) (hb : b < 2 ^ 31) : (if nI a ≤ nI b then nI a else nI b) = nI (if a < b then a else b) := by
  by_cases c : a < b
  · rw [if_pos c, if_pos (nI_le (by omega) hb)]
  · rw [if_neg c]
    by_cases d : a = b
    · rw [d, if_pos (Int32.le_refl _)]
    · rw [if_neg (nI_ge (by omega) ha)]
theorem cond8 {G : Nat → Nat → Int32} {V : Nat → Int32} {nn nf : Nat} {bd rk : Nat → Nat} {x c v2 : Nat} (q2 : G 14 (ix (nI x)) = nI c) (p5 : G 17 (ix (nI c)) = nI v2) (hv : v2 < 2 ^ 31) (hs : ¬ fX2_suits G (nI x) (nI 8) = 0) : ¬ FFp G v2 := by
  obtain ⟨hk, hc⟩ := suits_kinds hs
  unfold fX2_suits at hs
  rw [if_pos hk, if_pos hc, if_neg (by decide)] at hs
  unfold fX2_suitsOther at hs
  rw [if_pos (show (nI 8 : Int32) = 8 by decide), q2, p5, ix_nI hv] at hs
  intro w
  apply hs
  rw [if_neg (show ¬ G 11 v2 = 0 from w)]
  repeat' split
  all_goals rfl
theorem cond8m {G : Nat → Nat → Int32} {x c : Nat} (q2 : G 14 (ix (nI x)) = nI c) (hs : ¬ fX2_suits G (nI x) (nI 8) = 0) : G 16 (ix (nI c)) = G 16 (ix (nI x)) := by
  obtain ⟨hk, hc⟩ := suits_kinds hs
  unfold fX2_suits at hs
  rw [if_pos hk, if_pos hc, if_neg (by decide)] at hs
  unfold fX2_suitsOther at hs
  rw [if_pos (show (nI 8 : Int32) = 8 by decide), q2] at hs
  by_cases w : G 16 (ix (nI c)) = G 16 (ix (nI x))
  · exact w
  · rw [if_neg w] at hs; exact absurd rfl hs
theorem cond10 {G : Nat → Nat → Int32} {V : Nat → Int32} {nn nf : Nat} {bd rk : Nat → Nat} {x c v2 : Nat} (q2 : G 14 (ix (nI x)) = nI c) (p5 : G 17 (ix (nI c)) = nI v2) (hv : v2 < 2 ^ 31) (hs : ¬ fX2_suits G (nI x) (nI 10) = 0) : ¬ FFp G v2 := by
  obtain ⟨hk, hc⟩ := suits_kinds hs
  unfold fX2_suits at hs
  rw [if_pos hk, if_pos hc, if_neg (by decide)] at hs
  unfold fX2_suitsOther at hs
  rw [if_neg (show ¬ (nI 10 : Int32) = 8 by decide), if_neg (show ¬ (nI 10 : Int32) = 9 by decide), if_pos (show (nI 10 : Int32) = 10 by decide), q2, p5, ix_nI hv] at hs
  intro w
  apply hs
  rw [if_neg (show ¬ G 11 v2 = 0 from w)]
  repeat' split
  all_goals rfl
set_option maxHeartbeats 800000 in
theorem rs_0 {G H : Nat → Nat → Int32} {V U : Nat → Int32} {nn nf : Nat} {bd rk : Nat → Nat} (h : PLC G V nn nf bd rk) (ag : AGR G H nn nf) (u0 : U 0 = nI nf) (u1 : U 1 = nI nn) (u2 : U 2 = V 9) {x : Nat} (hx : x < nn) (hs : ¬ fX2_suits G (nI x) (nI 0) = 0) (hr : ¬ fX2_hasRoom G V (nI x) (nI 0) = 0) : SIMP (apG G V (nI x) 0) (apV G V (nI x) 0) (fX6_rewrites_G H U (nI x) (nI 0)) (fX6_rewrites_V H U (nI x) (nI 0)) := by
  obtain ⟨hk, hc⟩ := suits_kinds hs
  have hnn := h.1
  obtain ⟨k, c, b, m, v, ⟨q1, q2, q3, q4, q5⟩, sx, bx, ebx, fx, -⟩ := h.node hx
  have ex : ix (nI x) = x := ix_nI (by omega)
  have hkU : k = 1 := (kI sx.1 (by decide : 1 < 2 ^ 31)).mp (by rw [ex, q1] at hk; exact hk.trans (by decide))
  subst hkU
  have hcn : c < nn := (sx.2.2.1 (by decide)).1
  obtain ⟨k2, a2, b2, m2, v2, ⟨p1, p2, p3, p4, p5⟩, sc, bc, ebc, fc, -⟩ := h.node hcn
  have ec : ix (nI c) = c := ix_nI (by omega)
  have hkL : k2 = 2 := (kI sc.1 (by decide : 2 < 2 ^ 31)).mp (by rw [ex, q2, ec, p1] at hc; exact hc.trans (by decide))
  subst hkL
  have hb0 : b = 0 := sx.2.2.2.2.1 (by decide)
  subst hb0
  have hm0 : m = 0 := sx.2.2.2.2.2.2.1 (by decide)
  subst hm0
  have hb20 : b2 = 0 := sc.2.2.2.2.1 (by decide)
  subst hb20
  obtain ⟨a1, a2', a3, a4, a5⟩ := ag.2.2.2.2 x hx
  obtain ⟨d1, d2, d3, d4, d5⟩ := ag.2.2.2.2 c hcn
  have ha2 := sc.2.2.1 (by decide)
  have hb2 : True := trivial
  rw [q1] at a1
  rw [q2] at a2'
  rw [q4] at a4
  rw [q5] at a5
  rw [p1] at d1
  rw [p2] at d2
  rw [p3] at d3
  rw [p4] at d4
  rw [p5] at d5
  have room : nn + 1 ≤ 60 := room_n hnn h.2.2.2.1 (by decide) (by decide) (by decide) (by decide) hr
  refine SIMP_of (rw_one h ag u0 u1 u2 (y := a2) (a3 := nn) (b3 := 0) (by omega) hx hcn sx sc (by decide) (by decide) (by decide) (ha2) (by show bd a2 ≤ 100; obtain ⟨_, _, _, _, _, _, _, q, _⟩ := h.node (ha2).1; exact q) (Or.inl ⟨rfl, rfl⟩) ?hb ?hf rfl rfl) ?g ⟨rfl, rfl, rfl⟩ ?hh ?uu
  case hb => rw [show bdN (va_up bd nn (bdN bd 1 a2 0 v)) 2 nn _ _ = va_up bd nn (bd a2) nn from rfl, va_up_self]; exact (ebx.trans ebc).symm
  case hf => rw [fx, flP_congr fc Iff.rfl Iff.rfl]; simp only [flP, show ¬ 0 = nn by omega, if_true, if_false]; generalize FLp G a2 = A9; generalize FFp G v = F9; generalize FFp G v2 = F8; by_cases hA : A9 <;> by_cases hF : F9 <;> by_cases hF2 : F8 <;> simp [hA, hF, hF2]
  case g =>
    show ap1G G V (nI x) = _
    unfold ap1G
    simp only [fX2_exchange_G, fX2_addLike_G, fX2_addLike, fX2_addLike_V, fX2_skip_G, fX2_workAbove_G, fX2_workAbove_V, fX1_add_G, fX1_add, fX1_add_V, ex, ec, q1, q2, q4, q5, p1, p2, p3, p4, p5, h.2.2.2.1, pk_us, pk_un (show (1 : Nat) ≠ 9 by decide), pk_un (show (0 : Nat) ≠ 9 by decide), nI_1, write_keep (j := c) (show c ≠ ix (nI nn) by rw [ix_nI (by omega)]; omega), write_keep (j := x) (show x ≠ ix (nI nn) by rw [ix_nI (by omega)]; omega)]
    try rfl
  case hh =>
    unfold fX6_rewrites_G
    rw [if_pos (show (nI 0 : Int32) = 0 by decide)]
    simp only [fX6_lay_G, fX6_lay, ex, ec, ← a1, ← a2', ← a4, ← a5, ← d1, ← d2, ← d3, ← d4, ← d5, u1, pk_us, pk_un (show (1 : Nat) ≠ 2 by decide), pk_un (show (0 : Nat) ≠ 2 by decide), nI_1, put_keep (j := c) (show c ≠ ix (nI nn) by rw [ix_nI (by omega)]; omega), put_keep (j := x) (show x ≠ ix (nI nn) by rw [ix_nI (by omega)]; omega)]
    try rfl
  case uu =>
    unfold fX6_rewrites_V
    rw [if_pos (show (nI 0 : Int32) = 0 by decide)]
    exact ⟨rfl, rfl, rfl⟩
set_option maxHeartbeats 800000 in
theorem rs_1 {G H : Nat → Nat → Int32} {V U : Nat → Int32} {nn nf : Nat} {bd rk : Nat → Nat} (h : PLC G V nn nf bd rk) (ag : AGR G H nn nf) (u0 : U 0 = nI nf) (u1 : U 1 = nI nn) (u2 : U 2 = V 9) {x : Nat} (hx : x < nn) (hs : ¬ fX2_suits G (nI x) (nI 1) = 0) (hr : ¬ fX2_hasRoom G V (nI x) (nI 1) = 0) : SIMP (apG G V (nI x) 1) (apV G V (nI x) 1) (fX6_rewrites_G H U (nI x) (nI 1)) (fX6_rewrites_V H U (nI x) (nI 1)) := by
  obtain ⟨hk, hc⟩ := suits_kinds hs
  have hnn := h.1
  obtain ⟨k, c, b, m, v, ⟨q1, q2, q3, q4, q5⟩, sx, bx, ebx, fx, -⟩ := h.node hx
  have ex : ix (nI x) = x := ix_nI (by omega)
  have hkU : k = 1 := (kI sx.1 (by decide : 1 < 2 ^ 31)).mp (by rw [ex, q1] at hk; exact hk.trans (by decide))
  subst hkU
  have hcn : c < nn := (sx.2.2.1 (by decide)).1
  obtain ⟨k2, a2, b2, m2, v2, ⟨p1, p2, p3, p4, p5⟩, sc, bc, ebc, fc, -⟩ := h.node hcn
  have ec : ix (nI c) = c := ix_nI (by omega)
  have hkL : k2 = 3 := (kI sc.1 (by decide : 3 < 2 ^ 31)).mp (by rw [ex, q2, ec, p1] at hc; exact hc.trans (by decide))
  subst hkL
  have hb0 : b = 0 := sx.2.2.2.2.1 (by decide)
  subst hb0
  have hm0 : m = 0 := sx.2.2.2.2.2.2.1 (by decide)
  subst hm0
  have hb20 : b2 = 0 := sc.2.2.2.2.1 (by decide)
  subst hb20
  have hm20 : m2 = 0 := sc.2.2.2.2.2.2.1 (by decide)
  subst hm20
  obtain ⟨a1, a2', a3, a4, a5⟩ := ag.2.2.2.2 x hx
  obtain ⟨d1, d2, d3, d4, d5⟩ := ag.2.2.2.2 c hcn
  have ha2 := sc.2.2.1 (by decide)
  have hb2 : True := trivial
  rw [q1] at a1
  rw [q2] at a2'
  rw [q4] at a4
  rw [q5] at a5
  rw [p1] at d1
  rw [p2] at d2
  rw [p3] at d3
  rw [p4] at d4
  rw [p5] at d5
  have room : nn + 1 ≤ 60 := room_n hnn h.2.2.2.1 (by decide) (by decide) (by decide) (by decide) hr
  refine SIMP_of (rw_one h ag u0 u1 u2 (y := a2) (a3 := nn) (b3 := 0) (by omega) hx hcn sx sc (by decide) (by decide) (by decide) (ha2) (by show bd a2 ≤ 100; obtain ⟨_, _, _, _, _, _, _, q, _⟩ := h.node (ha2).1; exact q) (Or.inl ⟨rfl, rfl⟩) ?hb ?hf rfl rfl) ?g ⟨rfl, rfl, rfl⟩ ?hh ?uu
  case hb => rw [show bdN (va_up bd nn (bdN bd 1 a2 0 v)) 3 nn _ _ = va_up bd nn (bd a2) nn from rfl, va_up_self]; exact (ebx.trans ebc).symm
  case hf => rw [fx, flP_congr fc Iff.rfl Iff.rfl]; simp only [flP, show ¬ 0 = nn by omega, if_true, if_false]; generalize FLp G a2 = A9; generalize FFp G v = F9; generalize FFp G v2 = F8; by_cases hA : A9 <;> by_cases hF : F9 <;> by_cases hF2 : F8 <;> simp [hA, hF, hF2]
  case g =>
    show ap1G G V (nI x) = _
    unfold ap1G
    simp only [fX2_exchange_G, fX2_addLike_G, fX2_addLike, fX2_addLike_V, fX2_skip_G, fX2_workAbove_G, fX2_workAbove_V, fX1_add_G, fX1_add, fX1_add_V, ex, ec, q1, q2, q4, q5, p1, p2, p3, p4, p5, h.2.2.2.1, pk_us, pk_un (show (1 : Nat) ≠ 9 by decide), pk_un (show (0 : Nat) ≠ 9 by decide), nI_1, write_keep (j := c) (show c ≠ ix (nI nn) by rw [ix_nI (by omega)]; omega), write_keep (j := x) (show x ≠ ix (nI nn) by rw [ix_nI (by omega)]; omega)]
    try rfl
  case hh =>
    unfold fX6_rewrites_G
    rw [if_neg (show ¬ (nI 1 : Int32) = 0 by decide), if_pos (show (nI 1 : Int32) = 1 by decide)]
    simp only [fX6_lay_G, fX6_lay, ex, ec, ← a1, ← a2', ← a4, ← a5, ← d1, ← d2, ← d3, ← d4, ← d5, u1, pk_us, pk_un (show (1 : Nat) ≠ 2 by decide), pk_un (show (0 : Nat) ≠ 2 by decide), nI_1, put_keep (j := c) (show c ≠ ix (nI nn) by rw [ix_nI (by omega)]; omega), put_keep (j := x) (show x ≠ ix (nI nn) by rw [ix_nI (by omega)]; omega)]
    try rfl
  case uu =>
    unfold fX6_rewrites_V
    rw [if_neg (show ¬ (nI 1 : Int32) = 0 by decide), if_pos (show (nI 1 : Int32) = 1 by decide)]
    exact ⟨rfl, rfl, rfl⟩
set_option maxHeartbeats 800000 in
theorem rs_2 {G H : Nat → Nat → Int32} {V U : Nat → Int32} {nn nf : Nat} {bd rk : Nat → Nat} (h : PLC G V nn nf bd rk) (ag : AGR G H nn nf) (u0 : U 0 = nI nf) (u1 : U 1 = nI nn) (u2 : U 2 = V 9) {x : Nat} (hx : x < nn) (hs : ¬ fX2_suits G (nI x) (nI 2) = 0) (hr : ¬ fX2_hasRoom G V (nI x) (nI 2) = 0) : SIMP (apG G V (nI x) 2) (apV G V (nI x) 2) (fX6_rewrites_G H U (nI x) (nI 2)) (fX6_rewrites_V H U (nI x) (nI 2)) := by
  obtain ⟨hk, hc⟩ := suits_kinds hs
  have hnn := h.1
  obtain ⟨k, c, b, m, v, ⟨q1, q2, q3, q4, q5⟩, sx, bx, ebx, fx, -⟩ := h.node hx
  have ex : ix (nI x) = x := ix_nI (by omega)
  have hkU : k = 1 := (kI sx.1 (by decide : 1 < 2 ^ 31)).mp (by rw [ex, q1] at hk; exact hk.trans (by decide))
  subst hkU
  have hcn : c < nn := (sx.2.2.1 (by decide)).1
  obtain ⟨k2, a2, b2, m2, v2, ⟨p1, p2, p3, p4, p5⟩, sc, bc, ebc, fc, -⟩ := h.node hcn
  have ec : ix (nI c) = c := ix_nI (by omega)
  have hkL : k2 = 4 := (kI sc.1 (by decide : 4 < 2 ^ 31)).mp (by rw [ex, q2, ec, p1] at hc; exact hc.trans (by decide))
  subst hkL
  have hb0 : b = 0 := sx.2.2.2.2.1 (by decide)
  subst hb0
  have hm0 : m = 0 := sx.2.2.2.2.2.2.1 (by decide)
  subst hm0
  obtain ⟨a1, a2', a3, a4, a5⟩ := ag.2.2.2.2 x hx
  obtain ⟨d1, d2, d3, d4, d5⟩ := ag.2.2.2.2 c hcn
  have ha2 := sc.2.2.1 (by decide)
  have hb2 : b2 < nn := (sc.2.2.2.1 (by decide)).1
  rw [q1] at a1
  rw [q2] at a2'
  rw [q4] at a4
  rw [q5] at a5
  rw [p1] at d1
  rw [p2] at d2
  rw [p3] at d3
  rw [p4] at d4
  rw [p5] at d5
  have room : nn + 1 ≤ 60 := room_n hnn h.2.2.2.1 (by decide) (by decide) (by decide) (by decide) hr
  refine SIMP_of (rw_one h ag u0 u1 u2 (y := a2) (a3 := nn) (b3 := b2) (by omega) hx hcn sx sc (by decide) (by decide) (by decide) (ha2) (by show bd a2 ≤ 100; obtain ⟨_, _, _, _, _, _, _, q, _⟩ := h.node (ha2).1; exact q) (Or.inl ⟨rfl, rfl⟩) ?hb ?hf rfl rfl) ?g ⟨rfl, rfl, rfl⟩ ?hh ?uu
  case hb => rw [show bdN (va_up bd nn (bdN bd 1 a2 0 v)) 4 nn b2 v2 = va_up bd nn (bd a2) nn * va_up bd nn (bd a2) b2 from rfl, va_up_self, va_up_ne _ _ (show b2 ≠ nn by omega)]; exact (ebx.trans ebc).symm
  case hf => rw [fx, flP_congr fc Iff.rfl Iff.rfl]; simp only [flP, show ¬ b2 = nn by omega, show ¬ 0 = nn by omega, if_true, if_false]; generalize FLp G a2 = A9; generalize FLp G b2 = B9; generalize FLp G 0 = Z9; generalize FFp G v = F9; generalize FFp G v2 = F8; by_cases hA : A9 <;> by_cases hB : B9 <;> by_cases hF : F9 <;> by_cases hF2 : F8 <;> simp [hA, hB, hF, hF2]
  case g =>
    show ap1G G V (nI x) = _
    unfold ap1G
    simp only [fX2_exchange_G, fX2_addLike_G, fX2_addLike, fX2_addLike_V, fX2_skip_G, fX2_workAbove_G, fX2_workAbove_V, fX1_add_G, fX1_add, fX1_add_V, ex, ec, q1, q2, q4, q5, p1, p2, p3, p4, p5, h.2.2.2.1, pk_us, pk_un (show (1 : Nat) ≠ 9 by decide), pk_un (show (0 : Nat) ≠ 9 by decide), nI_1, write_keep (j := c) (show c ≠ ix (nI nn) by rw [ix_nI (by omega)]; omega), write_keep (j := x) (show x ≠ ix (nI nn) by rw [ix_nI (by omega)]; omega)]
    try rfl
  case hh =>
    unfold fX6_rewrites_G
    rw [if_neg (show ¬ (nI 2 : Int32) = 0 by decide), if_neg (show ¬ (nI 2 : Int32) = 1 by decide), if_pos (show (nI 2 : Int32) = 2 by decide)]
    simp only [fX6_lay_G, fX6_lay, ex, ec, ← a1, ← a2', ← a4, ← a5, ← d1, ← d2, ← d3, ← d4, ← d5, u1, pk_us, pk_un (show (1 : Nat) ≠ 2 by decide), pk_un (show (0 : Nat) ≠ 2 by decide), nI_1, put_keep (j := c) (show c ≠ ix (nI nn) by rw [ix_nI (by omega)]; omega), put_keep (j := x) (show x ≠ ix (nI nn) by rw [ix_nI (by omega)]; omega)]
    try rfl
  case uu =>
    unfold fX6_rewrites_V
    rw [if_neg (show ¬ (nI 2 : Int32) = 0 by decide), if_neg (show ¬ (nI 2 : Int32) = 1 by decide), if_pos (show (nI 2 : Int32) = 2 by decide)]
    exact ⟨rfl, rfl, rfl⟩
set_option maxHeartbeats 800000 in
theorem rs_3 {G H : Nat → Nat → Int32} {V U : Nat → Int32} {nn nf : Nat} {bd rk : Nat → Nat} (h : PLC G V nn nf bd rk) (ag : AGR G H nn nf) (u0 : U 0 = nI nf) (u1 : U 1 = nI nn) (u2 : U 2 = V 9) {x : Nat} (hx : x < nn) (hs : ¬ fX2_suits G (nI x) (nI 3) = 0) (hr : ¬ fX2_hasRoom G V (nI x) (nI 3) = 0) : SIMP (apG G V (nI x) 3) (apV G V (nI x) 3) (fX6_rewrites_G H U (nI x) (nI 3)) (fX6_rewrites_V H U (nI x) (nI 3)) := by
  obtain ⟨hk, hc⟩ := suits_kinds hs
  have hnn := h.1
  obtain ⟨k, c, b, m, v, ⟨q1, q2, q3, q4, q5⟩, sx, bx, ebx, fx, -⟩ := h.node hx
  have ex : ix (nI x) = x := ix_nI (by omega)
  have hkU : k = 1 := (kI sx.1 (by decide : 1 < 2 ^ 31)).mp (by rw [ex, q1] at hk; exact hk.trans (by decide))
  subst hkU
  have hcn : c < nn := (sx.2.2.1 (by decide)).1
  obtain ⟨k2, a2, b2, m2, v2, ⟨p1, p2, p3, p4, p5⟩, sc, bc, ebc, fc, -⟩ := h.node hcn
  have ec : ix (nI c) = c := ix_nI (by omega)
  have hkL : k2 = 4 := (kI sc.1 (by decide : 4 < 2 ^ 31)).mp (by rw [ex, q2, ec, p1] at hc; exact hc.trans (by decide))
  subst hkL
  have hb0 : b = 0 := sx.2.2.2.2.1 (by decide)
  subst hb0
  have hm0 : m = 0 := sx.2.2.2.2.2.2.1 (by decide)
  subst hm0
  obtain ⟨a1, a2', a3, a4, a5⟩ := ag.2.2.2.2 x hx
  obtain ⟨d1, d2, d3, d4, d5⟩ := ag.2.2.2.2 c hcn
  have ha2 := sc.2.2.1 (by decide)
  have hb2 : b2 < nn := (sc.2.2.2.1 (by decide)).1
  rw [q1] at a1
  rw [q2] at a2'
  rw [q4] at a4
  rw [q5] at a5
  rw [p1] at d1
  rw [p2] at d2
  rw [p3] at d3
  rw [p4] at d4
  rw [p5] at d5
  have room : nn + 1 ≤ 60 := room_n hnn h.2.2.2.1 (by decide) (by decide) (by decide) (by decide) hr
  refine SIMP_of (rw_one h ag u0 u1 u2 (y := b2) (a3 := a2) (b3 := nn) (by omega) hx hcn sx sc (by decide) (by decide) (by decide) (sc.2.2.2.1 (by decide)) (by show bd b2 ≤ 100; obtain ⟨_, _, _, _, _, _, _, q, _⟩ := h.node (sc.2.2.2.1 (by decide)).1; exact q) (Or.inr ⟨rfl, rfl, rfl⟩) ?hb ?hf rfl rfl) ?g ⟨rfl, rfl, rfl⟩ ?hh ?uu
  case hb => rw [show bdN (va_up bd nn (bdN bd 1 b2 0 v)) 4 a2 nn v2 = va_up bd nn (bd b2) a2 * va_up bd nn (bd b2) nn from rfl, va_up_self, va_up_ne _ _ (show a2 ≠ nn by omega)]; exact (ebx.trans ebc).symm
  case hf => rw [fx, flP_congr fc Iff.rfl Iff.rfl]; simp only [flP, show ¬ a2 = nn by omega, if_true, if_false]; generalize FLp G a2 = A9; generalize FLp G b2 = B9; generalize FLp G 0 = Z9; generalize FFp G v = F9; generalize FFp G v2 = F8; by_cases hA : A9 <;> by_cases hB : B9 <;> by_cases hF : F9 <;> by_cases hF2 : F8 <;> simp [hA, hB, hF, hF2]
  case g =>
    show ap3G G V (nI x) = _
    unfold ap3G
    simp only [fX2_exchange_G, fX2_addLike_G, fX2_addLike, fX2_addLike_V, fX2_skip_G, fX2_workAbove_G, fX2_workAbove_V, fX1_add_G, fX1_add, fX1_add_V, ex, ec, q1, q2, q4, q5, p1, p2, p3, p4, p5, h.2.2.2.1, pk_us, pk_un (show (1 : Nat) ≠ 9 by decide), pk_un (show (0 : Nat) ≠ 9 by decide), nI_1, write_keep (j := c) (show c ≠ ix (nI nn) by rw [ix_nI (by omega)]; omega), write_keep (j := x) (show x ≠ ix (nI nn) by rw [ix_nI (by omega)]; omega)]
    try rfl
  case hh =>
    unfold fX6_rewrites_G
    rw [if_neg (show ¬ (nI 3 : Int32) = 0 by decide), if_neg (show ¬ (nI 3 : Int32) = 1 by decide), if_neg (show ¬ (nI 3 : Int32) = 2 by decide), if_pos (show (nI 3 : Int32) = 3 by decide)]
    simp only [fX6_lay_G, fX6_lay, ex, ec, ← a1, ← a2', ← a4, ← a5, ← d1, ← d2, ← d3, ← d4, ← d5, u1, pk_us, pk_un (show (1 : Nat) ≠ 2 by decide), pk_un (show (0 : Nat) ≠ 2 by decide), nI_1, put_keep (j := c) (show c ≠ ix (nI nn) by rw [ix_nI (by omega)]; omega), put_keep (j := x) (show x ≠ ix (nI nn) by rw [ix_nI (by omega)]; omega)]
    try rfl
  case uu =>
    unfold fX6_rewrites_V
    rw [if_neg (show ¬ (nI 3 : Int32) = 0 by decide), if_neg (show ¬ (nI 3 : Int32) = 1 by decide), if_neg (show ¬ (nI 3 : Int32) = 2 by decide), if_pos (show (nI 3 : Int32) = 3 by decide)]
    exact ⟨rfl, rfl, rfl⟩
set_option maxHeartbeats 800000 in
theorem rs_4 {G H : Nat → Nat → Int32} {V U : Nat → Int32} {nn nf : Nat} {bd rk : Nat → Nat} (h : PLC G V nn nf bd rk) (ag : AGR G H nn nf) (u0 : U 0 = nI nf) (u1 : U 1 = nI nn) (u2 : U 2 = V 9) {x : Nat} (hx : x < nn) (hs : ¬ fX2_suits G (nI x) (nI 4) = 0) (hr : ¬ fX2_hasRoom G V (nI x) (nI 4) = 0) : SIMP (apG G V (nI x) 4) (apV G V (nI x) 4) (fX6_rewrites_G H U (nI x) (nI 4)) (fX6_rewrites_V H U (nI x) (nI 4)) := by
  obtain ⟨hk, hc⟩ := suits_kinds hs
  have hnn := h.1
  obtain ⟨k, c, b, m, v, ⟨q1, q2, q3, q4, q5⟩, sx, bx, ebx, fx, -⟩ := h.node hx
  have ex : ix (nI x) = x := ix_nI (by omega)
  have hkU : k = 1 := (kI sx.1 (by decide : 1 < 2 ^ 31)).mp (by rw [ex, q1] at hk; exact hk.trans (by decide))
  subst hkU
  have hcn : c < nn := (sx.2.2.1 (by decide)).1
  obtain ⟨k2, a2, b2, m2, v2, ⟨p1, p2, p3, p4, p5⟩, sc, bc, ebc, fc, -⟩ := h.node hcn
  have ec : ix (nI c) = c := ix_nI (by omega)
  have hkL : k2 = 5 := (kI sc.1 (by decide : 5 < 2 ^ 31)).mp (by rw [ex, q2, ec, p1] at hc; exact hc.trans (by decide))
  subst hkL
  have hb0 : b = 0 := sx.2.2.2.2.1 (by decide)
  subst hb0
  have hm0 : m = 0 := sx.2.2.2.2.2.2.1 (by decide)
  subst hm0
  have hm20 : m2 = 0 := sc.2.2.2.2.2.2.1 (by decide)
  subst hm20
  have hv20 : v2 = 0 := sc.2.2.2.2.2.2.2.2.2.2.2 (by decide)
  subst hv20
  obtain ⟨a1, a2', a3, a4, a5⟩ := ag.2.2.2.2 x hx
  obtain ⟨d1, d2, d3, d4, d5⟩ := ag.2.2.2.2 c hcn
  have ha2 := sc.2.2.1 (by decide)
  have hb2 : b2 < nn := (sc.2.2.2.1 (by decide)).1
  rw [q1] at a1
  rw [q2] at a2'
  rw [q4] at a4
  rw [q5] at a5
  rw [p1] at d1
  rw [p2] at d2
  rw [p3] at d3
  rw [p4] at d4
  rw [p5] at d5
  have room : nn + 2 ≤ 60 := room_n hnn h.2.2.2.1 (by decide) (by decide) (by decide) (by decide) hr
  have b2l := sc.2.2.2.1 (by decide)
  refine SIMP_of (rw_two h ag u0 u1 u2 (V2 := apV G V (nI x) 4) (U2 := fX6_rewrites_V H U (nI x) (nI 4)) (by omega) hx hcn sx sc (by decide) (by decide) (by show bd a2 ≤ 100; obtain ⟨_, _, _, _, _, _, _, q, _⟩ := h.node ha2.1; exact q) (by show bd b2 ≤ 100; obtain ⟨_, _, _, _, _, _, _, q, _⟩ := h.node b2l.1; exact q) ?hb ?hf rfl rfl rfl rfl rfl ?e1 rfl ?e2 ?e3 ?e4) ?g ⟨rfl, rfl, rfl⟩ ?hh ⟨rfl, rfl, rfl⟩
  case hb => exact (ebx.trans ebc).symm
  case hf => rw [fx, flP_congr fc Iff.rfl Iff.rfl]; simp only [flP]; generalize FLp G a2 = A9; generalize FLp G b2 = B9; generalize FLp G 0 = Z9; generalize FFp G v = F9; generalize FFp G 0 = F8; by_cases hA : A9 <;> by_cases hB : B9 <;> by_cases hF : F9 <;> by_cases hF2 : F8 <;> simp [hA, hB, hF, hF2]
  case e1 => show V 1 + 1 + 1 = _; rw [h.2.2.2.1, nI_1, nI_1]
  case e2 =>
    unfold fX6_rewrites_V
    rw [if_neg (show ¬ (nI 4 : Int32) = 0 by decide), if_neg (show ¬ (nI 4 : Int32) = 1 by decide), if_neg (show ¬ (nI 4 : Int32) = 2 by decide), if_neg (show ¬ (nI 4 : Int32) = 3 by decide), if_pos (show (nI 4 : Int32) = 4 by decide)]
    exact (rfl : U 0 = U 0)
  case e3 =>
    unfold fX6_rewrites_V
    rw [if_neg (show ¬ (nI 4 : Int32) = 0 by decide), if_neg (show ¬ (nI 4 : Int32) = 1 by decide), if_neg (show ¬ (nI 4 : Int32) = 2 by decide), if_neg (show ¬ (nI 4 : Int32) = 3 by decide), if_pos (show (nI 4 : Int32) = 4 by decide)]
    show U 1 + 1 + 1 = _
    rw [u1, nI_1, nI_1]
  case e4 =>
    unfold fX6_rewrites_V
    rw [if_neg (show ¬ (nI 4 : Int32) = 0 by decide), if_neg (show ¬ (nI 4 : Int32) = 1 by decide), if_neg (show ¬ (nI 4 : Int32) = 2 by decide), if_neg (show ¬ (nI 4 : Int32) = 3 by decide), if_pos (show (nI 4 : Int32) = 4 by decide)]
    exact (rfl : U 2 + 1 = U 2 + 1)
  case g =>
    show ap4G G V (nI x) = _
    unfold ap4G
    simp only [fX2_exchange_G, fX2_addLike_G, fX2_addLike, fX2_addLike_V, fX2_skip_G, fX2_workAbove_G, fX2_workAbove_V, fX1_add_G, fX1_add, fX1_add_V, ex, ec, q1, q2, q4, q5, p1, p2, p3, p4, p5, h.2.2.2.1, pk_us, pk_un (show (1 : Nat) ≠ 9 by decide), pk_un (show (0 : Nat) ≠ 9 by decide), nI_1, write_keep (j := c) (show c ≠ ix (nI nn) by rw [ix_nI (by omega)]; omega), write_keep (j := x) (show x ≠ ix (nI nn) by rw [ix_nI (by omega)]; omega), write_keep (j := c) (show c ≠ ix (nI (nn + 1)) by rw [ix_nI (by omega)]; omega), write_keep (j := x) (show x ≠ ix (nI (nn + 1)) by rw [ix_nI (by omega)]; omega)]
    try rfl
  case hh =>
    unfold fX6_rewrites_G
    rw [if_neg (show ¬ (nI 4 : Int32) = 0 by decide), if_neg (show ¬ (nI 4 : Int32) = 1 by decide), if_neg (show ¬ (nI 4 : Int32) = 2 by decide), if_neg (show ¬ (nI 4 : Int32) = 3 by decide), if_pos (show (nI 4 : Int32) = 4 by decide)]
    simp only [fX6_lay_G, fX6_lay, fX6_lay_V, ex, ec, ← a1, ← a2', ← a4, ← a5, ← d1, ← d2, ← d3, ← d4, ← d5, u1, pk_us, pk_un (show (1 : Nat) ≠ 2 by decide), pk_un (show (0 : Nat) ≠ 2 by decide), nI_1, put_keep (j := c) (show c ≠ ix (nI nn) by rw [ix_nI (by omega)]; omega), put_keep (j := x) (show x ≠ ix (nI nn) by rw [ix_nI (by omega)]; omega), put_keep (j := c) (show c ≠ ix (nI (nn + 1)) by rw [ix_nI (by omega)]; omega), put_keep (j := x) (show x ≠ ix (nI (nn + 1)) by rw [ix_nI (by omega)]; omega)]
    try rfl
set_option maxHeartbeats 800000 in
theorem rs_5 {G H : Nat → Nat → Int32} {V U : Nat → Int32} {nn nf : Nat} {bd rk : Nat → Nat} (h : PLC G V nn nf bd rk) (ag : AGR G H nn nf) (u0 : U 0 = nI nf) (u1 : U 1 = nI nn) (u2 : U 2 = V 9) {x : Nat} (hx : x < nn) (hs : ¬ fX2_suits G (nI x) (nI 5) = 0) (hr : ¬ fX2_hasRoom G V (nI x) (nI 5) = 0) : SIMP (apG G V (nI x) 5) (apV G V (nI x) 5) (fX6_rewrites_G H U (nI x) (nI 5)) (fX6_rewrites_V H U (nI x) (nI 5)) := by
  obtain ⟨hk, hc⟩ := suits_kinds hs
  have hnn := h.1
  obtain ⟨k, c, b, m, v, ⟨q1, q2, q3, q4, q5⟩, sx, bx, ebx, fx, -⟩ := h.node hx
  have ex : ix (nI x) = x := ix_nI (by omega)
  have hkU : k = 1 := (kI sx.1 (by decide : 1 < 2 ^ 31)).mp (by rw [ex, q1] at hk; exact hk.trans (by decide))
  subst hkU
  have hcn : c < nn := (sx.2.2.1 (by decide)).1
  obtain ⟨k2, a2, b2, m2, v2, ⟨p1, p2, p3, p4, p5⟩, sc, bc, ebc, fc, -⟩ := h.node hcn
  have ec : ix (nI c) = c := ix_nI (by omega)
  have hkL : k2 = 6 := (kI sc.1 (by decide : 6 < 2 ^ 31)).mp (by rw [ex, q2, ec, p1] at hc; exact hc.trans (by decide))
  subst hkL
  have hb0 : b = 0 := sx.2.2.2.2.1 (by decide)
  subst hb0
  have hm0 : m = 0 := sx.2.2.2.2.2.2.1 (by decide)
  subst hm0
  have hb20 : b2 = 0 := sc.2.2.2.2.1 (by decide)
  subst hb20
  obtain ⟨a1, a2', a3, a4, a5⟩ := ag.2.2.2.2 x hx
  obtain ⟨d1, d2, d3, d4, d5⟩ := ag.2.2.2.2 c hcn
  have ha2 := sc.2.2.1 (by decide)
  have hb2 : True := trivial
  rw [q1] at a1
  rw [q2] at a2'
  rw [q4] at a4
  rw [q5] at a5
  rw [p1] at d1
  rw [p2] at d2
  rw [p3] at d3
  rw [p4] at d4
  rw [p5] at d5
  have room : nn + 1 ≤ 60 := room_n hnn h.2.2.2.1 (by decide) (by decide) (by decide) (by decide) hr
  refine SIMP_of (rw_one h ag u0 u1 u2 (y := a2) (a3 := nn) (b3 := 0) (by omega) hx hcn sx sc (by decide) (by decide) (by decide) (ha2) (by show bd a2 ≤ 100; obtain ⟨_, _, _, _, _, _, _, q, _⟩ := h.node (ha2).1; exact q) (Or.inl ⟨rfl, rfl⟩) ?hb ?hf rfl rfl) ?g ⟨rfl, rfl, rfl⟩ ?hh ?uu
  case hb => rw [show bdN (va_up bd nn (bdN bd 1 a2 0 v)) 6 nn _ _ = va_up bd nn (bd a2) nn from rfl, va_up_self]; exact (ebx.trans ebc).symm
  case hf => rw [fx, flP_congr fc Iff.rfl Iff.rfl]; simp only [flP, show ¬ 0 = nn by omega, if_true, if_false]; generalize FLp G a2 = A9; generalize FFp G v = F9; generalize FFp G v2 = F8; by_cases hA : A9 <;> by_cases hF : F9 <;> by_cases hF2 : F8 <;> simp [hA, hF, hF2]
  case g =>
    show ap1G G V (nI x) = _
    unfold ap1G
    simp only [fX2_exchange_G, fX2_addLike_G, fX2_addLike, fX2_addLike_V, fX2_skip_G, fX2_workAbove_G, fX2_workAbove_V, fX1_add_G, fX1_add, fX1_add_V, ex, ec, q1, q2, q4, q5, p1, p2, p3, p4, p5, h.2.2.2.1, pk_us, pk_un (show (1 : Nat) ≠ 9 by decide), pk_un (show (0 : Nat) ≠ 9 by decide), nI_1, write_keep (j := c) (show c ≠ ix (nI nn) by rw [ix_nI (by omega)]; omega), write_keep (j := x) (show x ≠ ix (nI nn) by rw [ix_nI (by omega)]; omega)]
    try rfl
  case hh =>
    unfold fX6_rewrites_G
    rw [if_neg (show ¬ (nI 5 : Int32) = 0 by decide), if_neg (show ¬ (nI 5 : Int32) = 1 by decide), if_neg (show ¬ (nI 5 : Int32) = 2 by decide), if_neg (show ¬ (nI 5 : Int32) = 3 by decide), if_neg (show ¬ (nI 5 : Int32) = 4 by decide), if_pos (show (nI 5 : Int32) = 5 by decide)]
    simp only [fX6_lay_G, fX6_lay, ex, ec, ← a1, ← a2', ← a4, ← a5, ← d1, ← d2, ← d3, ← d4, ← d5, u1, pk_us, pk_un (show (1 : Nat) ≠ 2 by decide), pk_un (show (0 : Nat) ≠ 2 by decide), nI_1, put_keep (j := c) (show c ≠ ix (nI nn) by rw [ix_nI (by omega)]; omega), put_keep (j := x) (show x ≠ ix (nI nn) by rw [ix_nI (by omega)]; omega)]
    try rfl
  case uu =>
    unfold fX6_rewrites_V
    rw [if_neg (show ¬ (nI 5 : Int32) = 0 by decide), if_neg (show ¬ (nI 5 : Int32) = 1 by decide), if_neg (show ¬ (nI 5 : Int32) = 2 by decide), if_neg (show ¬ (nI 5 : Int32) = 3 by decide), if_neg (show ¬ (nI 5 : Int32) = 4 by decide), if_pos (show (nI 5 : Int32) = 5 by decide)]
    exact ⟨rfl, rfl, rfl⟩
set_option maxHeartbeats 800000 in
theorem rs_6 {G H : Nat → Nat → Int32} {V U : Nat → Int32} {nn nf : Nat} {bd rk : Nat → Nat} (h : PLC G V nn nf bd rk) (ag : AGR G H nn nf) (u0 : U 0 = nI nf) (u1 : U 1 = nI nn) (u2 : U 2 = V 9) {x : Nat} (hx : x < nn) (hs : ¬ fX2_suits G (nI x) (nI 6) = 0) (hr : ¬ fX2_hasRoom G V (nI x) (nI 6) = 0) : SIMP (apG G V (nI x) 6) (apV G V (nI x) 6) (fX6_rewrites_G H U (nI x) (nI 6)) (fX6_rewrites_V H U (nI x) (nI 6)) := by
  obtain ⟨hk, hc⟩ := suits_kinds hs
  have hnn := h.1
  obtain ⟨k, c, b, m, v, ⟨q1, q2, q3, q4, q5⟩, sx, bx, ebx, fx, -⟩ := h.node hx
  have ex : ix (nI x) = x := ix_nI (by omega)
  have hkU : k = 1 := (kI sx.1 (by decide : 1 < 2 ^ 31)).mp (by rw [ex, q1] at hk; exact hk.trans (by decide))
  subst hkU
  have hcn : c < nn := (sx.2.2.1 (by decide)).1
  obtain ⟨k2, a2, b2, m2, v2, ⟨p1, p2, p3, p4, p5⟩, sc, bc, ebc, fc, -⟩ := h.node hcn
  have ec : ix (nI c) = c := ix_nI (by omega)
  have hkL : k2 = 7 := (kI sc.1 (by decide : 7 < 2 ^ 31)).mp (by rw [ex, q2, ec, p1] at hc; exact hc.trans (by decide))
  subst hkL
  have hb0 : b = 0 := sx.2.2.2.2.1 (by decide)
  subst hb0
  have hm0 : m = 0 := sx.2.2.2.2.2.2.1 (by decide)
  subst hm0
  have hb20 : b2 = 0 := sc.2.2.2.2.1 (by decide)
  subst hb20
  have hm20 : m2 = 0 := sc.2.2.2.2.2.2.1 (by decide)
  subst hm20
  have hv20 : v2 = 0 := sc.2.2.2.2.2.2.2.2.2.2.2 (by decide)
  subst hv20
  obtain ⟨a1, a2', a3, a4, a5⟩ := ag.2.2.2.2 x hx
  obtain ⟨d1, d2, d3, d4, d5⟩ := ag.2.2.2.2 c hcn
  have ha2 := sc.2.2.1 (by decide)
  have hb2 : True := trivial
  rw [q1] at a1
  rw [q2] at a2'
  rw [q4] at a4
  rw [q5] at a5
  rw [p1] at d1
  rw [p2] at d2
  rw [p3] at d3
  rw [p4] at d4
  rw [p5] at d5
  have room : nn + 1 ≤ 60 := room_n hnn h.2.2.2.1 (by decide) (by decide) (by decide) (by decide) hr
  refine SIMP_of (rw_one h ag u0 u1 u2 (y := a2) (a3 := nn) (b3 := 0) (by omega) hx hcn sx sc (by decide) (by decide) (by decide) (ha2) (by show bd a2 ≤ 100; obtain ⟨_, _, _, _, _, _, _, q, _⟩ := h.node (ha2).1; exact q) (Or.inl ⟨rfl, rfl⟩) ?hb ?hf rfl rfl) ?g ⟨rfl, rfl, rfl⟩ ?hh ?uu
  case hb => rw [show bdN (va_up bd nn (bdN bd 1 a2 0 v)) 7 nn _ _ = va_up bd nn (bd a2) nn from rfl, va_up_self]; exact (ebx.trans ebc).symm
  case hf => rw [fx, flP_congr fc Iff.rfl Iff.rfl]; simp only [flP, show ¬ 0 = nn by omega, if_true, if_false]; generalize FLp G a2 = A9; generalize FFp G v = F9; generalize FFp G 0 = F8; by_cases hA : A9 <;> by_cases hF : F9 <;> by_cases hF2 : F8 <;> simp [hA, hF, hF2]
  case g =>
    show ap1G G V (nI x) = _
    unfold ap1G
    simp only [fX2_exchange_G, fX2_addLike_G, fX2_addLike, fX2_addLike_V, fX2_skip_G, fX2_workAbove_G, fX2_workAbove_V, fX1_add_G, fX1_add, fX1_add_V, ex, ec, q1, q2, q4, q5, p1, p2, p3, p4, p5, h.2.2.2.1, pk_us, pk_un (show (1 : Nat) ≠ 9 by decide), pk_un (show (0 : Nat) ≠ 9 by decide), nI_1, write_keep (j := c) (show c ≠ ix (nI nn) by rw [ix_nI (by omega)]; omega), write_keep (j := x) (show x ≠ ix (nI nn) by rw [ix_nI (by omega)]; omega)]
    try rfl
  case hh =>
    unfold fX6_rewrites_G
    rw [if_neg (show ¬ (nI 6 : Int32) = 0 by decide), if_neg (show ¬ (nI 6 : Int32) = 1 by decide), if_neg (show ¬ (nI 6 : Int32) = 2 by decide), if_neg (show ¬ (nI 6 : Int32) = 3 by decide), if_neg (show ¬ (nI 6 : Int32) = 4 by decide), if_neg (show ¬ (nI 6 : Int32) = 5 by decide), if_pos (show (nI 6 : Int32) = 6 by decide)]
    simp only [fX6_lay_G, fX6_lay, ex, ec, ← a1, ← a2', ← a4, ← a5, ← d1, ← d2, ← d3, ← d4, ← d5, u1, pk_us, pk_un (show (1 : Nat) ≠ 2 by decide), pk_un (show (0 : Nat) ≠ 2 by decide), nI_1, put_keep (j := c) (show c ≠ ix (nI nn) by rw [ix_nI (by omega)]; omega), put_keep (j := x) (show x ≠ ix (nI nn) by rw [ix_nI (by omega)]; omega)]
    try rfl
  case uu =>
    unfold fX6_rewrites_V
    rw [if_neg (show ¬ (nI 6 : Int32) = 0 by decide), if_neg (show ¬ (nI 6 : Int32) = 1 by decide), if_neg (show ¬ (nI 6 : Int32) = 2 by decide), if_neg (show ¬ (nI 6 : Int32) = 3 by decide), if_neg (show ¬ (nI 6 : Int32) = 4 by decide), if_neg (show ¬ (nI 6 : Int32) = 5 by decide), if_pos (show (nI 6 : Int32) = 6 by decide)]
    exact ⟨rfl, rfl, rfl⟩
set_option maxHeartbeats 800000 in
theorem rs_7 {G H : Nat → Nat → Int32} {V U : Nat → Int32} {nn nf : Nat} {bd rk : Nat → Nat} (h : PLC G V nn nf bd rk) (ag : AGR G H nn nf) (u0 : U 0 = nI nf) (u1 : U 1 = nI nn) (u2 : U 2 = V 9) {x : Nat} (hx : x < nn) (hs : ¬ fX2_suits G (nI x) (nI 7) = 0) (hr : ¬ fX2_hasRoom G V (nI x) (nI 7) = 0) : SIMP (apG G V (nI x) 7) (apV G V (nI x) 7) (fX6_rewrites_G H U (nI x) (nI 7)) (fX6_rewrites_V H U (nI x) (nI 7)) := by
  obtain ⟨hk, hc⟩ := suits_kinds hs
  have hnn := h.1
  obtain ⟨k, c, b, m, v, ⟨q1, q2, q3, q4, q5⟩, sx, bx, ebx, fx, -⟩ := h.node hx
  have ex : ix (nI x) = x := ix_nI (by omega)
  have hkU : k = 1 := (kI sx.1 (by decide : 1 < 2 ^ 31)).mp (by rw [ex, q1] at hk; exact hk.trans (by decide))
  subst hkU
  have hcn : c < nn := (sx.2.2.1 (by decide)).1
  obtain ⟨k2, a2, b2, m2, v2, ⟨p1, p2, p3, p4, p5⟩, sc, bc, ebc, fc, -⟩ := h.node hcn
  have ec : ix (nI c) = c := ix_nI (by omega)
  have hkL : k2 = 1 := (kI sc.1 (by decide : 1 < 2 ^ 31)).mp (by rw [ex, q2, ec, p1] at hc; exact hc.trans (by decide))
  subst hkL
  have hb0 : b = 0 := sx.2.2.2.2.1 (by decide)
  subst hb0
  have hm0 : m = 0 := sx.2.2.2.2.2.2.1 (by decide)
  subst hm0
  have hb20 : b2 = 0 := sc.2.2.2.2.1 (by decide)
  subst hb20
  have hm20 : m2 = 0 := sc.2.2.2.2.2.2.1 (by decide)
  subst hm20
  obtain ⟨a1, a2', a3, a4, a5⟩ := ag.2.2.2.2 x hx
  obtain ⟨d1, d2, d3, d4, d5⟩ := ag.2.2.2.2 c hcn
  have ha2 := sc.2.2.1 (by decide)
  have hb2 : True := trivial
  rw [q1] at a1
  rw [q2] at a2'
  rw [q4] at a4
  rw [q5] at a5
  rw [p1] at d1
  rw [p2] at d2
  rw [p3] at d3
  rw [p4] at d4
  rw [p5] at d5
  have e0 : fX2_hasRoom G V (nI x) (nI 7) = fX0_hasRoom G V 9 (G 17 (ix (G 14 (ix (nI x))))) (G 17 (ix (nI x))) := if_pos (show (nI 7 : Int32) = 7 by decide)
  rw [e0, ex, q2, ec, q5, p5] at hr
  have hr1 : ¬ fX0_hasRoom G (upd V 9 (V 9 + 1)) (nI 9) (nI v2) (nI v) = 0 := hr
  have v2l := sc.2.2.2.2.2.2.2.1 (by decide)
  have vl := sx.2.2.2.2.2.2.2.1 (by decide)
  have okf : fOk nf 9 (nI v2) (nI v) := ⟨by decide, fun e => absurd e (by decide), fun _ => ⟨v2, v2l, rfl⟩, fun _ _ _ => ⟨v, vl, rfl⟩⟩
  obtain ⟨P1, A1, g11, g11n, gp⟩ := tell_sim (U := upd U 2 (U 2 + 1)) (h.v (V' := upd V 9 (V 9 + 1)) rfl rfl) ag u0 okf hr1
  have hnf := h.2.1
  have tl : fX6_tell H (upd U 2 (U 2 + 1)) 9 (nI v2) (nI v) = nI nf := by unfold fX6_tell; rw [show (upd U 2 (U 2 + 1)) 0 = nI nf from u0]; repeat (first | rfl | split)
  have tv : fX6_tell_V H (upd U 2 (U 2 + 1)) 9 (nI v2) (nI v) = upd (upd U 2 (U 2 + 1)) 0 ((upd U 2 (U 2 + 1)) 0 + 1) := by unfold fX6_tell_V; repeat (first | rfl | split)
  have av : fX0_add_V G (upd V 9 (V 9 + 1)) 9 (nI v2) (nI v) = upd (upd V 9 (V 9 + 1)) 0 ((upd V 9 (V 9 + 1)) 0 + 1) := if_neg hr1
  have aw : fX0_add G (upd V 9 (V 9 + 1)) 9 (nI v2) (nI v) = nI nf := (if_neg hr1).trans h.2.2.1
  have gp9 : ∀ p, p < 6 ∨ 11 < p → fX0_add_G G (upd V 9 (V 9 + 1)) 9 (nI v2) (nI v) p = G p := gp
  have fl : ∀ y, FLp (fX0_add_G G (upd V 9 (V 9 + 1)) (nI 9) (nI v2) (nI v)) y ↔ FLp G y := fun y => by unfold FLp; rw [gp 19 (by omega)]
  have ff : FFp (fX0_add_G G (upd V 9 (V 9 + 1)) (nI 9) (nI v2) (nI v)) nf ↔ (FFp G v2 ∨ FFp G v) := by unfold FFp; rw [g11n]; have := bothF G (nI v2) (nI v); rw [ix_nI (by omega), ix_nI (by omega)] at this; exact this
  refine SIMP_of (rw_skip (P1.v (V' := upd V 0 (V 0 + 1)) rfl rfl) A1 (U := upd U 0 (U 0 + 1)) ?e0 u1 u2 (w := nf) hx (sx.mono (Nat.le_refl _) (Nat.le_succ _) (fun _ _ hr => hr)) (sc.mono (Nat.le_refl _) (Nat.le_succ _) (fun _ _ hr => hr)) (by decide) (by decide) (by decide) ⟨fun _ => Nat.lt_succ_self _, fun e => absurd e (by decide), fun e => absurd e (by decide), fun e => absurd e (by decide), fun e => absurd e (by decide)⟩ ?hb ?hf) ?g ?e2 ?hh ?uu
  case e0 => show U 0 + 1 = _; rw [u0, nI_1]
  case hb => exact (ebx.trans ebc).symm
  case hf => rw [fl x, fx, flP_congr (fl a2) (fl 0) ff, flP_congr fc Iff.rfl Iff.rfl]; simp only [flP]; generalize FLp G a2 = A9; generalize FFp G v = F9; generalize FFp G v2 = F8; by_cases hA : A9 <;> by_cases hF : F9 <;> by_cases hF2 : F8 <;> simp [hA, hF, hF2]
  case g =>
    show ap7G G V (nI x) = _
    unfold ap7G fX2_skip_G
    rw [ex, q2, ec, q5, p5, aw, gp9 13 (by omega), gp9 14 (by omega), gp9 16 (by omega), q1, p2, q4]
    try rfl
  case e2 =>
    show (ap7V G V (nI x)) 0 = _ ∧ (ap7V G V (nI x)) 1 = _ ∧ (ap7V G V (nI x)) 9 = _
    unfold ap7V
    rw [ex, q2, ec, q5, p5, av]
    exact ⟨rfl, rfl, rfl⟩
  case hh =>
    unfold fX6_rewrites_G
    rw [if_neg (show ¬ (nI 7 : Int32) = 0 by decide), if_neg (show ¬ (nI 7 : Int32) = 1 by decide), if_neg (show ¬ (nI 7 : Int32) = 2 by decide), if_neg (show ¬ (nI 7 : Int32) = 3 by decide), if_neg (show ¬ (nI 7 : Int32) = 4 by decide), if_neg (show ¬ (nI 7 : Int32) = 5 by decide), if_neg (show ¬ (nI 7 : Int32) = 6 by decide), if_pos (show (nI 7 : Int32) = 7 by decide)]
    simp only [ex, ec, ← a1, ← a2', ← a4, ← a5, ← d1, ← d2, ← d3, ← d4, ← d5, u1, tl]
    try rfl
  case uu =>
    unfold fX6_rewrites_V
    rw [if_neg (show ¬ (nI 7 : Int32) = 0 by decide), if_neg (show ¬ (nI 7 : Int32) = 1 by decide), if_neg (show ¬ (nI 7 : Int32) = 2 by decide), if_neg (show ¬ (nI 7 : Int32) = 3 by decide), if_neg (show ¬ (nI 7 : Int32) = 4 by decide), if_neg (show ¬ (nI 7 : Int32) = 5 by decide), if_neg (show ¬ (nI 7 : Int32) = 6 by decide), if_pos (show (nI 7 : Int32) = 7 by decide)]
    simp only [ex, ec, ← a1, ← a2', ← a4, ← a5, ← d1, ← d2, ← d3, ← d4, ← d5, u1, tv]
    exact ⟨rfl, rfl, rfl⟩
set_option maxHeartbeats 800000 in
theorem rs_8 {G H : Nat → Nat → Int32} {V U : Nat → Int32} {nn nf : Nat} {bd rk : Nat → Nat} (h : PLC G V nn nf bd rk) (ag : AGR G H nn nf) (u0 : U 0 = nI nf) (u1 : U 1 = nI nn) (u2 : U 2 = V 9) {x : Nat} (hx : x < nn) (hs : ¬ fX2_suits G (nI x) (nI 8) = 0) (hr : ¬ fX2_hasRoom G V (nI x) (nI 8) = 0) : SIMP (apG G V (nI x) 8) (apV G V (nI x) 8) (fX6_rewrites_G H U (nI x) (nI 8)) (fX6_rewrites_V H U (nI x) (nI 8)) := by
  obtain ⟨hk, hc⟩ := suits_kinds hs
  have hnn := h.1
  obtain ⟨k, c, b, m, v, ⟨q1, q2, q3, q4, q5⟩, sx, bx, ebx, fx, -⟩ := h.node hx
  have ex : ix (nI x) = x := ix_nI (by omega)
  have hkU : k = 2 := (kI sx.1 (by decide : 2 < 2 ^ 31)).mp (by rw [ex, q1] at hk; exact hk.trans (by decide))
  subst hkU
  have hcn : c < nn := (sx.2.2.1 (by decide)).1
  obtain ⟨k2, a2, b2, m2, v2, ⟨p1, p2, p3, p4, p5⟩, sc, bc, ebc, fc, -⟩ := h.node hcn
  have ec : ix (nI c) = c := ix_nI (by omega)
  have hkL : k2 = 2 := (kI sc.1 (by decide : 2 < 2 ^ 31)).mp (by rw [ex, q2, ec, p1] at hc; exact hc.trans (by decide))
  subst hkL
  have hb0 : b = 0 := sx.2.2.2.2.1 (by decide)
  subst hb0
  have hb20 : b2 = 0 := sc.2.2.2.2.1 (by decide)
  subst hb20
  obtain ⟨a1, a2', a3, a4, a5⟩ := ag.2.2.2.2 x hx
  obtain ⟨d1, d2, d3, d4, d5⟩ := ag.2.2.2.2 c hcn
  have ha2 := sc.2.2.1 (by decide)
  have hb2 : True := trivial
  rw [q1] at a1
  rw [q2] at a2'
  rw [q4] at a4
  rw [q5] at a5
  rw [p1] at d1
  rw [p2] at d2
  rw [p3] at d3
  rw [p4] at d4
  rw [p5] at d5
  have cond := cond8 (V := V) (nn := nn) (nf := nf) (bd := bd) (rk := rk) (c := c) (v2 := v2) (by rw [ex]; exact q2) (by rw [ec]; exact p5) (by have := sc.2.2.2.2.2.2.2.1 (by decide); have := h.2.1; omega) hs
  have em : m2 = m := by have w := cond8m (c := c) (by rw [ex]; exact q2) hs; rw [ex, ec, q4, p4, nI_eq (by have := sc.2.2.2.2.2.1; omega) (by have := sx.2.2.2.2.2.1; omega)] at w; exact w
  subst em
  refine SIMP_of (rw_skip h ag u0 u1 u2 (w := v) hx sx sc (by decide) (by decide) (by decide) ⟨fun _ => sx.2.2.2.2.2.2.2.1 (by decide), fun e => absurd e (by decide), fun e => absurd e (by decide), fun e => absurd e (by decide), fun e => absurd e (by decide)⟩ ?hb ?hf) ?g ⟨rfl, rfl, rfl⟩ ?hh ?uu
  case hb => exact (ebx.trans ebc).symm
  case hf => rw [fx, flP_congr fc Iff.rfl Iff.rfl]; simp only [flP]; generalize FLp G a2 = A9; generalize FFp G v = F9; by_cases hA : A9 <;> by_cases hF : F9 <;> simp [hA, hF, cond]
  case g =>
    show apSG G V (nI x) _ = _
    unfold apSG
    simp only [fX2_exchange_G, fX2_addLike_G, fX2_addLike, fX2_addLike_V, fX2_skip_G, fX2_workAbove_G, fX2_workAbove_V, fX1_add_G, fX1_add, fX1_add_V, ex, ec, q1, q2, q4, q5, p1, p2, p3, p4, p5, h.2.2.2.1]
    try rfl
  case hh =>
    unfold fX6_rewrites_G
    rw [if_neg (show ¬ (nI 8 : Int32) = 0 by decide), if_neg (show ¬ (nI 8 : Int32) = 1 by decide), if_neg (show ¬ (nI 8 : Int32) = 2 by decide), if_neg (show ¬ (nI 8 : Int32) = 3 by decide), if_neg (show ¬ (nI 8 : Int32) = 4 by decide), if_neg (show ¬ (nI 8 : Int32) = 5 by decide), if_neg (show ¬ (nI 8 : Int32) = 6 by decide), if_neg (show ¬ (nI 8 : Int32) = 7 by decide), if_pos (show (nI 8 : Int32) = 8 by decide)]
    simp only [ex, ec, ← a1, ← a2', ← a4, ← a5, ← d1, ← d2, ← d3, ← d4, ← d5, u1]
    try rfl
  case uu =>
    unfold fX6_rewrites_V
    rw [if_neg (show ¬ (nI 8 : Int32) = 0 by decide), if_neg (show ¬ (nI 8 : Int32) = 1 by decide), if_neg (show ¬ (nI 8 : Int32) = 2 by decide), if_neg (show ¬ (nI 8 : Int32) = 3 by decide), if_neg (show ¬ (nI 8 : Int32) = 4 by decide), if_neg (show ¬ (nI 8 : Int32) = 5 by decide), if_neg (show ¬ (nI 8 : Int32) = 6 by decide), if_neg (show ¬ (nI 8 : Int32) = 7 by decide), if_pos (show (nI 8 : Int32) = 8 by decide)]
    exact ⟨rfl, rfl, rfl⟩
set_option maxHeartbeats 800000 in
theorem rs_9 {G H : Nat → Nat → Int32} {V U : Nat → Int32} {nn nf : Nat} {bd rk : Nat → Nat} (h : PLC G V nn nf bd rk) (ag : AGR G H nn nf) (u0 : U 0 = nI nf) (u1 : U 1 = nI nn) (u2 : U 2 = V 9) {x : Nat} (hx : x < nn) (hs : ¬ fX2_suits G (nI x) (nI 9) = 0) (hr : ¬ fX2_hasRoom G V (nI x) (nI 9) = 0) : SIMP (apG G V (nI x) 9) (apV G V (nI x) 9) (fX6_rewrites_G H U (nI x) (nI 9)) (fX6_rewrites_V H U (nI x) (nI 9)) := by
  obtain ⟨hk, hc⟩ := suits_kinds hs
  have hnn := h.1
  obtain ⟨k, c, b, m, v, ⟨q1, q2, q3, q4, q5⟩, sx, bx, ebx, fx, -⟩ := h.node hx
  have ex : ix (nI x) = x := ix_nI (by omega)
  have hkU : k = 3 := (kI sx.1 (by decide : 3 < 2 ^ 31)).mp (by rw [ex, q1] at hk; exact hk.trans (by decide))
  subst hkU
  have hcn : c < nn := (sx.2.2.1 (by decide)).1
  obtain ⟨k2, a2, b2, m2, v2, ⟨p1, p2, p3, p4, p5⟩, sc, bc, ebc, fc, -⟩ := h.node hcn
  have ec : ix (nI c) = c := ix_nI (by omega)
  have hkL : k2 = 3 := (kI sc.1 (by decide : 3 < 2 ^ 31)).mp (by rw [ex, q2, ec, p1] at hc; exact hc.trans (by decide))
  subst hkL
  have hb0 : b = 0 := sx.2.2.2.2.1 (by decide)
  subst hb0
  have hm0 : m = 0 := sx.2.2.2.2.2.2.1 (by decide)
  subst hm0
  have hb20 : b2 = 0 := sc.2.2.2.2.1 (by decide)
  subst hb20
  have hm20 : m2 = 0 := sc.2.2.2.2.2.2.1 (by decide)
  subst hm20
  obtain ⟨a1, a2', a3, a4, a5⟩ := ag.2.2.2.2 x hx
  obtain ⟨d1, d2, d3, d4, d5⟩ := ag.2.2.2.2 c hcn
  have ha2 := sc.2.2.1 (by decide)
  have hb2 : True := trivial
  rw [q1] at a1
  rw [q2] at a2'
  rw [q4] at a4
  rw [q5] at a5
  rw [p1] at d1
  rw [p2] at d2
  rw [p3] at d3
  rw [p4] at d4
  rw [p5] at d5
  refine SIMP_of (rw_skip h ag u0 u1 u2 (w := (v2 &&& v)) hx sx sc (by decide) (by decide) (by decide) ⟨fun e => absurd e (by decide), fun _ => (and64 v2 (sc.2.2.2.2.2.2.2.2.1 (by decide)) v (sx.2.2.2.2.2.2.2.2.1 (by decide))).2, fun e => absurd e (by decide), fun e => absurd e (by decide), fun e => absurd e (by decide)⟩ ?hb ?hf) ?g ⟨rfl, rfl, rfl⟩ ?hh ?uu
  case hb => exact (ebx.trans ebc).symm
  case hf => rw [fx, flP_congr fc Iff.rfl Iff.rfl]; simp only [flP]; generalize FLp G a2 = A9; generalize FFp G v = F9; generalize FFp G v2 = F8; by_cases hA : A9 <;> by_cases hF : F9 <;> by_cases hF2 : F8 <;> simp [hA, hF, hF2]
  case g =>
    show apSG G V (nI x) _ = _
    unfold apSG
    simp only [fX2_exchange_G, fX2_addLike_G, fX2_addLike, fX2_addLike_V, fX2_skip_G, fX2_workAbove_G, fX2_workAbove_V, fX1_add_G, fX1_add, fX1_add_V, ex, ec, q1, q2, q4, q5, p1, p2, p3, p4, p5, h.2.2.2.1, (and64 v2 (sc.2.2.2.2.2.2.2.2.1 (by decide)) v (sx.2.2.2.2.2.2.2.2.1 (by decide))).1]
    try rfl
  case hh =>
    unfold fX6_rewrites_G
    rw [if_neg (show ¬ (nI 9 : Int32) = 0 by decide), if_neg (show ¬ (nI 9 : Int32) = 1 by decide), if_neg (show ¬ (nI 9 : Int32) = 2 by decide), if_neg (show ¬ (nI 9 : Int32) = 3 by decide), if_neg (show ¬ (nI 9 : Int32) = 4 by decide), if_neg (show ¬ (nI 9 : Int32) = 5 by decide), if_neg (show ¬ (nI 9 : Int32) = 6 by decide), if_neg (show ¬ (nI 9 : Int32) = 7 by decide), if_neg (show ¬ (nI 9 : Int32) = 8 by decide), if_pos (show (nI 9 : Int32) = 9 by decide)]
    simp only [ex, ec, ← a1, ← a2', ← a4, ← a5, ← d1, ← d2, ← d3, ← d4, ← d5, u1, (and64 v2 (sc.2.2.2.2.2.2.2.2.1 (by decide)) v (sx.2.2.2.2.2.2.2.2.1 (by decide))).1]
    try rfl
  case uu =>
    unfold fX6_rewrites_V
    rw [if_neg (show ¬ (nI 9 : Int32) = 0 by decide), if_neg (show ¬ (nI 9 : Int32) = 1 by decide), if_neg (show ¬ (nI 9 : Int32) = 2 by decide), if_neg (show ¬ (nI 9 : Int32) = 3 by decide), if_neg (show ¬ (nI 9 : Int32) = 4 by decide), if_neg (show ¬ (nI 9 : Int32) = 5 by decide), if_neg (show ¬ (nI 9 : Int32) = 6 by decide), if_neg (show ¬ (nI 9 : Int32) = 7 by decide), if_neg (show ¬ (nI 9 : Int32) = 8 by decide), if_pos (show (nI 9 : Int32) = 9 by decide)]
    exact ⟨rfl, rfl, rfl⟩
set_option maxHeartbeats 800000 in
theorem rs_10 {G H : Nat → Nat → Int32} {V U : Nat → Int32} {nn nf : Nat} {bd rk : Nat → Nat} (h : PLC G V nn nf bd rk) (ag : AGR G H nn nf) (u0 : U 0 = nI nf) (u1 : U 1 = nI nn) (u2 : U 2 = V 9) {x : Nat} (hx : x < nn) (hs : ¬ fX2_suits G (nI x) (nI 10) = 0) (hr : ¬ fX2_hasRoom G V (nI x) (nI 10) = 0) : SIMP (apG G V (nI x) 10) (apV G V (nI x) 10) (fX6_rewrites_G H U (nI x) (nI 10)) (fX6_rewrites_V H U (nI x) (nI 10)) := by
  obtain ⟨hk, hc⟩ := suits_kinds hs
  have hnn := h.1
  obtain ⟨k, c, b, m, v, ⟨q1, q2, q3, q4, q5⟩, sx, bx, ebx, fx, -⟩ := h.node hx
  have ex : ix (nI x) = x := ix_nI (by omega)
  have hkU : k = 3 := (kI sx.1 (by decide : 3 < 2 ^ 31)).mp (by rw [ex, q1] at hk; exact hk.trans (by decide))
  subst hkU
  have hcn : c < nn := (sx.2.2.1 (by decide)).1
  obtain ⟨k2, a2, b2, m2, v2, ⟨p1, p2, p3, p4, p5⟩, sc, bc, ebc, fc, -⟩ := h.node hcn
  have ec : ix (nI c) = c := ix_nI (by omega)
  have hkL : k2 = 2 := (kI sc.1 (by decide : 2 < 2 ^ 31)).mp (by rw [ex, q2, ec, p1] at hc; exact hc.trans (by decide))
  subst hkL
  have hb0 : b = 0 := sx.2.2.2.2.1 (by decide)
  subst hb0
  have hm0 : m = 0 := sx.2.2.2.2.2.2.1 (by decide)
  subst hm0
  have hb20 : b2 = 0 := sc.2.2.2.2.1 (by decide)
  subst hb20
  obtain ⟨a1, a2', a3, a4, a5⟩ := ag.2.2.2.2 x hx
  obtain ⟨d1, d2, d3, d4, d5⟩ := ag.2.2.2.2 c hcn
  have ha2 := sc.2.2.1 (by decide)
  have hb2 : True := trivial
  rw [q1] at a1
  rw [q2] at a2'
  rw [q4] at a4
  rw [q5] at a5
  rw [p1] at d1
  rw [p2] at d2
  rw [p3] at d3
  rw [p4] at d4
  rw [p5] at d5
  have cond := cond10 (V := V) (nn := nn) (nf := nf) (bd := bd) (rk := rk) (c := c) (v2 := v2) (by rw [ex]; exact q2) (by rw [ec]; exact p5) (by have := sc.2.2.2.2.2.2.2.1 (by decide); have := h.2.1; omega) hs
  refine SIMP_of (rw_skip h ag u0 u1 u2 (w := v) hx sx sc (by decide) (by decide) (by decide) ⟨fun e => absurd e (by decide), fun _ => sx.2.2.2.2.2.2.2.2.1 (by decide), fun e => absurd e (by decide), fun e => absurd e (by decide), fun e => absurd e (by decide)⟩ ?hb ?hf) ?g ⟨rfl, rfl, rfl⟩ ?hh ?uu
  case hb => exact (ebx.trans ebc).symm
  case hf => rw [fx, flP_congr fc Iff.rfl Iff.rfl]; simp only [flP]; generalize FLp G a2 = A9; generalize FFp G v = F9; by_cases hA : A9 <;> by_cases hF : F9 <;> simp [hA, hF, cond]
  case g =>
    show apSG G V (nI x) _ = _
    unfold apSG
    simp only [fX2_exchange_G, fX2_addLike_G, fX2_addLike, fX2_addLike_V, fX2_skip_G, fX2_workAbove_G, fX2_workAbove_V, fX1_add_G, fX1_add, fX1_add_V, ex, ec, q1, q2, q4, q5, p1, p2, p3, p4, p5, h.2.2.2.1]
    try rfl
  case hh =>
    unfold fX6_rewrites_G
    rw [if_neg (show ¬ (nI 10 : Int32) = 0 by decide), if_neg (show ¬ (nI 10 : Int32) = 1 by decide), if_neg (show ¬ (nI 10 : Int32) = 2 by decide), if_neg (show ¬ (nI 10 : Int32) = 3 by decide), if_neg (show ¬ (nI 10 : Int32) = 4 by decide), if_neg (show ¬ (nI 10 : Int32) = 5 by decide), if_neg (show ¬ (nI 10 : Int32) = 6 by decide), if_neg (show ¬ (nI 10 : Int32) = 7 by decide), if_neg (show ¬ (nI 10 : Int32) = 8 by decide), if_neg (show ¬ (nI 10 : Int32) = 9 by decide), if_pos (show (nI 10 : Int32) = 10 by decide)]
    simp only [ex, ec, ← a1, ← a2', ← a4, ← a5, ← d1, ← d2, ← d3, ← d4, ← d5, u1]
    try rfl
  case uu =>
    unfold fX6_rewrites_V
    rw [if_neg (show ¬ (nI 10 : Int32) = 0 by decide), if_neg (show ¬ (nI 10 : Int32) = 1 by decide), if_neg (show ¬ (nI 10 : Int32) = 2 by decide), if_neg (show ¬ (nI 10 : Int32) = 3 by decide), if_neg (show ¬ (nI 10 : Int32) = 4 by decide), if_neg (show ¬ (nI 10 : Int32) = 5 by decide), if_neg (show ¬ (nI 10 : Int32) = 6 by decide), if_neg (show ¬ (nI 10 : Int32) = 7 by decide), if_neg (show ¬ (nI 10 : Int32) = 8 by decide), if_neg (show ¬ (nI 10 : Int32) = 9 by decide), if_pos (show (nI 10 : Int32) = 10 by decide)]
    exact ⟨rfl, rfl, rfl⟩
set_option maxHeartbeats 800000 in
theorem rs_11 {G H : Nat → Nat → Int32} {V U : Nat → Int32} {nn nf : Nat} {bd rk : Nat → Nat} (h : PLC G V nn nf bd rk) (ag : AGR G H nn nf) (u0 : U 0 = nI nf) (u1 : U 1 = nI nn) (u2 : U 2 = V 9) {x : Nat} (hx : x < nn) (hs : ¬ fX2_suits G (nI x) (nI 11) = 0) (hr : ¬ fX2_hasRoom G V (nI x) (nI 11) = 0) : SIMP (apG G V (nI x) 11) (apV G V (nI x) 11) (fX6_rewrites_G H U (nI x) (nI 11)) (fX6_rewrites_V H U (nI x) (nI 11)) := by
  obtain ⟨hk, hc⟩ := suits_kinds hs
  have hnn := h.1
  obtain ⟨k, c, b, m, v, ⟨q1, q2, q3, q4, q5⟩, sx, bx, ebx, fx, -⟩ := h.node hx
  have ex : ix (nI x) = x := ix_nI (by omega)
  have hkU : k = 3 := (kI sx.1 (by decide : 3 < 2 ^ 31)).mp (by rw [ex, q1] at hk; exact hk.trans (by decide))
  subst hkU
  have hcn : c < nn := (sx.2.2.1 (by decide)).1
  obtain ⟨k2, a2, b2, m2, v2, ⟨p1, p2, p3, p4, p5⟩, sc, bc, ebc, fc, -⟩ := h.node hcn
  have ec : ix (nI c) = c := ix_nI (by omega)
  have hkL : k2 = 5 := (kI sc.1 (by decide : 5 < 2 ^ 31)).mp (by rw [ex, q2, ec, p1] at hc; exact hc.trans (by decide))
  subst hkL
  have hb0 : b = 0 := sx.2.2.2.2.1 (by decide)
  subst hb0
  have hm0 : m = 0 := sx.2.2.2.2.2.2.1 (by decide)
  subst hm0
  have hm20 : m2 = 0 := sc.2.2.2.2.2.2.1 (by decide)
  subst hm20
  have hv20 : v2 = 0 := sc.2.2.2.2.2.2.2.2.2.2.2 (by decide)
  subst hv20
  obtain ⟨a1, a2', a3, a4, a5⟩ := ag.2.2.2.2 x hx
  obtain ⟨d1, d2, d3, d4, d5⟩ := ag.2.2.2.2 c hcn
  have ha2 := sc.2.2.1 (by decide)
  have hb2 : b2 < nn := (sc.2.2.2.1 (by decide)).1
  rw [q1] at a1
  rw [q2] at a2'
  rw [q4] at a4
  rw [q5] at a5
  rw [p1] at d1
  rw [p2] at d2
  rw [p3] at d3
  rw [p4] at d4
  rw [p5] at d5
  have room : nn + 2 ≤ 60 := room_n hnn h.2.2.2.1 (by decide) (by decide) (by decide) (by decide) hr
  have b2l := sc.2.2.2.1 (by decide)
  refine SIMP_of (rw_two h ag u0 u1 u2 (V2 := apV G V (nI x) 11) (U2 := fX6_rewrites_V H U (nI x) (nI 11)) (by omega) hx hcn sx sc (by decide) (by decide) (by show bd a2 ≤ 100; obtain ⟨_, _, _, _, _, _, _, q, _⟩ := h.node ha2.1; exact q) (by show bd b2 ≤ 100; obtain ⟨_, _, _, _, _, _, _, q, _⟩ := h.node b2l.1; exact q) ?hb ?hf rfl rfl rfl rfl rfl ?e1 rfl ?e2 ?e3 ?e4) ?g ⟨rfl, rfl, rfl⟩ ?hh ⟨rfl, rfl, rfl⟩
  case hb => exact (ebx.trans ebc).symm
  case hf => rw [fx, flP_congr fc Iff.rfl Iff.rfl]; simp only [flP]; generalize FLp G a2 = A9; generalize FLp G b2 = B9; generalize FLp G 0 = Z9; generalize FFp G v = F9; generalize FFp G 0 = F8; by_cases hA : A9 <;> by_cases hB : B9 <;> by_cases hF : F9 <;> by_cases hF2 : F8 <;> simp [hA, hB, hF, hF2]
  case e1 => show V 1 + 1 + 1 = _; rw [h.2.2.2.1, nI_1, nI_1]
  case e2 =>
    unfold fX6_rewrites_V
    rw [if_neg (show ¬ (nI 11 : Int32) = 0 by decide), if_neg (show ¬ (nI 11 : Int32) = 1 by decide), if_neg (show ¬ (nI 11 : Int32) = 2 by decide), if_neg (show ¬ (nI 11 : Int32) = 3 by decide), if_neg (show ¬ (nI 11 : Int32) = 4 by decide), if_neg (show ¬ (nI 11 : Int32) = 5 by decide), if_neg (show ¬ (nI 11 : Int32) = 6 by decide), if_neg (show ¬ (nI 11 : Int32) = 7 by decide), if_neg (show ¬ (nI 11 : Int32) = 8 by decide), if_neg (show ¬ (nI 11 : Int32) = 9 by decide), if_neg (show ¬ (nI 11 : Int32) = 10 by decide), if_pos (show (nI 11 : Int32) = 11 by decide)]
    exact (rfl : U 0 = U 0)
  case e3 =>
    unfold fX6_rewrites_V
    rw [if_neg (show ¬ (nI 11 : Int32) = 0 by decide), if_neg (show ¬ (nI 11 : Int32) = 1 by decide), if_neg (show ¬ (nI 11 : Int32) = 2 by decide), if_neg (show ¬ (nI 11 : Int32) = 3 by decide), if_neg (show ¬ (nI 11 : Int32) = 4 by decide), if_neg (show ¬ (nI 11 : Int32) = 5 by decide), if_neg (show ¬ (nI 11 : Int32) = 6 by decide), if_neg (show ¬ (nI 11 : Int32) = 7 by decide), if_neg (show ¬ (nI 11 : Int32) = 8 by decide), if_neg (show ¬ (nI 11 : Int32) = 9 by decide), if_neg (show ¬ (nI 11 : Int32) = 10 by decide), if_pos (show (nI 11 : Int32) = 11 by decide)]
    show U 1 + 1 + 1 = _
    rw [u1, nI_1, nI_1]
  case e4 =>
    unfold fX6_rewrites_V
    rw [if_neg (show ¬ (nI 11 : Int32) = 0 by decide), if_neg (show ¬ (nI 11 : Int32) = 1 by decide), if_neg (show ¬ (nI 11 : Int32) = 2 by decide), if_neg (show ¬ (nI 11 : Int32) = 3 by decide), if_neg (show ¬ (nI 11 : Int32) = 4 by decide), if_neg (show ¬ (nI 11 : Int32) = 5 by decide), if_neg (show ¬ (nI 11 : Int32) = 6 by decide), if_neg (show ¬ (nI 11 : Int32) = 7 by decide), if_neg (show ¬ (nI 11 : Int32) = 8 by decide), if_neg (show ¬ (nI 11 : Int32) = 9 by decide), if_neg (show ¬ (nI 11 : Int32) = 10 by decide), if_pos (show (nI 11 : Int32) = 11 by decide)]
    exact (rfl : U 2 + 1 = U 2 + 1)
  case g =>
    show ap4G G V (nI x) = _
    unfold ap4G
    simp only [fX2_exchange_G, fX2_addLike_G, fX2_addLike, fX2_addLike_V, fX2_skip_G, fX2_workAbove_G, fX2_workAbove_V, fX1_add_G, fX1_add, fX1_add_V, ex, ec, q1, q2, q4, q5, p1, p2, p3, p4, p5, h.2.2.2.1, pk_us, pk_un (show (1 : Nat) ≠ 9 by decide), pk_un (show (0 : Nat) ≠ 9 by decide), nI_1, write_keep (j := c) (show c ≠ ix (nI nn) by rw [ix_nI (by omega)]; omega), write_keep (j := x) (show x ≠ ix (nI nn) by rw [ix_nI (by omega)]; omega), write_keep (j := c) (show c ≠ ix (nI (nn + 1)) by rw [ix_nI (by omega)]; omega), write_keep (j := x) (show x ≠ ix (nI (nn + 1)) by rw [ix_nI (by omega)]; omega)]
    try rfl
  case hh =>
    unfold fX6_rewrites_G
    rw [if_neg (show ¬ (nI 11 : Int32) = 0 by decide), if_neg (show ¬ (nI 11 : Int32) = 1 by decide), if_neg (show ¬ (nI 11 : Int32) = 2 by decide), if_neg (show ¬ (nI 11 : Int32) = 3 by decide), if_neg (show ¬ (nI 11 : Int32) = 4 by decide), if_neg (show ¬ (nI 11 : Int32) = 5 by decide), if_neg (show ¬ (nI 11 : Int32) = 6 by decide), if_neg (show ¬ (nI 11 : Int32) = 7 by decide), if_neg (show ¬ (nI 11 : Int32) = 8 by decide), if_neg (show ¬ (nI 11 : Int32) = 9 by decide), if_neg (show ¬ (nI 11 : Int32) = 10 by decide), if_pos (show (nI 11 : Int32) = 11 by decide)]
    simp only [fX6_lay_G, fX6_lay, fX6_lay_V, ex, ec, ← a1, ← a2', ← a4, ← a5, ← d1, ← d2, ← d3, ← d4, ← d5, u1, pk_us, pk_un (show (1 : Nat) ≠ 2 by decide), pk_un (show (0 : Nat) ≠ 2 by decide), nI_1, put_keep (j := c) (show c ≠ ix (nI nn) by rw [ix_nI (by omega)]; omega), put_keep (j := x) (show x ≠ ix (nI nn) by rw [ix_nI (by omega)]; omega), put_keep (j := c) (show c ≠ ix (nI (nn + 1)) by rw [ix_nI (by omega)]; omega), put_keep (j := x) (show x ≠ ix (nI (nn + 1)) by rw [ix_nI (by omega)]; omega)]
    try rfl
set_option maxHeartbeats 800000 in
theorem rs_12 {G H : Nat → Nat → Int32} {V U : Nat → Int32} {nn nf : Nat} {bd rk : Nat → Nat} (h : PLC G V nn nf bd rk) (ag : AGR G H nn nf) (u0 : U 0 = nI nf) (u1 : U 1 = nI nn) (u2 : U 2 = V 9) {x : Nat} (hx : x < nn) (hs : ¬ fX2_suits G (nI x) (nI 12) = 0) (hr : ¬ fX2_hasRoom G V (nI x) (nI 12) = 0) : SIMP (apG G V (nI x) 12) (apV G V (nI x) 12) (fX6_rewrites_G H U (nI x) (nI 12)) (fX6_rewrites_V H U (nI x) (nI 12)) := by
  obtain ⟨hk, hc⟩ := suits_kinds hs
  have hnn := h.1
  obtain ⟨k, c, b, m, v, ⟨q1, q2, q3, q4, q5⟩, sx, bx, ebx, fx, -⟩ := h.node hx
  have ex : ix (nI x) = x := ix_nI (by omega)
  have hkU : k = 6 := (kI sx.1 (by decide : 6 < 2 ^ 31)).mp (by rw [ex, q1] at hk; exact hk.trans (by decide))
  subst hkU
  have hcn : c < nn := (sx.2.2.1 (by decide)).1
  obtain ⟨k2, a2, b2, m2, v2, ⟨p1, p2, p3, p4, p5⟩, sc, bc, ebc, fc, -⟩ := h.node hcn
  have ec : ix (nI c) = c := ix_nI (by omega)
  have hkL : k2 = 5 := (kI sc.1 (by decide : 5 < 2 ^ 31)).mp (by rw [ex, q2, ec, p1] at hc; exact hc.trans (by decide))
  subst hkL
  have hb0 : b = 0 := sx.2.2.2.2.1 (by decide)
  subst hb0
  have hm20 : m2 = 0 := sc.2.2.2.2.2.2.1 (by decide)
  subst hm20
  have hv20 : v2 = 0 := sc.2.2.2.2.2.2.2.2.2.2.2 (by decide)
  subst hv20
  obtain ⟨a1, a2', a3, a4, a5⟩ := ag.2.2.2.2 x hx
  obtain ⟨d1, d2, d3, d4, d5⟩ := ag.2.2.2.2 c hcn
  have ha2 := sc.2.2.1 (by decide)
  have hb2 : b2 < nn := (sc.2.2.2.1 (by decide)).1
  rw [q1] at a1
  rw [q2] at a2'
  rw [q4] at a4
  rw [q5] at a5
  rw [p1] at d1
  rw [p2] at d2
  rw [p3] at d3
  rw [p4] at d4
  rw [p5] at d5
  have room : nn + 3 ≤ 60 := room_n hnn h.2.2.2.1 (by decide) (by decide) (by decide) (by decide) hr
  have b2l := sc.2.2.2.1 (by decide)
  refine SIMP_of (rw_three h ag u0 u1 u2 (V2 := apV G V (nI x) 12) (U2 := fX6_rewrites_V H U (nI x) (nI 12)) (by omega) hx hcn sx sc (by decide) ?hb ?hf rfl rfl rfl rfl rfl rfl rfl ?e1 rfl ?e2 ?e3 ?e4) ?g ⟨rfl, rfl, rfl⟩ ?hh ⟨rfl, rfl, rfl⟩
  case hb => exact (ebx.trans ebc).symm
  case hf => rw [fx, flP_congr fc Iff.rfl Iff.rfl]; simp only [flP]; generalize FLp G a2 = A9; generalize FLp G b2 = B9; generalize FLp G 0 = Z9; generalize FFp G v = F9; generalize FFp G 0 = F8; by_cases hA : A9 <;> by_cases hB : B9 <;> by_cases hF : F9 <;> by_cases hF2 : F8 <;> simp [hA, hB, hF, hF2]
  case e1 => show V 1 + 1 + 1 + 1 = _; rw [h.2.2.2.1, nI_1, nI_1, nI_1]
  case e2 =>
    unfold fX6_rewrites_V
    rw [if_neg (show ¬ (nI 12 : Int32) = 0 by decide), if_neg (show ¬ (nI 12 : Int32) = 1 by decide), if_neg (show ¬ (nI 12 : Int32) = 2 by decide), if_neg (show ¬ (nI 12 : Int32) = 3 by decide), if_neg (show ¬ (nI 12 : Int32) = 4 by decide), if_neg (show ¬ (nI 12 : Int32) = 5 by decide), if_neg (show ¬ (nI 12 : Int32) = 6 by decide), if_neg (show ¬ (nI 12 : Int32) = 7 by decide), if_neg (show ¬ (nI 12 : Int32) = 8 by decide), if_neg (show ¬ (nI 12 : Int32) = 9 by decide), if_neg (show ¬ (nI 12 : Int32) = 10 by decide), if_neg (show ¬ (nI 12 : Int32) = 11 by decide), if_pos (show (nI 12 : Int32) = 12 by decide)]
    exact (rfl : U 0 = U 0)
  case e3 =>
    unfold fX6_rewrites_V
    rw [if_neg (show ¬ (nI 12 : Int32) = 0 by decide), if_neg (show ¬ (nI 12 : Int32) = 1 by decide), if_neg (show ¬ (nI 12 : Int32) = 2 by decide), if_neg (show ¬ (nI 12 : Int32) = 3 by decide), if_neg (show ¬ (nI 12 : Int32) = 4 by decide), if_neg (show ¬ (nI 12 : Int32) = 5 by decide), if_neg (show ¬ (nI 12 : Int32) = 6 by decide), if_neg (show ¬ (nI 12 : Int32) = 7 by decide), if_neg (show ¬ (nI 12 : Int32) = 8 by decide), if_neg (show ¬ (nI 12 : Int32) = 9 by decide), if_neg (show ¬ (nI 12 : Int32) = 10 by decide), if_neg (show ¬ (nI 12 : Int32) = 11 by decide), if_pos (show (nI 12 : Int32) = 12 by decide)]
    show U 1 + 1 + 1 + 1 = _
    rw [u1, nI_1, nI_1, nI_1]
  case e4 =>
    unfold fX6_rewrites_V
    rw [if_neg (show ¬ (nI 12 : Int32) = 0 by decide), if_neg (show ¬ (nI 12 : Int32) = 1 by decide), if_neg (show ¬ (nI 12 : Int32) = 2 by decide), if_neg (show ¬ (nI 12 : Int32) = 3 by decide), if_neg (show ¬ (nI 12 : Int32) = 4 by decide), if_neg (show ¬ (nI 12 : Int32) = 5 by decide), if_neg (show ¬ (nI 12 : Int32) = 6 by decide), if_neg (show ¬ (nI 12 : Int32) = 7 by decide), if_neg (show ¬ (nI 12 : Int32) = 8 by decide), if_neg (show ¬ (nI 12 : Int32) = 9 by decide), if_neg (show ¬ (nI 12 : Int32) = 10 by decide), if_neg (show ¬ (nI 12 : Int32) = 11 by decide), if_pos (show (nI 12 : Int32) = 12 by decide)]
    exact (rfl : U 2 + 1 = U 2 + 1)
  case g =>
    show ap12G G V (nI x) = _
    unfold ap12G
    simp only [fX2_exchange_G, fX2_addLike_G, fX2_addLike, fX2_addLike_V, fX2_skip_G, fX2_workAbove_G, fX2_workAbove_V, fX1_add_G, fX1_add, fX1_add_V, ex, ec, q1, q2, q4, q5, p1, p2, p3, p4, p5, h.2.2.2.1, pk_us, pk_un (show (1 : Nat) ≠ 9 by decide), pk_un (show (0 : Nat) ≠ 9 by decide), nI_1, write_keep (j := c) (show c ≠ ix (nI nn) by rw [ix_nI (by omega)]; omega), write_keep (j := x) (show x ≠ ix (nI nn) by rw [ix_nI (by omega)]; omega), write_keep (j := c) (show c ≠ ix (nI (nn + 1)) by rw [ix_nI (by omega)]; omega), write_keep (j := x) (show x ≠ ix (nI (nn + 1)) by rw [ix_nI (by omega)]; omega), write_keep (j := c) (show c ≠ ix (nI (nn + 2)) by rw [ix_nI (by omega)]; omega), write_keep (j := x) (show x ≠ ix (nI (nn + 2)) by rw [ix_nI (by omega)]; omega)]
    try rfl
  case hh =>
    unfold fX6_rewrites_G
    rw [if_neg (show ¬ (nI 12 : Int32) = 0 by decide), if_neg (show ¬ (nI 12 : Int32) = 1 by decide), if_neg (show ¬ (nI 12 : Int32) = 2 by decide), if_neg (show ¬ (nI 12 : Int32) = 3 by decide), if_neg (show ¬ (nI 12 : Int32) = 4 by decide), if_neg (show ¬ (nI 12 : Int32) = 5 by decide), if_neg (show ¬ (nI 12 : Int32) = 6 by decide), if_neg (show ¬ (nI 12 : Int32) = 7 by decide), if_neg (show ¬ (nI 12 : Int32) = 8 by decide), if_neg (show ¬ (nI 12 : Int32) = 9 by decide), if_neg (show ¬ (nI 12 : Int32) = 10 by decide), if_neg (show ¬ (nI 12 : Int32) = 11 by decide), if_pos (show (nI 12 : Int32) = 12 by decide)]
    simp only [fX6_lay_G, fX6_lay, fX6_lay_V, ex, ec, ← a1, ← a2', ← a4, ← a5, ← d1, ← d2, ← d3, ← d4, ← d5, u1, pk_us, pk_un (show (1 : Nat) ≠ 2 by decide), pk_un (show (0 : Nat) ≠ 2 by decide), nI_1, put_keep (j := c) (show c ≠ ix (nI nn) by rw [ix_nI (by omega)]; omega), put_keep (j := x) (show x ≠ ix (nI nn) by rw [ix_nI (by omega)]; omega), put_keep (j := c) (show c ≠ ix (nI (nn + 1)) by rw [ix_nI (by omega)]; omega), put_keep (j := x) (show x ≠ ix (nI (nn + 1)) by rw [ix_nI (by omega)]; omega), put_keep (j := c) (show c ≠ ix (nI (nn + 2)) by rw [ix_nI (by omega)]; omega), put_keep (j := x) (show x ≠ ix (nI (nn + 2)) by rw [ix_nI (by omega)]; omega)]
    try rfl
set_option maxHeartbeats 800000 in
theorem rs_13 {G H : Nat → Nat → Int32} {V U : Nat → Int32} {nn nf : Nat} {bd rk : Nat → Nat} (h : PLC G V nn nf bd rk) (ag : AGR G H nn nf) (u0 : U 0 = nI nf) (u1 : U 1 = nI nn) (u2 : U 2 = V 9) {x : Nat} (hx : x < nn) (hs : ¬ fX2_suits G (nI x) (nI 13) = 0) (hr : ¬ fX2_hasRoom G V (nI x) (nI 13) = 0) : SIMP (apG G V (nI x) 13) (apV G V (nI x) 13) (fX6_rewrites_G H U (nI x) (nI 13)) (fX6_rewrites_V H U (nI x) (nI 13)) := by
  obtain ⟨hk, hc⟩ := suits_kinds hs
  have hnn := h.1
  obtain ⟨k, c, b, m, v, ⟨q1, q2, q3, q4, q5⟩, sx, bx, ebx, fx, -⟩ := h.node hx
  have ex : ix (nI x) = x := ix_nI (by omega)
  have hkU : k = 6 := (kI sx.1 (by decide : 6 < 2 ^ 31)).mp (by rw [ex, q1] at hk; exact hk.trans (by decide))
  subst hkU
  have hcn : c < nn := (sx.2.2.1 (by decide)).1
  obtain ⟨k2, a2, b2, m2, v2, ⟨p1, p2, p3, p4, p5⟩, sc, bc, ebc, fc, -⟩ := h.node hcn
  have ec : ix (nI c) = c := ix_nI (by omega)
  have hkL : k2 = 3 := (kI sc.1 (by decide : 3 < 2 ^ 31)).mp (by rw [ex, q2, ec, p1] at hc; exact hc.trans (by decide))
  subst hkL
  have hb0 : b = 0 := sx.2.2.2.2.1 (by decide)
  subst hb0
  have hb20 : b2 = 0 := sc.2.2.2.2.1 (by decide)
  subst hb20
  have hm20 : m2 = 0 := sc.2.2.2.2.2.2.1 (by decide)
  subst hm20
  obtain ⟨a1, a2', a3, a4, a5⟩ := ag.2.2.2.2 x hx
  obtain ⟨d1, d2, d3, d4, d5⟩ := ag.2.2.2.2 c hcn
  have ha2 := sc.2.2.1 (by decide)
  have hb2 : True := trivial
  rw [q1] at a1
  rw [q2] at a2'
  rw [q4] at a4
  rw [q5] at a5
  rw [p1] at d1
  rw [p2] at d2
  rw [p3] at d3
  rw [p4] at d4
  rw [p5] at d5
  refine SIMP_of (rw_skip h ag u0 u1 u2 (w := v) hx sx sc (by decide) (by decide) (by decide) ⟨fun e => absurd e (by decide), fun e => absurd e (by decide), fun _ => sx.2.2.2.2.2.2.2.2.2.1 (by decide), fun e => absurd e (by decide), fun e => absurd e (by decide)⟩ ?hb ?hf) ?g ⟨rfl, rfl, rfl⟩ ?hh ?uu
  case hb => exact (ebx.trans ebc).symm
  case hf => rw [fx, flP_congr fc Iff.rfl Iff.rfl]; simp only [flP]; generalize FLp G a2 = A9; generalize FFp G v = F9; generalize FFp G v2 = F8; by_cases hA : A9 <;> by_cases hF : F9 <;> by_cases hF2 : F8 <;> simp [hA, hF, hF2]
  case g =>
    show apSG G V (nI x) _ = _
    unfold apSG
    simp only [fX2_exchange_G, fX2_addLike_G, fX2_addLike, fX2_addLike_V, fX2_skip_G, fX2_workAbove_G, fX2_workAbove_V, fX1_add_G, fX1_add, fX1_add_V, ex, ec, q1, q2, q4, q5, p1, p2, p3, p4, p5, h.2.2.2.1]
    try rfl
  case hh =>
    unfold fX6_rewrites_G
    rw [if_neg (show ¬ (nI 13 : Int32) = 0 by decide), if_neg (show ¬ (nI 13 : Int32) = 1 by decide), if_neg (show ¬ (nI 13 : Int32) = 2 by decide), if_neg (show ¬ (nI 13 : Int32) = 3 by decide), if_neg (show ¬ (nI 13 : Int32) = 4 by decide), if_neg (show ¬ (nI 13 : Int32) = 5 by decide), if_neg (show ¬ (nI 13 : Int32) = 6 by decide), if_neg (show ¬ (nI 13 : Int32) = 7 by decide), if_neg (show ¬ (nI 13 : Int32) = 8 by decide), if_neg (show ¬ (nI 13 : Int32) = 9 by decide), if_neg (show ¬ (nI 13 : Int32) = 10 by decide), if_neg (show ¬ (nI 13 : Int32) = 11 by decide), if_neg (show ¬ (nI 13 : Int32) = 12 by decide), if_pos (show (nI 13 : Int32) = 13 by decide)]
    simp only [ex, ec, ← a1, ← a2', ← a4, ← a5, ← d1, ← d2, ← d3, ← d4, ← d5, u1]
    try rfl
  case uu =>
    unfold fX6_rewrites_V
    rw [if_neg (show ¬ (nI 13 : Int32) = 0 by decide), if_neg (show ¬ (nI 13 : Int32) = 1 by decide), if_neg (show ¬ (nI 13 : Int32) = 2 by decide), if_neg (show ¬ (nI 13 : Int32) = 3 by decide), if_neg (show ¬ (nI 13 : Int32) = 4 by decide), if_neg (show ¬ (nI 13 : Int32) = 5 by decide), if_neg (show ¬ (nI 13 : Int32) = 6 by decide), if_neg (show ¬ (nI 13 : Int32) = 7 by decide), if_neg (show ¬ (nI 13 : Int32) = 8 by decide), if_neg (show ¬ (nI 13 : Int32) = 9 by decide), if_neg (show ¬ (nI 13 : Int32) = 10 by decide), if_neg (show ¬ (nI 13 : Int32) = 11 by decide), if_neg (show ¬ (nI 13 : Int32) = 12 by decide), if_pos (show (nI 13 : Int32) = 13 by decide)]
    exact ⟨rfl, rfl, rfl⟩
set_option maxHeartbeats 800000 in
theorem rs_14 {G H : Nat → Nat → Int32} {V U : Nat → Int32} {nn nf : Nat} {bd rk : Nat → Nat} (h : PLC G V nn nf bd rk) (ag : AGR G H nn nf) (u0 : U 0 = nI nf) (u1 : U 1 = nI nn) (u2 : U 2 = V 9) {x : Nat} (hx : x < nn) (hs : ¬ fX2_suits G (nI x) (nI 14) = 0) (hr : ¬ fX2_hasRoom G V (nI x) (nI 14) = 0) : SIMP (apG G V (nI x) 14) (apV G V (nI x) 14) (fX6_rewrites_G H U (nI x) (nI 14)) (fX6_rewrites_V H U (nI x) (nI 14)) := by
  obtain ⟨hk, hc⟩ := suits_kinds hs
  have hnn := h.1
  obtain ⟨k, c, b, m, v, ⟨q1, q2, q3, q4, q5⟩, sx, bx, ebx, fx, -⟩ := h.node hx
  have ex : ix (nI x) = x := ix_nI (by omega)
  have hkU : k = 7 := (kI sx.1 (by decide : 7 < 2 ^ 31)).mp (by rw [ex, q1] at hk; exact hk.trans (by decide))
  subst hkU
  have hcn : c < nn := (sx.2.2.1 (by decide)).1
  obtain ⟨k2, a2, b2, m2, v2, ⟨p1, p2, p3, p4, p5⟩, sc, bc, ebc, fc, -⟩ := h.node hcn
  have ec : ix (nI c) = c := ix_nI (by omega)
  have hkL : k2 = 7 := (kI sc.1 (by decide : 7 < 2 ^ 31)).mp (by rw [ex, q2, ec, p1] at hc; exact hc.trans (by decide))
  subst hkL
  have hb0 : b = 0 := sx.2.2.2.2.1 (by decide)
  subst hb0
  have hm0 : m = 0 := sx.2.2.2.2.2.2.1 (by decide)
  subst hm0
  have hv0 : v = 0 := sx.2.2.2.2.2.2.2.2.2.2.2 (by decide)
  subst hv0
  have hb20 : b2 = 0 := sc.2.2.2.2.1 (by decide)
  subst hb20
  have hm20 : m2 = 0 := sc.2.2.2.2.2.2.1 (by decide)
  subst hm20
  have hv20 : v2 = 0 := sc.2.2.2.2.2.2.2.2.2.2.2 (by decide)
  subst hv20
  obtain ⟨a1, a2', a3, a4, a5⟩ := ag.2.2.2.2 x hx
  obtain ⟨d1, d2, d3, d4, d5⟩ := ag.2.2.2.2 c hcn
  have ha2 := sc.2.2.1 (by decide)
  have hb2 : True := trivial
  rw [q1] at a1
  rw [q2] at a2'
  rw [q4] at a4
  rw [q5] at a5
  rw [p1] at d1
  rw [p2] at d2
  rw [p3] at d3
  rw [p4] at d4
  rw [p5] at d5
  refine SIMP_of (rw_skip h ag u0 u1 u2 (w := 0) hx sx sc (by decide) (by decide) (by decide) ⟨fun e => absurd e (by decide), fun e => absurd e (by decide), fun e => absurd e (by decide), fun e => absurd e (by decide), fun _ => rfl⟩ ?hb ?hf) ?g ⟨rfl, rfl, rfl⟩ ?hh ?uu
  case hb => exact (ebx.trans ebc).symm
  case hf => rw [fx, flP_congr fc Iff.rfl Iff.rfl]; simp only [flP]; generalize FLp G a2 = A9; generalize FFp G 0 = F9; generalize FFp G 0 = F8; by_cases hA : A9 <;> by_cases hF : F9 <;> by_cases hF2 : F8 <;> simp [hA, hF, hF2]
  case g =>
    show apSG G V (nI x) _ = _
    unfold apSG
    simp only [fX2_exchange_G, fX2_addLike_G, fX2_addLike, fX2_addLike_V, fX2_skip_G, fX2_workAbove_G, fX2_workAbove_V, fX1_add_G, fX1_add, fX1_add_V, ex, ec, q1, q2, q4, q5, p1, p2, p3, p4, p5, h.2.2.2.1]
    try rfl
  case hh =>
    unfold fX6_rewrites_G
    rw [if_neg (show ¬ (nI 14 : Int32) = 0 by decide), if_neg (show ¬ (nI 14 : Int32) = 1 by decide), if_neg (show ¬ (nI 14 : Int32) = 2 by decide), if_neg (show ¬ (nI 14 : Int32) = 3 by decide), if_neg (show ¬ (nI 14 : Int32) = 4 by decide), if_neg (show ¬ (nI 14 : Int32) = 5 by decide), if_neg (show ¬ (nI 14 : Int32) = 6 by decide), if_neg (show ¬ (nI 14 : Int32) = 7 by decide), if_neg (show ¬ (nI 14 : Int32) = 8 by decide), if_neg (show ¬ (nI 14 : Int32) = 9 by decide), if_neg (show ¬ (nI 14 : Int32) = 10 by decide), if_neg (show ¬ (nI 14 : Int32) = 11 by decide), if_neg (show ¬ (nI 14 : Int32) = 12 by decide), if_neg (show ¬ (nI 14 : Int32) = 13 by decide), if_pos (show (nI 14 : Int32) = 14 by decide)]
    simp only [ex, ec, ← a1, ← a2', ← a4, ← a5, ← d1, ← d2, ← d3, ← d4, ← d5, u1]
    try rfl
  case uu =>
    unfold fX6_rewrites_V
    rw [if_neg (show ¬ (nI 14 : Int32) = 0 by decide), if_neg (show ¬ (nI 14 : Int32) = 1 by decide), if_neg (show ¬ (nI 14 : Int32) = 2 by decide), if_neg (show ¬ (nI 14 : Int32) = 3 by decide), if_neg (show ¬ (nI 14 : Int32) = 4 by decide), if_neg (show ¬ (nI 14 : Int32) = 5 by decide), if_neg (show ¬ (nI 14 : Int32) = 6 by decide), if_neg (show ¬ (nI 14 : Int32) = 7 by decide), if_neg (show ¬ (nI 14 : Int32) = 8 by decide), if_neg (show ¬ (nI 14 : Int32) = 9 by decide), if_neg (show ¬ (nI 14 : Int32) = 10 by decide), if_neg (show ¬ (nI 14 : Int32) = 11 by decide), if_neg (show ¬ (nI 14 : Int32) = 12 by decide), if_neg (show ¬ (nI 14 : Int32) = 13 by decide), if_pos (show (nI 14 : Int32) = 14 by decide)]
    exact ⟨rfl, rfl, rfl⟩
set_option maxHeartbeats 800000 in
theorem rs_15 {G H : Nat → Nat → Int32} {V U : Nat → Int32} {nn nf : Nat} {bd rk : Nat → Nat} (h : PLC G V nn nf bd rk) (ag : AGR G H nn nf) (u0 : U 0 = nI nf) (u1 : U 1 = nI nn) (u2 : U 2 = V 9) {x : Nat} (hx : x < nn) (hs : ¬ fX2_suits G (nI x) (nI 15) = 0) (hr : ¬ fX2_hasRoom G V (nI x) (nI 15) = 0) : SIMP (apG G V (nI x) 15) (apV G V (nI x) 15) (fX6_rewrites_G H U (nI x) (nI 15)) (fX6_rewrites_V H U (nI x) (nI 15)) := by
  obtain ⟨hk, hc⟩ := suits_kinds hs
  have hnn := h.1
  obtain ⟨k, c, b, m, v, ⟨q1, q2, q3, q4, q5⟩, sx, bx, ebx, fx, -⟩ := h.node hx
  have ex : ix (nI x) = x := ix_nI (by omega)
  have hkU : k = 8 := (kI sx.1 (by decide : 8 < 2 ^ 31)).mp (by rw [ex, q1] at hk; exact hk.trans (by decide))
  subst hkU
  have hcn : c < nn := (sx.2.2.1 (by decide)).1
  obtain ⟨k2, a2, b2, m2, v2, ⟨p1, p2, p3, p4, p5⟩, sc, bc, ebc, fc, -⟩ := h.node hcn
  have ec : ix (nI c) = c := ix_nI (by omega)
  have hkL : k2 = 8 := (kI sc.1 (by decide : 8 < 2 ^ 31)).mp (by rw [ex, q2, ec, p1] at hc; exact hc.trans (by decide))
  subst hkL
  have hb0 : b = 0 := sx.2.2.2.2.1 (by decide)
  subst hb0
  have hm0 : m = 0 := sx.2.2.2.2.2.2.1 (by decide)
  subst hm0
  have hb20 : b2 = 0 := sc.2.2.2.2.1 (by decide)
  subst hb20
  have hm20 : m2 = 0 := sc.2.2.2.2.2.2.1 (by decide)
  subst hm20
  obtain ⟨a1, a2', a3, a4, a5⟩ := ag.2.2.2.2 x hx
  obtain ⟨d1, d2, d3, d4, d5⟩ := ag.2.2.2.2 c hcn
  have ha2 := sc.2.2.1 (by decide)
  have hb2 : True := trivial
  rw [q1] at a1
  rw [q2] at a2'
  rw [q4] at a4
  rw [q5] at a5
  rw [p1] at d1
  rw [p2] at d2
  rw [p3] at d3
  rw [p4] at d4
  rw [p5] at d5
  refine SIMP_of (rw_skip h ag u0 u1 u2 (w := (if v < v2 then v else v2)) hx sx sc (by decide) (by decide) (by decide) ⟨fun e => absurd e (by decide), fun e => absurd e (by decide), fun e => absurd e (by decide), fun _ => by have q1 := sx.2.2.2.2.2.2.2.2.2.2.1 rfl; have q2 := sc.2.2.2.2.2.2.2.2.2.2.1 rfl; split <;> omega, fun e => absurd e (by decide)⟩ ?hb ?hf) ?g ⟨rfl, rfl, rfl⟩ ?hh ?uu
  case hb => have e1 : bd x = (if bd c < v then bd c else v) := ebx; have e2 : bd c = (if bd a2 < v2 then bd a2 else v2) := ebc; show (if bd a2 < (if v < v2 then v else v2) then bd a2 else (if v < v2 then v else v2)) = bd x; rw [e1, e2]; by_cases c1 : v < v2 <;> by_cases c2 : bd a2 < v2 <;> by_cases c3 : bd a2 < v <;> by_cases c4 : v2 < v <;> simp [c1, c2, c3, c4] <;> omega
  case hf => rw [fx, flP_congr fc Iff.rfl Iff.rfl]; simp only [flP]; generalize FLp G a2 = A9; generalize FFp G v = F9; generalize FFp G v2 = F8; by_cases hA : A9 <;> by_cases hF : F9 <;> by_cases hF2 : F8 <;> simp [hA, hF, hF2]
  case g =>
    show apSG G V (nI x) _ = _
    unfold apSG
    simp only [fX2_exchange_G, fX2_addLike_G, fX2_addLike, fX2_addLike_V, fX2_skip_G, fX2_workAbove_G, fX2_workAbove_V, fX1_add_G, fX1_add, fX1_add_V, ex, ec, q1, q2, q4, q5, p1, p2, p3, p4, p5, h.2.2.2.1, mn_lt (a := v) (b := v2) (by have := sx.2.2.2.2.2.2.2.2.2.2.1 rfl; omega) (by have := sc.2.2.2.2.2.2.2.2.2.2.1 rfl; omega)]
    try rfl
  case hh =>
    unfold fX6_rewrites_G
    rw [if_neg (show ¬ (nI 15 : Int32) = 0 by decide), if_neg (show ¬ (nI 15 : Int32) = 1 by decide), if_neg (show ¬ (nI 15 : Int32) = 2 by decide), if_neg (show ¬ (nI 15 : Int32) = 3 by decide), if_neg (show ¬ (nI 15 : Int32) = 4 by decide), if_neg (show ¬ (nI 15 : Int32) = 5 by decide), if_neg (show ¬ (nI 15 : Int32) = 6 by decide), if_neg (show ¬ (nI 15 : Int32) = 7 by decide), if_neg (show ¬ (nI 15 : Int32) = 8 by decide), if_neg (show ¬ (nI 15 : Int32) = 9 by decide), if_neg (show ¬ (nI 15 : Int32) = 10 by decide), if_neg (show ¬ (nI 15 : Int32) = 11 by decide), if_neg (show ¬ (nI 15 : Int32) = 12 by decide), if_neg (show ¬ (nI 15 : Int32) = 13 by decide), if_neg (show ¬ (nI 15 : Int32) = 14 by decide), if_pos (show (nI 15 : Int32) = 15 by decide)]
    simp only [ex, ec, ← a1, ← a2', ← a4, ← a5, ← d1, ← d2, ← d3, ← d4, ← d5, u1, mn_le (a := v) (b := v2) (by have := sx.2.2.2.2.2.2.2.2.2.2.1 rfl; omega) (by have := sc.2.2.2.2.2.2.2.2.2.2.1 rfl; omega)]
    try rfl
  case uu =>
    unfold fX6_rewrites_V
    rw [if_neg (show ¬ (nI 15 : Int32) = 0 by decide), if_neg (show ¬ (nI 15 : Int32) = 1 by decide), if_neg (show ¬ (nI 15 : Int32) = 2 by decide), if_neg (show ¬ (nI 15 : Int32) = 3 by decide), if_neg (show ¬ (nI 15 : Int32) = 4 by decide), if_neg (show ¬ (nI 15 : Int32) = 5 by decide), if_neg (show ¬ (nI 15 : Int32) = 6 by decide), if_neg (show ¬ (nI 15 : Int32) = 7 by decide), if_neg (show ¬ (nI 15 : Int32) = 8 by decide), if_neg (show ¬ (nI 15 : Int32) = 9 by decide), if_neg (show ¬ (nI 15 : Int32) = 10 by decide), if_neg (show ¬ (nI 15 : Int32) = 11 by decide), if_neg (show ¬ (nI 15 : Int32) = 12 by decide), if_neg (show ¬ (nI 15 : Int32) = 13 by decide), if_neg (show ¬ (nI 15 : Int32) = 14 by decide), if_pos (show (nI 15 : Int32) = 15 by decide)]
    exact ⟨rfl, rfl, rfl⟩
set_option maxHeartbeats 800000 in
theorem rs_16 {G H : Nat → Nat → Int32} {V U : Nat → Int32} {nn nf : Nat} {bd rk : Nat → Nat} (h : PLC G V nn nf bd rk) (ag : AGR G H nn nf) (u0 : U 0 = nI nf) (u1 : U 1 = nI nn) (u2 : U 2 = V 9) {x : Nat} (hx : x < nn) (hs : ¬ fX2_suits G (nI x) (nI 16) = 0) (hr : ¬ fX2_hasRoom G V (nI x) (nI 16) = 0) : SIMP (apG G V (nI x) 16) (apV G V (nI x) 16) (fX6_rewrites_G H U (nI x) (nI 16)) (fX6_rewrites_V H U (nI x) (nI 16)) := by
  obtain ⟨hk, hc⟩ := suits_kinds hs
  have hnn := h.1
  obtain ⟨k, c, b, m, v, ⟨q1, q2, q3, q4, q5⟩, sx, bx, ebx, fx, -⟩ := h.node hx
  have ex : ix (nI x) = x := ix_nI (by omega)
  have hkU : k = 7 := (kI sx.1 (by decide : 7 < 2 ^ 31)).mp (by rw [ex, q1] at hk; exact hk.trans (by decide))
  subst hkU
  have hcn : c < nn := (sx.2.2.1 (by decide)).1
  obtain ⟨k2, a2, b2, m2, v2, ⟨p1, p2, p3, p4, p5⟩, sc, bc, ebc, fc, -⟩ := h.node hcn
  have ec : ix (nI c) = c := ix_nI (by omega)
  have hkL : k2 = 5 := (kI sc.1 (by decide : 5 < 2 ^ 31)).mp (by rw [ex, q2, ec, p1] at hc; exact hc.trans (by decide))
  subst hkL
  have hb0 : b = 0 := sx.2.2.2.2.1 (by decide)
  subst hb0
  have hm0 : m = 0 := sx.2.2.2.2.2.2.1 (by decide)
  subst hm0
  have hv0 : v = 0 := sx.2.2.2.2.2.2.2.2.2.2.2 (by decide)
  subst hv0
  have hm20 : m2 = 0 := sc.2.2.2.2.2.2.1 (by decide)
  subst hm20
  have hv20 : v2 = 0 := sc.2.2.2.2.2.2.2.2.2.2.2 (by decide)
  subst hv20
  obtain ⟨a1, a2', a3, a4, a5⟩ := ag.2.2.2.2 x hx
  obtain ⟨d1, d2, d3, d4, d5⟩ := ag.2.2.2.2 c hcn
  have ha2 := sc.2.2.1 (by decide)
  have hb2 : b2 < nn := (sc.2.2.2.1 (by decide)).1
  rw [q1] at a1
  rw [q2] at a2'
  rw [q4] at a4
  rw [q5] at a5
  rw [p1] at d1
  rw [p2] at d2
  rw [p3] at d3
  rw [p4] at d4
  rw [p5] at d5
  have room : nn + 3 ≤ 60 := room_n hnn h.2.2.2.1 (by decide) (by decide) (by decide) (by decide) hr
  have b2l := sc.2.2.2.1 (by decide)
  refine SIMP_of (rw_three h ag u0 u1 u2 (V2 := apV G V (nI x) 16) (U2 := fX6_rewrites_V H U (nI x) (nI 16)) (by omega) hx hcn sx sc (by decide) ?hb ?hf rfl rfl rfl rfl rfl rfl rfl ?e1 rfl ?e2 ?e3 ?e4) ?g ⟨rfl, rfl, rfl⟩ ?hh ⟨rfl, rfl, rfl⟩
  case hb => exact (ebx.trans ebc).symm
  case hf => rw [fx, flP_congr fc Iff.rfl Iff.rfl]; simp only [flP]; generalize FLp G a2 = A9; generalize FLp G b2 = B9; generalize FLp G 0 = Z9; generalize FFp G 0 = F9; generalize FFp G 0 = F8; by_cases hA : A9 <;> by_cases hB : B9 <;> by_cases hF : F9 <;> by_cases hF2 : F8 <;> simp [hA, hB, hF, hF2]
  case e1 => show V 1 + 1 + 1 + 1 = _; rw [h.2.2.2.1, nI_1, nI_1, nI_1]
  case e2 =>
    unfold fX6_rewrites_V
    rw [if_neg (show ¬ (nI 16 : Int32) = 0 by decide), if_neg (show ¬ (nI 16 : Int32) = 1 by decide), if_neg (show ¬ (nI 16 : Int32) = 2 by decide), if_neg (show ¬ (nI 16 : Int32) = 3 by decide), if_neg (show ¬ (nI 16 : Int32) = 4 by decide), if_neg (show ¬ (nI 16 : Int32) = 5 by decide), if_neg (show ¬ (nI 16 : Int32) = 6 by decide), if_neg (show ¬ (nI 16 : Int32) = 7 by decide), if_neg (show ¬ (nI 16 : Int32) = 8 by decide), if_neg (show ¬ (nI 16 : Int32) = 9 by decide), if_neg (show ¬ (nI 16 : Int32) = 10 by decide), if_neg (show ¬ (nI 16 : Int32) = 11 by decide), if_neg (show ¬ (nI 16 : Int32) = 12 by decide), if_neg (show ¬ (nI 16 : Int32) = 13 by decide), if_neg (show ¬ (nI 16 : Int32) = 14 by decide), if_neg (show ¬ (nI 16 : Int32) = 15 by decide), if_pos (show (nI 16 : Int32) = 16 by decide)]
    exact (rfl : U 0 = U 0)
  case e3 =>
    unfold fX6_rewrites_V
    rw [if_neg (show ¬ (nI 16 : Int32) = 0 by decide), if_neg (show ¬ (nI 16 : Int32) = 1 by decide), if_neg (show ¬ (nI 16 : Int32) = 2 by decide), if_neg (show ¬ (nI 16 : Int32) = 3 by decide), if_neg (show ¬ (nI 16 : Int32) = 4 by decide), if_neg (show ¬ (nI 16 : Int32) = 5 by decide), if_neg (show ¬ (nI 16 : Int32) = 6 by decide), if_neg (show ¬ (nI 16 : Int32) = 7 by decide), if_neg (show ¬ (nI 16 : Int32) = 8 by decide), if_neg (show ¬ (nI 16 : Int32) = 9 by decide), if_neg (show ¬ (nI 16 : Int32) = 10 by decide), if_neg (show ¬ (nI 16 : Int32) = 11 by decide), if_neg (show ¬ (nI 16 : Int32) = 12 by decide), if_neg (show ¬ (nI 16 : Int32) = 13 by decide), if_neg (show ¬ (nI 16 : Int32) = 14 by decide), if_neg (show ¬ (nI 16 : Int32) = 15 by decide), if_pos (show (nI 16 : Int32) = 16 by decide)]
    show U 1 + 1 + 1 + 1 = _
    rw [u1, nI_1, nI_1, nI_1]
  case e4 =>
    unfold fX6_rewrites_V
    rw [if_neg (show ¬ (nI 16 : Int32) = 0 by decide), if_neg (show ¬ (nI 16 : Int32) = 1 by decide), if_neg (show ¬ (nI 16 : Int32) = 2 by decide), if_neg (show ¬ (nI 16 : Int32) = 3 by decide), if_neg (show ¬ (nI 16 : Int32) = 4 by decide), if_neg (show ¬ (nI 16 : Int32) = 5 by decide), if_neg (show ¬ (nI 16 : Int32) = 6 by decide), if_neg (show ¬ (nI 16 : Int32) = 7 by decide), if_neg (show ¬ (nI 16 : Int32) = 8 by decide), if_neg (show ¬ (nI 16 : Int32) = 9 by decide), if_neg (show ¬ (nI 16 : Int32) = 10 by decide), if_neg (show ¬ (nI 16 : Int32) = 11 by decide), if_neg (show ¬ (nI 16 : Int32) = 12 by decide), if_neg (show ¬ (nI 16 : Int32) = 13 by decide), if_neg (show ¬ (nI 16 : Int32) = 14 by decide), if_neg (show ¬ (nI 16 : Int32) = 15 by decide), if_pos (show (nI 16 : Int32) = 16 by decide)]
    exact (rfl : U 2 + 1 = U 2 + 1)
  case g =>
    show ap12G G V (nI x) = _
    unfold ap12G
    simp only [fX2_exchange_G, fX2_addLike_G, fX2_addLike, fX2_addLike_V, fX2_skip_G, fX2_workAbove_G, fX2_workAbove_V, fX1_add_G, fX1_add, fX1_add_V, ex, ec, q1, q2, q4, q5, p1, p2, p3, p4, p5, h.2.2.2.1, pk_us, pk_un (show (1 : Nat) ≠ 9 by decide), pk_un (show (0 : Nat) ≠ 9 by decide), nI_1, write_keep (j := c) (show c ≠ ix (nI nn) by rw [ix_nI (by omega)]; omega), write_keep (j := x) (show x ≠ ix (nI nn) by rw [ix_nI (by omega)]; omega), write_keep (j := c) (show c ≠ ix (nI (nn + 1)) by rw [ix_nI (by omega)]; omega), write_keep (j := x) (show x ≠ ix (nI (nn + 1)) by rw [ix_nI (by omega)]; omega), write_keep (j := c) (show c ≠ ix (nI (nn + 2)) by rw [ix_nI (by omega)]; omega), write_keep (j := x) (show x ≠ ix (nI (nn + 2)) by rw [ix_nI (by omega)]; omega)]
    try rfl
  case hh =>
    unfold fX6_rewrites_G
    rw [if_neg (show ¬ (nI 16 : Int32) = 0 by decide), if_neg (show ¬ (nI 16 : Int32) = 1 by decide), if_neg (show ¬ (nI 16 : Int32) = 2 by decide), if_neg (show ¬ (nI 16 : Int32) = 3 by decide), if_neg (show ¬ (nI 16 : Int32) = 4 by decide), if_neg (show ¬ (nI 16 : Int32) = 5 by decide), if_neg (show ¬ (nI 16 : Int32) = 6 by decide), if_neg (show ¬ (nI 16 : Int32) = 7 by decide), if_neg (show ¬ (nI 16 : Int32) = 8 by decide), if_neg (show ¬ (nI 16 : Int32) = 9 by decide), if_neg (show ¬ (nI 16 : Int32) = 10 by decide), if_neg (show ¬ (nI 16 : Int32) = 11 by decide), if_neg (show ¬ (nI 16 : Int32) = 12 by decide), if_neg (show ¬ (nI 16 : Int32) = 13 by decide), if_neg (show ¬ (nI 16 : Int32) = 14 by decide), if_neg (show ¬ (nI 16 : Int32) = 15 by decide), if_pos (show (nI 16 : Int32) = 16 by decide)]
    simp only [fX6_lay_G, fX6_lay, fX6_lay_V, ex, ec, ← a1, ← a2', ← a4, ← a5, ← d1, ← d2, ← d3, ← d4, ← d5, u1, pk_us, pk_un (show (1 : Nat) ≠ 2 by decide), pk_un (show (0 : Nat) ≠ 2 by decide), nI_1, put_keep (j := c) (show c ≠ ix (nI nn) by rw [ix_nI (by omega)]; omega), put_keep (j := x) (show x ≠ ix (nI nn) by rw [ix_nI (by omega)]; omega), put_keep (j := c) (show c ≠ ix (nI (nn + 1)) by rw [ix_nI (by omega)]; omega), put_keep (j := x) (show x ≠ ix (nI (nn + 1)) by rw [ix_nI (by omega)]; omega), put_keep (j := c) (show c ≠ ix (nI (nn + 2)) by rw [ix_nI (by omega)]; omega), put_keep (j := x) (show x ≠ ix (nI (nn + 2)) by rw [ix_nI (by omega)]; omega)]
    try rfl
set_option maxHeartbeats 800000 in
theorem rs_17 {G H : Nat → Nat → Int32} {V U : Nat → Int32} {nn nf : Nat} {bd rk : Nat → Nat} (h : PLC G V nn nf bd rk) (ag : AGR G H nn nf) (u0 : U 0 = nI nf) (u1 : U 1 = nI nn) (u2 : U 2 = V 9) {x : Nat} (hx : x < nn) (hs : ¬ fX2_suits G (nI x) (nI 17) = 0) (hr : ¬ fX2_hasRoom G V (nI x) (nI 17) = 0) : SIMP (apG G V (nI x) 17) (apV G V (nI x) 17) (fX6_rewrites_G H U (nI x) (nI 17)) (fX6_rewrites_V H U (nI x) (nI 17)) := by
  obtain ⟨hk, hc⟩ := suits_kinds hs
  have hnn := h.1
  obtain ⟨k, c, b, m, v, ⟨q1, q2, q3, q4, q5⟩, sx, bx, ebx, fx, -⟩ := h.node hx
  have ex : ix (nI x) = x := ix_nI (by omega)
  have hkU : k = 8 := (kI sx.1 (by decide : 8 < 2 ^ 31)).mp (by rw [ex, q1] at hk; exact hk.trans (by decide))
  subst hkU
  have hcn : c < nn := (sx.2.2.1 (by decide)).1
  obtain ⟨k2, a2, b2, m2, v2, ⟨p1, p2, p3, p4, p5⟩, sc, bc, ebc, fc, -⟩ := h.node hcn
  have ec : ix (nI c) = c := ix_nI (by omega)
  have hkL : k2 = 2 := (kI sc.1 (by decide : 2 < 2 ^ 31)).mp (by rw [ex, q2, ec, p1] at hc; exact hc.trans (by decide))
  subst hkL
  have hb0 : b = 0 := sx.2.2.2.2.1 (by decide)
  subst hb0
  have hm0 : m = 0 := sx.2.2.2.2.2.2.1 (by decide)
  subst hm0
  have hb20 : b2 = 0 := sc.2.2.2.2.1 (by decide)
  subst hb20
  obtain ⟨a1, a2', a3, a4, a5⟩ := ag.2.2.2.2 x hx
  obtain ⟨d1, d2, d3, d4, d5⟩ := ag.2.2.2.2 c hcn
  have ha2 := sc.2.2.1 (by decide)
  have hb2 : True := trivial
  rw [q1] at a1
  rw [q2] at a2'
  rw [q4] at a4
  rw [q5] at a5
  rw [p1] at d1
  rw [p2] at d2
  rw [p3] at d3
  rw [p4] at d4
  rw [p5] at d5
  have room : nn + 1 ≤ 60 := room_n hnn h.2.2.2.1 (by decide) (by decide) (by decide) (by decide) hr
  refine SIMP_of (rw_one h ag u0 u1 u2 (y := a2) (a3 := nn) (b3 := 0) (by omega) hx hcn sx sc (by decide) (by decide) (by decide) (ha2) (by show (if bd a2 < v then bd a2 else v) ≤ 100; obtain ⟨_, _, _, _, _, _, _, q, _⟩ := h.node (ha2).1; split <;> omega) (Or.inl ⟨rfl, rfl⟩) ?hb ?hf rfl rfl) ?g ⟨rfl, rfl, rfl⟩ ?hh ?uu
  case hb => rw [show bdN (va_up bd nn (bdN bd 8 a2 0 v)) 2 nn 0 v2 = va_up bd nn (if bd a2 < v then bd a2 else v) nn from rfl, va_up_self]; have e2 : bd c = bd a2 := ebc; rw [← e2]; exact ebx.symm
  case hf => rw [fx, flP_congr fc Iff.rfl Iff.rfl]; simp only [flP, show ¬ 0 = nn by omega, if_true, if_false]; generalize FLp G a2 = A9; generalize FFp G v = F9; generalize FFp G v2 = F8; by_cases hA : A9 <;> by_cases hF : F9 <;> by_cases hF2 : F8 <;> simp [hA, hF, hF2]
  case g =>
    show ap1G G V (nI x) = _
    unfold ap1G
    simp only [fX2_exchange_G, fX2_addLike_G, fX2_addLike, fX2_addLike_V, fX2_skip_G, fX2_workAbove_G, fX2_workAbove_V, fX1_add_G, fX1_add, fX1_add_V, ex, ec, q1, q2, q4, q5, p1, p2, p3, p4, p5, h.2.2.2.1, pk_us, pk_un (show (1 : Nat) ≠ 9 by decide), pk_un (show (0 : Nat) ≠ 9 by decide), nI_1, write_keep (j := c) (show c ≠ ix (nI nn) by rw [ix_nI (by omega)]; omega), write_keep (j := x) (show x ≠ ix (nI nn) by rw [ix_nI (by omega)]; omega)]
    try rfl
  case hh =>
    unfold fX6_rewrites_G
    rw [if_neg (show ¬ (nI 17 : Int32) = 0 by decide), if_neg (show ¬ (nI 17 : Int32) = 1 by decide), if_neg (show ¬ (nI 17 : Int32) = 2 by decide), if_neg (show ¬ (nI 17 : Int32) = 3 by decide), if_neg (show ¬ (nI 17 : Int32) = 4 by decide), if_neg (show ¬ (nI 17 : Int32) = 5 by decide), if_neg (show ¬ (nI 17 : Int32) = 6 by decide), if_neg (show ¬ (nI 17 : Int32) = 7 by decide), if_neg (show ¬ (nI 17 : Int32) = 8 by decide), if_neg (show ¬ (nI 17 : Int32) = 9 by decide), if_neg (show ¬ (nI 17 : Int32) = 10 by decide), if_neg (show ¬ (nI 17 : Int32) = 11 by decide), if_neg (show ¬ (nI 17 : Int32) = 12 by decide), if_neg (show ¬ (nI 17 : Int32) = 13 by decide), if_neg (show ¬ (nI 17 : Int32) = 14 by decide), if_neg (show ¬ (nI 17 : Int32) = 15 by decide), if_neg (show ¬ (nI 17 : Int32) = 16 by decide)]
    simp only [fX6_lay_G, fX6_lay, ex, ec, ← a1, ← a2', ← a4, ← a5, ← d1, ← d2, ← d3, ← d4, ← d5, u1, pk_us, pk_un (show (1 : Nat) ≠ 2 by decide), pk_un (show (0 : Nat) ≠ 2 by decide), nI_1, put_keep (j := c) (show c ≠ ix (nI nn) by rw [ix_nI (by omega)]; omega), put_keep (j := x) (show x ≠ ix (nI nn) by rw [ix_nI (by omega)]; omega)]
    try rfl
  case uu =>
    unfold fX6_rewrites_V
    rw [if_neg (show ¬ (nI 17 : Int32) = 0 by decide), if_neg (show ¬ (nI 17 : Int32) = 1 by decide), if_neg (show ¬ (nI 17 : Int32) = 2 by decide), if_neg (show ¬ (nI 17 : Int32) = 3 by decide), if_neg (show ¬ (nI 17 : Int32) = 4 by decide), if_neg (show ¬ (nI 17 : Int32) = 5 by decide), if_neg (show ¬ (nI 17 : Int32) = 6 by decide), if_neg (show ¬ (nI 17 : Int32) = 7 by decide), if_neg (show ¬ (nI 17 : Int32) = 8 by decide), if_neg (show ¬ (nI 17 : Int32) = 9 by decide), if_neg (show ¬ (nI 17 : Int32) = 10 by decide), if_neg (show ¬ (nI 17 : Int32) = 11 by decide), if_neg (show ¬ (nI 17 : Int32) = 12 by decide), if_neg (show ¬ (nI 17 : Int32) = 13 by decide), if_neg (show ¬ (nI 17 : Int32) = 14 by decide), if_neg (show ¬ (nI 17 : Int32) = 15 by decide), if_neg (show ¬ (nI 17 : Int32) = 16 by decide)]
    exact ⟨rfl, rfl, rfl⟩
