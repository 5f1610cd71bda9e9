/-! rewriting: the shapes of a rewrite keep the plan -/
def FLp (G : Nat → Nat → Int32) (i : Nat) : Prop := ¬ G 19 i = 0
def FFp (G : Nat → Nat → Int32) (v : Nat) : Prop := ¬ G 11 v = 0
def flP (k : Nat) (A B F : Prop) : Prop := k ≠ 0 ∧ (A ∨ ((k = 4 ∨ k = 5) ∧ B) ∨ ((k = 1 ∨ k = 2) ∧ F))
theorem flP_congr {k : Nat} {A B F A' B' F' : Prop} (a : A ↔ A') (b : B ↔ B') (f : F ↔ F') : flP k A B F ↔ flP k A' B' F' := by
  unfold flP; rw [a, b, f]
theorem eq01 {p q : Int32} (hp : p = 0 ∨ p = 1) (hq : q = 0 ∨ q = 1) (h : ¬ p = 0 ↔ ¬ q = 0) : p = q := by
  rcases hp with rfl | rfl <;> rcases hq with rfl | rfl
  · rfl
  · exact absurd rfl (h.mpr (by decide))
  · exact absurd rfl (h.mp (by decide))
  · rfl
theorem failsOf_iff {G : Nat → Nat → Int32} {k a b v : Nat} (s1 : k ≤ 8) (ha : a < 2 ^ 31) (hb : b < 2 ^ 31) (hv : v < 2 ^ 31) : (¬ fX1_failsOf G (nI k) (nI a) (nI b) (nI v) = 0) ↔ flP k (FLp G a) (FLp G b) (FFp G v) := by
  have kz : ∀ j : Nat, j < 2 ^ 31 → (nI k = nI j ↔ k = j) := fun j hj => kI s1 hj
  unfold fX1_failsOf flP FLp FFp
  rw [tR_n s1, tF_n s1, ix_nI ha, ix_nI hb, ix_nI hv]
  by_cases k0 : k = 0
  · rw [if_pos (show nI k = 0 from (kz 0 (by decide)).mpr k0)]
    exact ⟨fun w => absurd rfl w, fun w => absurd k0 w.1⟩
  · have n0 : ¬ nI k = 0 := fun w => k0 ((kz 0 (by decide)).mp w)
    rw [if_neg n0]
    by_cases ca : G 19 a = 0
    · rw [if_pos ca]
      by_cases c4 : k = 4 ∨ k = 5
      · have c1 : ¬ (k = 1 ∨ k = 2) := by omega
        rw [if_pos c4, if_neg (by decide), if_neg c1, if_pos rfl]
        by_cases cb : G 19 b = 0
        · simp [k0, ca, cb, c1]
        · simp [k0, ca, cb, c4]
      · rw [if_neg c4, if_pos rfl]
        by_cases c1 : k = 1 ∨ k = 2
        · rw [if_pos c1, if_neg (by decide)]
          by_cases cv : G 11 v = 0
          · simp [k0, ca, cv, c4]
          · simp [k0, ca, cv, c1]
        · rw [if_neg c1, if_pos rfl]
          simp [k0, ca, c1, c4]
    · simp [k0, ca]
theorem shN.lt {nn nf : Nat} {rk : Nat → Nat} {r k a b m v : Nat} (sh : shN nn nf rk r k a b m v) (hnn : nn ≤ 60) (hnf : nf ≤ 40) (hb : b < 2 ^ 31) : a < 2 ^ 31 ∧ b < 2 ^ 31 ∧ v < 2 ^ 31 := by
  obtain ⟨s1, s2, s3, s4, s5, s6, s7, s8, s9, s10, s11, s12⟩ := sh
  refine ⟨?_, hb, ?_⟩
  · by_cases k0 : k = 0
    · have := s2 k0; omega
    · have := (s3 k0).1; omega
  · rcases (show k = 0 ∨ k = 1 ∨ k = 2 ∨ k = 3 ∨ k = 4 ∨ k = 5 ∨ k = 6 ∨ k = 7 ∨ k = 8 by omega) with rfl | rfl | rfl | rfl | rfl | rfl | rfl | rfl | rfl
    · rw [s12 (by decide)]; decide
    · have := s8 (by decide); omega
    · have := s8 (by decide); omega
    · have := s9 (by decide); omega
    · have := s9 (by decide); omega
    · rw [s12 (by decide)]; decide
    · have := (s10 (by decide)).1; omega
    · rw [s12 (by decide)]; decide
    · have := s11 (by decide); omega
theorem shN.bl {nn nf : Nat} {rk : Nat → Nat} {r k a b m v : Nat} (sh : shN nn nf rk r k a b m v) (hnn : nn ≤ 60) : b < 2 ^ 31 := by
  by_cases c : k = 4 ∨ k = 5
  · have := (sh.2.2.2.1 c).1; omega
  · rw [sh.2.2.2.2.1 c]; decide
/-- a node of the plan, once more -/
theorem PLC.node {G : Nat → Nat → Int32} {V : Nat → Int32} {nn nf : Nat} {bd rk : Nat → Nat} (h : PLC G V nn nf bd rk) {i : Nat} (hi : i < nn) : ∃ k a b m v, ndE G i k a b m v ∧ shN nn nf rk (rk i) k a b m v ∧ bd i ≤ 100 ∧ bd i = bdN bd k a b v ∧ (FLp G i ↔ flP k (FLp G a) (FLp G b) (FFp G v)) ∧ (G 19 i = 0 ∨ G 19 i = 1) := by
  obtain ⟨h1, h2, h3, h4, h5, h6, h7⟩ := h
  obtain ⟨k, a, b, m, v, q1, q2, q3, q4, q5, q6⟩ := h7 i hi
  have l := q2.lt h1 h2 (q2.bl h1)
  refine ⟨k, a, b, m, v, q1, q2, q3, q5, ?_, by rw [q6]; exact fails01⟩
  unfold FLp
  rw [q6]
  exact failsOf_iff q2.1 l.1 l.2.1 l.2.2
theorem PLC.wr {G : Nat → Nat → Int32} {V : Nat → Int32} {nn nf : Nat} {bd rk : Nat → Nat} (h : PLC G V nn nf bd rk) {x k a b m v : Nat} (hx : x < nn) (sh : shN nn nf rk (rk x) k a b m v) (hb : bdN bd k a b v = bd x) (hf : flP k (FLp G a) (FLp G b) (FFp G v) ↔ FLp G x) : PLC (fX1_write_G G (nI x) (nI k) (nI a) (nI b) (nI m) (nI v)) V nn nf bd rk := by
  have l := sh.lt h.1 h.2.1 (sh.bl h.1)
  obtain ⟨_, _, _, _, _, -, -, -, -, -, q⟩ := h.node hx
  exact h.write hx sh hb (eq01 fails01 q ((failsOf_iff sh.1 l.1 l.2.1 l.2.2).trans hf))
/-- a push, with what it leaves -/
theorem PLC.ps {G : Nat → Nat → Int32} {V : Nat → Int32} {nn nf : Nat} {bd rk : Nat → Nat} (h : PLC G V nn nf bd rk) {r k a b m v : Nat} (hn : nn < 60) (sh : shN nn nf rk r k a b m v) (hb : bdN bd k a b v ≤ 100) {G' : Nat → Nat → Int32} (e : G' = fX1_write_G G (nI nn) (nI k) (nI a) (nI b) (nI m) (nI v)) : PLC G' (upd V 1 (V 1 + 1)) (nn + 1) nf (va_up bd nn (bdN bd k a b v)) (va_up rk nn r) ∧ (∀ j, j ≠ nn → ∀ p, G' p j = G p j) ∧ (FLp G' nn ↔ flP k (FLp G a) (FLp G b) (FFp G v)) ∧ (∀ j, j ≠ nn → (FLp G' j ↔ FLp G j)) ∧ (∀ v, FFp G' v ↔ FFp G v) := by
  subst e
  have l := sh.lt h.1 h.2.1 (sh.bl h.1)
  obtain ⟨w1, w2, w3, w4, w5⟩ := write_at (G := G) hn sh
  refine ⟨h.push hn sh hb, w2, ?_, fun j hj => by unfold FLp; rw [w2 j hj 19], fun v => by unfold FFp; rw [w1 11 (by decide) (by decide) (by decide) (by decide) (by decide) (by decide) (by decide)]⟩
  unfold FLp
  rw [w5]
  exact failsOf_iff sh.1 l.1 l.2.1 l.2.2
theorem PLC.v {G : Nat → Nat → Int32} {V V' : Nat → Int32} {nn nf : Nat} {bd rk : Nat → Nat} (h : PLC G V nn nf bd rk) (h0 : V' 0 = V 0) (h1 : V' 1 = V 1) : PLC G V' nn nf bd rk := by
  obtain ⟨p1, p2, p3, p4, p5⟩ := h
  exact ⟨p1, p2, h0.trans p3, h1.trans p4, p5⟩
/-- what both sides hold -/
def SIMP (G : Nat → Nat → Int32) (V : Nat → Int32) (H : Nat → Nat → Int32) (U : Nat → Int32) : Prop :=
  ∃ nn nf bd rk, PLC G V nn nf bd rk ∧ AGR G H nn nf ∧ U 0 = nI nf ∧ U 1 = nI nn ∧ U 2 = V 9
/-- skip: x keeps its job on what stands below c -/
theorem rw_skip {G H : Nat → Nat → Int32} {V U : Nat → Int32} {nn nf : Nat} {bd rk : Nat → Nat} (h : PLC G V nn nf bd rk) (ag : AGR G H nn nf) (u0 : U 0 = nI nf) (u1 : U 1 = nI nn) (u2 : U 2 = V 9) {x k c b m v k2 a2 b2 m2 v2 w : Nat} (hx : x < nn) (sx : shN nn nf rk (rk x) k c b m v) (sc : shN nn nf rk (rk c) k2 a2 b2 m2 v2) (k0 : k ≠ 0) (n45 : ¬ (k = 4 ∨ k = 5)) (k20 : k2 ≠ 0) (sw : (k = 1 ∨ k = 2 → w < nf) ∧ (k = 3 → w < 64) ∧ (k = 6 → w < 6 ∧ w ≠ m) ∧ (k = 8 → w ≤ 100) ∧ (k = 7 → w = 0)) (hb : bdN bd k a2 0 w = bd x) (hf : flP k (FLp G a2) (FLp G 0) (FFp G w) ↔ FLp G x) :
    SIMP (fX1_write_G G (nI x) (nI k) (nI a2) (nI 0) (nI m) (nI w)) (upd V 9 (V 9 + 1)) (fX6_put_G H (nI x) (nI k) (nI a2) (nI 0) (nI m) (nI w)) (upd U 2 (U 2 + 1)) := by
  obtain ⟨s1, s2, s3, s4, s5, s6, s7, s8, s9, s10, s11, s12⟩ := sx
  have rc := (s3 k0).2
  have ra := sc.2.2.1 k20
  have sh : shN nn nf rk (rk x) k a2 0 m w := ⟨s1, fun e => absurd e k0, fun _ => ⟨ra.1, by omega⟩, fun e => absurd e n45, fun _ => rfl, s6, s7, sw.1, fun e => e.elim sw.2.1 (fun q => absurd (Or.inl q) n45), sw.2.2.1, sw.2.2.2.1, fun e => e.elim (fun q => absurd q k0) (fun e => e.elim (fun q => absurd (Or.inr q) n45) sw.2.2.2.2)⟩
  have P := h.wr hx sh hb hf
  refine ⟨nn, nf, bd, rk, ?_, ag.write (by have := h.1; omega) (Or.inl (Nat.le_refl _)) sh, u0, u1, ?_⟩
  · obtain ⟨p1, p2, p3, p4, p5⟩ := P
    exact ⟨p1, p2, p3, p4, p5⟩
  · show U 2 + 1 = V 9 + 1
    rw [u2]
/-- one new node below x -/
theorem rw_one {G H : Nat → Nat → Int32} {V U : Nat → Int32} {nn nf : Nat} {bd rk : Nat → Nat} (h : PLC G V nn nf bd rk) (ag : AGR G H nn nf) (u0 : U 0 = nI nf) (u1 : U 1 = nI nn) (u2 : U 2 = V 9) {x k c b m v k2 a2 b2 m2 v2 y a3 b3 : Nat} (hn : nn < 60) (hx : x < nn) (hcn : c < nn) (sx : shN nn nf rk (rk x) k c b m v) (sc : shN nn nf rk (rk c) k2 a2 b2 m2 v2) (k0 : k ≠ 0) (n45 : ¬ (k = 4 ∨ k = 5)) (k20 : k2 ≠ 0) (hy : y < nn ∧ rk y < rk c) (hby : bdN bd k y 0 v ≤ 100) (h3 : (a3 = nn ∧ b3 = b2) ∨ (a3 = a2 ∧ b3 = nn ∧ k2 = 4))
    (hb : bdN (va_up bd nn (bdN bd k y 0 v)) k2 a3 b3 v2 = bd x) (hf : flP k2 (if a3 = nn then flP k (FLp G y) (FLp G 0) (FFp G v) else FLp G a3) (if b3 = nn then flP k (FLp G y) (FLp G 0) (FFp G v) else FLp G b3) (FFp G v2) ↔ FLp G x) {G1 H1 : Nat → Nat → Int32} (e1 : G1 = fX1_write_G G (nI nn) (nI k) (nI y) (nI 0) (nI m) (nI v)) (f1 : H1 = fX6_put_G H (nI nn) (nI k) (nI y) (nI 0) (nI m) (nI v)) :
    SIMP (fX1_write_G G1 (nI x) (nI k2) (nI a3) (nI b3) (nI m2) (nI v2)) (upd (upd V 9 (V 9 + 1)) 1 ((upd V 9 (V 9 + 1)) 1 + 1)) (fX6_put_G H1 (nI x) (nI k2) (nI a3) (nI b3) (nI m2) (nI v2)) (upd (upd U 2 (U 2 + 1)) 1 ((upd U 2 (U 2 + 1)) 1 + 1)) := by
  have h4 := h.rk4
  obtain ⟨s1, s2, s3, s4, s5, s6, s7, s8, s9, s10, s11, s12⟩ := sx
  have rc := (s3 k0).2
  have shy : shN nn nf (fun i => 4 * rk i) (4 * rk c + 1) k y 0 m v := ⟨s1, fun e => absurd e k0, fun _ => ⟨hy.1, by have := hy.2; dsimp only; omega⟩, fun e => absurd e n45, fun _ => rfl, s6, s7, s8, s9, s10, s11, s12⟩
  obtain ⟨P1, w2, w3, w4, w5⟩ := h4.ps hn shy hby e1
  obtain ⟨t1, t2, t3, t4, t5, t6, t7, t8, t9, t10, t11, t12⟩ := sc
  have rkx : va_up (fun i => 4 * rk i) nn (4 * rk c + 1) x = 4 * rk x := va_up_ne _ _ (by omega)
  have rkn : va_up (fun i => 4 * rk i) nn (4 * rk c + 1) nn = 4 * rk c + 1 := va_up_self _ _ _
  have rko : ∀ j, j < nn → va_up (fun i => 4 * rk i) nn (4 * rk c + 1) j = 4 * rk j := fun j hj => va_up_ne _ _ (by omega)
  have ta := t3 k20
  have shx : shN (nn + 1) nf (va_up (fun i => 4 * rk i) nn (4 * rk c + 1)) (va_up (fun i => 4 * rk i) nn (4 * rk c + 1) x) k2 a3 b3 m2 v2 := by
    rw [rkx]
    refine ⟨t1, fun e => absurd e k20, fun _ => ?_, fun e => ?_, fun e => ?_, t6, t7, t8, t9, t10, t11, t12⟩
    · rcases h3 with ⟨rfl, -⟩ | ⟨rfl, -, -⟩
      · exact ⟨by omega, by rw [rkn]; omega⟩
      · exact ⟨by omega, by rw [rko _ ta.1]; omega⟩
    · rcases h3 with ⟨-, rfl⟩ | ⟨-, rfl, -⟩
      · have := t4 e
        exact ⟨by omega, by rw [rko _ this.1]; omega⟩
      · exact ⟨by omega, by rw [rkn]; omega⟩
    · rcases h3 with ⟨-, rfl⟩ | ⟨-, -, q⟩
      · exact t5 e
      · exact absurd (Or.inl q) e
  have bx : va_up bd nn (bdN bd k y 0 v) x = bd x := va_up_ne _ _ (by omega)
  have fl : ∀ j, (FLp G1 j ↔ if j = nn then flP k (FLp G y) (FLp G 0) (FFp G v) else FLp G j) := fun j => by
    by_cases e : j = nn
    · rw [if_pos e, e]; exact w3
    · rw [if_neg e]; exact w4 j e
  have P := P1.wr (x := x) (by omega) shx (by rw [bx]; exact hb) (by
    rw [w4 x (by omega)]
    exact (flP_congr (fl a3) (fl b3) (w5 v2)).trans hf)
  refine ⟨nn + 1, nf, _, _, P.v rfl rfl, ?_, u0, ?_, ?_⟩
  · rw [f1, e1]
    have A1 := ag.write (nn' := nn + 1) hn (Or.inr ⟨rfl, rfl⟩) shy
    exact A1.write (by omega) (Or.inl (Nat.le_refl _)) shx
  · show U 1 + 1 = _
    rw [u1, nI_1]
  · show U 2 + 1 = V 9 + 1
    rw [u2]
/-- two new nodes below x -/
theorem rw_two {G H : Nat → Nat → Int32} {V U : Nat → Int32} {nn nf : Nat} {bd rk : Nat → Nat} (h : PLC G V nn nf bd rk) (ag : AGR G H nn nf) (u0 : U 0 = nI nf) (u1 : U 1 = nI nn) (u2 : U 2 = V 9) {x k c b m v a2 b2 m2 v2 : Nat} (hn : nn + 1 < 60) (hx : x < nn) (hcn : c < nn) (sx : shN nn nf rk (rk x) k c b m v) (sc : shN nn nf rk (rk c) 5 a2 b2 m2 v2) (k0 : k ≠ 0) (n45 : ¬ (k = 4 ∨ k = 5)) (hba : bdN bd k a2 0 v ≤ 100) (hbb : bdN bd k b2 0 v ≤ 100)
    (hb : bdN bd k a2 0 v + bdN bd k b2 0 v = bd x) (hf : (flP k (FLp G a2) (FLp G 0) (FFp G v) ∨ flP k (FLp G b2) (FLp G 0) (FFp G v)) ↔ FLp G x) {G1 G2 H1 H2 : Nat → Nat → Int32} (e1 : G1 = fX1_write_G G (nI nn) (nI k) (nI a2) (nI 0) (nI m) (nI v)) (f1 : H1 = fX6_put_G H (nI nn) (nI k) (nI a2) (nI 0) (nI m) (nI v)) (e2 : G2 = fX1_write_G G1 (nI (nn + 1)) (nI k) (nI b2) (nI 0) (nI m) (nI v)) (f2 : H2 = fX6_put_G H1 (nI (nn + 1)) (nI k) (nI b2) (nI 0) (nI m) (nI v)) {V2 U2 : Nat → Int32} (v2a : V2 0 = V 0) (v2b : V2 1 = nI (nn + 2)) (v29 : V2 9 = V 9 + 1) (w2a : U2 0 = U 0) (w2b : U2 1 = nI (nn + 2)) (w29 : U2 2 = U 2 + 1) :
    SIMP (fX1_write_G G2 (nI x) (nI 5) (nI nn) (nI (nn + 1)) (nI 0) (nI 0)) V2 (fX6_put_G H2 (nI x) (nI 5) (nI nn) (nI (nn + 1)) (nI 0) (nI 0)) U2 := by
  have h4 := h.rk4
  obtain ⟨s1, s2, s3, s4, s5, s6, s7, s8, s9, s10, s11, s12⟩ := sx
  have rc := (s3 k0).2
  obtain ⟨t1, t2, t3, t4, t5, t6, t7, t8, t9, t10, t11, t12⟩ := sc
  have ta := t3 (by decide)
  have tb' := t4 (Or.inr rfl)
  have sha : shN nn nf (fun i => 4 * rk i) (4 * rk c + 1) k a2 0 m v := ⟨s1, fun e => absurd e k0, fun _ => ⟨ta.1, by dsimp only; omega⟩, fun e => absurd e n45, fun _ => rfl, s6, s7, s8, s9, s10, s11, s12⟩
  obtain ⟨P1, w2, w3, w4, w5⟩ := h4.ps (by omega) sha hba e1
  have rko : ∀ j, j < nn → va_up (fun i => 4 * rk i) nn (4 * rk c + 1) j = 4 * rk j := fun j hj => va_up_ne _ _ (by omega)
  have shb : shN (nn + 1) nf (va_up (fun i => 4 * rk i) nn (4 * rk c + 1)) (4 * rk c + 1) k b2 0 m v := ⟨s1, fun e => absurd e k0, fun _ => ⟨by omega, by rw [rko _ tb'.1]; omega⟩, fun e => absurd e n45, fun _ => rfl, s6, s7, s8, s9, s10, s11, s12⟩
  have bb : bdN (va_up bd nn (bdN bd k a2 0 v)) k b2 0 v = bdN bd k b2 0 v := bdN_congr (fun _ => va_up_ne _ _ (by omega)) (fun e => absurd e n45)
  obtain ⟨P2, y2, y3, y4, y5⟩ := P1.ps hn shb (by rw [bb]; exact hbb) e2
  have shx : shN (nn + 2) nf (va_up (va_up (fun i => 4 * rk i) nn (4 * rk c + 1)) (nn + 1) (4 * rk c + 1)) (va_up (va_up (fun i => 4 * rk i) nn (4 * rk c + 1)) (nn + 1) (4 * rk c + 1) x) 5 nn (nn + 1) 0 0 := by
    have r1 : va_up (va_up (fun i => 4 * rk i) nn (4 * rk c + 1)) (nn + 1) (4 * rk c + 1) x = 4 * rk x := by rw [va_up_ne _ _ (by omega), va_up_ne _ _ (by omega)]
    have r2 : va_up (va_up (fun i => 4 * rk i) nn (4 * rk c + 1)) (nn + 1) (4 * rk c + 1) nn = 4 * rk c + 1 := by rw [va_up_ne _ _ (by omega), va_up_self]
    have r3 : va_up (va_up (fun i => 4 * rk i) nn (4 * rk c + 1)) (nn + 1) (4 * rk c + 1) (nn + 1) = 4 * rk c + 1 := va_up_self _ _ _
    exact ⟨by decide, fun e => absurd e (by decide), fun _ => ⟨by omega, by rw [r1, r2]; omega⟩, fun _ => ⟨by omega, by rw [r1, r3]; omega⟩, fun e => absurd (Or.inr rfl) e, by decide, fun _ => rfl, fun e => absurd e (by decide), fun e => absurd e (by decide), fun e => absurd e (by decide), fun e => absurd e (by decide), fun _ => rfl⟩
  have fla : FLp G2 nn ↔ flP k (FLp G a2) (FLp G 0) (FFp G v) := (y4 nn (by omega)).trans w3
  have flb : FLp G2 (nn + 1) ↔ flP k (FLp G b2) (FLp G 0) (FFp G v) := y3.trans (flP_congr (w4 b2 (by omega)) (w4 0 (by omega)) (w5 v))
  have P := P2.wr (x := x) (by omega) shx (by
    show va_up (va_up bd nn _) (nn + 1) _ nn + va_up (va_up bd nn _) (nn + 1) _ (nn + 1) = _
    rw [va_up_self, va_up_ne _ _ (show nn ≠ nn + 1 by omega), va_up_self, va_up_ne _ _ (show x ≠ nn + 1 by omega), va_up_ne _ _ (show x ≠ nn by omega), bb]; exact hb) (by
    rw [y4 x (by omega), w4 x (by omega), ← hf]
    unfold flP
    constructor
    · rintro ⟨-, q | q | q⟩
      · exact Or.inl (fla.mp q)
      · exact Or.inr (flb.mp q.2)
      · exact absurd q.1 (by decide)
    · rintro (q | q)
      · exact ⟨by decide, Or.inl (fla.mpr q)⟩
      · exact ⟨by decide, Or.inr (Or.inl ⟨by decide, flb.mpr q⟩)⟩)
  refine ⟨nn + 2, nf, _, _, P.v v2a (v2b.trans P.2.2.2.1.symm), ?_, w2a.trans u0, w2b, ?_⟩
  · rw [f2, e2, f1, e1]
    have A1 := ag.write (nn' := nn + 1) (by omega) (Or.inr ⟨rfl, rfl⟩) sha
    have A2 := A1.write (nn' := nn + 2) hn (Or.inr ⟨rfl, rfl⟩) shb
    exact A2.write (by omega) (Or.inl (Nat.le_refl _)) shx
  · rw [w29, v29, u2]
/-- two new nodes below a new union below x -/
theorem rw_three {G H : Nat → Nat → Int32} {V U : Nat → Int32} {nn nf : Nat} {bd rk : Nat → Nat} (h : PLC G V nn nf bd rk) (ag : AGR G H nn nf) (u0 : U 0 = nI nf) (u1 : U 1 = nI nn) (u2 : U 2 = V 9) {x k c b m v a2 b2 m2 v2 : Nat} (hn : nn + 2 < 60) (hx : x < nn) (hcn : c < nn) (sx : shN nn nf rk (rk x) k c b m v) (sc : shN nn nf rk (rk c) 5 a2 b2 m2 v2) (k67 : k = 6 ∨ k = 7)
    (hb : bd a2 + bd b2 = bd x) (hf : (FLp G a2 ∨ FLp G b2) ↔ FLp G x) {G1 G2 G3 H1 H2 H3 : Nat → Nat → Int32} (e1 : G1 = fX1_write_G G (nI nn) (nI k) (nI a2) (nI 0) (nI m) (nI v)) (f1 : H1 = fX6_put_G H (nI nn) (nI k) (nI a2) (nI 0) (nI m) (nI v)) (e2 : G2 = fX1_write_G G1 (nI (nn + 1)) (nI k) (nI b2) (nI 0) (nI m) (nI v)) (f2 : H2 = fX6_put_G H1 (nI (nn + 1)) (nI k) (nI b2) (nI 0) (nI m) (nI v)) (e3 : G3 = fX1_write_G G2 (nI (nn + 2)) (nI 5) (nI nn) (nI (nn + 1)) (nI 0) (nI 0)) (f3 : H3 = fX6_put_G H2 (nI (nn + 2)) (nI 5) (nI nn) (nI (nn + 1)) (nI 0) (nI 0)) {V2 U2 : Nat → Int32} (v2a : V2 0 = V 0) (v2b : V2 1 = nI (nn + 3)) (v29 : V2 9 = V 9 + 1) (w2a : U2 0 = U 0) (w2b : U2 1 = nI (nn + 3)) (w29 : U2 2 = U 2 + 1) :
    SIMP (fX1_write_G G3 (nI x) (nI k) (nI (nn + 2)) (nI 0) (nI m) (nI v)) V2 (fX6_put_G H3 (nI x) (nI k) (nI (nn + 2)) (nI 0) (nI m) (nI v)) U2 := by
  have h4 := h.rk4
  have hn1 := h.1
  have hbx : bd x ≤ 100 := by obtain ⟨_, _, _, _, _, _, _, q, _⟩ := h.node hx; exact q
  have k0 : k ≠ 0 := by omega
  have n45 : ¬ (k = 4 ∨ k = 5) := by omega
  have n12 : ¬ (k = 1 ∨ k = 2) := by omega
  have bdk : ∀ (bd : Nat → Nat) (y w : Nat), bdN bd k y w v = bd y := fun bd y w => by
    unfold bdN; rw [if_neg k0, if_neg (by omega), if_neg (by omega), if_neg (by omega)]
  have fk : ∀ A B F : Prop, flP k A B F ↔ A := fun A B F => by
    unfold flP
    constructor
    · rintro ⟨-, q | q | q⟩
      · exact q
      · exact absurd q.1 n45
      · exact absurd q.1 n12
    · exact fun q => ⟨k0, Or.inl q⟩
  obtain ⟨s1, s2, s3, s4, s5, s6, s7, s8, s9, s10, s11, s12⟩ := sx
  have rc := (s3 k0).2
  obtain ⟨t1, t2, t3, t4, t5, t6, t7, t8, t9, t10, t11, t12⟩ := sc
  have ta := t3 (by decide)
  have tb' := t4 (Or.inr rfl)
  have sha : shN nn nf (fun i => 4 * rk i) (4 * rk c + 1) k a2 0 m v := ⟨s1, fun e => absurd e k0, fun _ => ⟨ta.1, by dsimp only; omega⟩, fun e => absurd e n45, fun _ => rfl, s6, s7, s8, s9, s10, s11, s12⟩
  obtain ⟨P1, w2, w3, w4, w5⟩ := h4.ps (by omega) sha (by rw [bdk]; omega) e1
  have rko : ∀ j, j < nn → va_up (fun i => 4 * rk i) nn (4 * rk c + 1) j = 4 * rk j := fun j hj => va_up_ne _ _ (by omega)
  have shb : shN (nn + 1) nf (va_up (fun i => 4 * rk i) nn (4 * rk c + 1)) (4 * rk c + 1) k b2 0 m v := ⟨s1, fun e => absurd e k0, fun _ => ⟨by omega, by rw [rko _ tb'.1]; omega⟩, fun e => absurd e n45, fun _ => rfl, s6, s7, s8, s9, s10, s11, s12⟩
  obtain ⟨P2, y2, y3, y4, y5⟩ := P1.ps (by omega) shb (by rw [bdk, va_up_ne _ _ (by omega)]; omega) e2
  rw [bdk] at P1 P2
  rw [bdk, va_up_ne _ _ (show b2 ≠ nn by omega)] at P2
  have q1 : va_up (va_up (fun i => 4 * rk i) nn (4 * rk c + 1)) (nn + 1) (4 * rk c + 1) nn = 4 * rk c + 1 := by rw [va_up_ne _ _ (by omega), va_up_self]
  have q2 : va_up (va_up (fun i => 4 * rk i) nn (4 * rk c + 1)) (nn + 1) (4 * rk c + 1) (nn + 1) = 4 * rk c + 1 := va_up_self _ _ _
  have shu : shN (nn + 2) nf (va_up (va_up (fun i => 4 * rk i) nn (4 * rk c + 1)) (nn + 1) (4 * rk c + 1)) (4 * rk c + 2) 5 nn (nn + 1) 0 0 := ⟨by decide, fun e => absurd e (by decide), fun _ => ⟨by omega, by rw [q1]; omega⟩, fun _ => ⟨by omega, by rw [q2]; omega⟩, fun e => absurd (Or.inr rfl) e, by decide, fun _ => rfl, fun e => absurd e (by decide), fun e => absurd e (by decide), fun e => absurd e (by decide), fun e => absurd e (by decide), fun _ => rfl⟩
  have bu : bdN (va_up (va_up bd nn (bd a2)) (nn + 1) (bd b2)) 5 nn (nn + 1) 0 = bd x := by
    show va_up (va_up bd nn _) (nn + 1) _ nn + va_up (va_up bd nn _) (nn + 1) _ (nn + 1) = _
    rw [va_up_self, va_up_ne _ _ (show nn ≠ nn + 1 by omega), va_up_self]; exact hb
  obtain ⟨P3, z2, z3, z4, z5⟩ := P2.ps hn shu (by rw [bu]; exact hbx) e3
  rw [bu] at P3
  have shx : shN (nn + 3) nf (va_up (va_up (va_up (fun i => 4 * rk i) nn (4 * rk c + 1)) (nn + 1) (4 * rk c + 1)) (nn + 2) (4 * rk c + 2)) (va_up (va_up (va_up (fun i => 4 * rk i) nn (4 * rk c + 1)) (nn + 1) (4 * rk c + 1)) (nn + 2) (4 * rk c + 2) x) k (nn + 2) 0 m v := by
    have r1 : va_up (va_up (va_up (fun i => 4 * rk i) nn (4 * rk c + 1)) (nn + 1) (4 * rk c + 1)) (nn + 2) (4 * rk c + 2) x = 4 * rk x := by rw [va_up_ne _ _ (by omega), va_up_ne _ _ (by omega), va_up_ne _ _ (by omega)]
    have r2 : va_up (va_up (va_up (fun i => 4 * rk i) nn (4 * rk c + 1)) (nn + 1) (4 * rk c + 1)) (nn + 2) (4 * rk c + 2) (nn + 2) = 4 * rk c + 2 := va_up_self _ _ _
    exact ⟨s1, fun e => absurd e k0, fun _ => ⟨by omega, by rw [r1, r2]; omega⟩, fun e => absurd e n45, fun _ => rfl, s6, s7, s8, s9, s10, s11, s12⟩
  have fla : FLp G2 nn ↔ FLp G a2 := ((y4 nn (by omega)).trans w3).trans (fk _ _ _)
  have flb : FLp G2 (nn + 1) ↔ FLp G b2 := (y3.trans (fk _ _ _)).trans (w4 b2 (by omega))
  have P := P3.wr (x := x) (by omega) shx (by
    rw [bdk, va_up_self, va_up_ne _ _ (show x ≠ nn + 2 by omega), va_up_ne _ _ (show x ≠ nn + 1 by omega), va_up_ne _ _ (show x ≠ nn by omega)]) (by
    rw [fk, z3, z4 x (by omega), y4 x (by omega), w4 x (by omega), ← hf]
    unfold flP
    rw [fla, flb]
    constructor
    · rintro ⟨-, q | q | q⟩
      · exact Or.inl q
      · exact Or.inr q.2
      · exact absurd q.1 (by decide)
    · rintro (q | q)
      · exact ⟨by decide, Or.inl q⟩
      · exact ⟨by decide, Or.inr (Or.inl ⟨by decide, q⟩)⟩)
  refine ⟨nn + 3, nf, _, _, P.v v2a (v2b.trans P.2.2.2.1.symm), ?_, w2a.trans u0, w2b, ?_⟩
  · rw [f3, e3, f2, e2, f1, e1]
    have A1 := ag.write (nn' := nn + 1) (by omega) (Or.inr ⟨rfl, rfl⟩) sha
    have A2 := A1.write (nn' := nn + 2) (by omega) (Or.inr ⟨rfl, rfl⟩) shb
    have A3 := A2.write (nn' := nn + 3) hn (Or.inr ⟨rfl, rfl⟩) shu
    exact A3.write (by omega) (Or.inl (Nat.le_refl _)) shx
  · rw [w29, v29, u2]
