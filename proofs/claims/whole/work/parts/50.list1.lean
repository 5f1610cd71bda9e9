/-! listFrom: the order of a run, by the class -/
theorem nodup_len : ∀ (nn : Nat) (L : List Nat), L.Nodup → (∀ y ∈ L, y < nn) → L.length ≤ nn
  | 0, L, _, h => by
    cases L with
    | nil => exact Nat.le_refl _
    | cons a L => exact absurd (h a List.mem_cons_self) (Nat.not_lt_zero _)
  | nn + 1, L, hn, h => by
    by_cases q : nn ∈ L
    · have h1 := nodup_len nn (L.erase nn) (hn.erase nn) (fun y hy => by
        have := (hn.mem_erase_iff).mp hy
        have := h y this.2
        omega)
      rw [List.length_erase_of_mem q] at h1
      omega
    · have h1 := nodup_len nn L hn (fun y hy => by
        have := h y hy
        rcases Nat.lt_or_ge y nn with w | w
        · exact w
        · have : y = nn := by omega
          subst this; exact absurd hy q)
      omega
abbrev lvL (ad : Nat → Nat) (x d9 c9 s9 : Int32) : Lv := [(0, .ref (ad 12)), (1, .int x), (2, .int d9), (3, .int c9), (4, .int s9)]
set_option maxHeartbeats 1600000 in
theorem lf_step {z : Zt} (E : EN z cX1_listFrom RX1) {w0 : va_W} {P : Option Value → va_W → Prop} {lvl : Nat} (T : RT z (some .int) lvl w0 P 0 0) (hz : zn z = 7) {ad : Nat → Nat} {V : Nat → Int32} {n9 : Nat} (hlv : 3 ≤ lvl) {x : Int32} {G : Nat → Nat → Int32} {h n t s c : Nat} (hs : s < 180) (hh : h < 60) (hn : n < 60) (hc : c < 60) (h21 : G 21 h = nI n) (ht : t < 3) (h22 : G 22 n = nI t)
    (y9 : Int32) (nx : Option Nat) (hy0 : t = 0 → fX1_leftBelow G (nI n) = y9) (hy1 : t = 1 → fX1_rightBelow G (nI n) = y9) (hnx : (nx = none ∧ y9 = -1) ∨ ∃ y, y < 60 ∧ nx = some y ∧ y9 = nI y) (hyn : ∀ y, nx = some y → y ≠ n) (hroom : t < 2 → ∀ y, nx = some y → G 22 y = 0 → h + 1 < 60)
    (K3 : t = 2 → WW z 0 0 (WC (zk z) ad (ug (ug G 22 n 3) 20 c (nI n)) V n9) 22 (lvL ad x (nI h) (nI (c + 1)) (nI (s + 1))) [])
    (K0 : t < 2 → (∀ y, nx = some y → ¬ G 22 y = 0) → WW z 0 0 (WC (zk z) ad (ug G 22 n (nI (t + 1))) V n9) 22 (lvL ad x (nI (h + 1)) (nI c) (nI (s + 1))) [])
    (K1 : t < 2 → ∀ y, nx = some y → G 22 y = 0 → WW z 0 0 (WC (zk z) ad (ug (ug G 22 n (nI (t + 1))) 21 (h + 1) (nI y)) V n9) 22 (lvL ad x (nI (h + 2)) (nI c) (nI (s + 1))) []) :
    WW z 0 0 (WC (zk z) ad G V n9) 22 (lvL ad x (nI (h + 1)) (nI c) (nI s)) [] := by
  have e1 : nI (h + 1) - 1 = nI h := nI_pred h
  have eA : G 21 (ix (nI (h + 1) - 1)) = nI n := by rw [e1, ix_nI (by omega)]; exact h21
  have eN : ix (nI n) = n := ix_nI (by omega)
  have eG : ug G 22 (ix (nI n)) (G 22 (ix (nI n)) + 1) = ug G 22 n (nI (t + 1)) := by rw [eN, h22, nI_1]
  have s0 : ¬ (180 : Int32) ≤ nI s := by rw [show (180 : Int32) = nI 180 from rfl, nI_leI (by omega) (by omega)]; omega
  have d0 : ¬ nI (h + 1) ≤ 0 := nI_nle (by omega) (by omega)
  have vN : vp_in (nI n) 60 := vp_in_nI hn (by omega)
  have t22 : ug G 22 n (nI (t + 1)) 22 n = nI (t + 1) := ug_same
  have t3 : nI (t + 1) = 3 ↔ t = 2 := by rw [show (3 : Int32) = nI 3 from rfl, nI_eq (by omega) (by omega)]; omega
  have t1 : nI (t + 1) = 1 ↔ t = 0 := by rw [show (1 : Int32) = nI 1 from rfl, nI_eq (by omega) (by omega)]; omega
  have fl : ∀ y, fX1_leftBelow (ug G 22 n y) (nI n) = fX1_leftBelow G (nI n) := fun y => by unfold fX1_leftBelow; rw [ug_other (by decide), ug_other (by decide)]
  have fr : ∀ y, fX1_rightBelow (ug G 22 n y) (nI n) = fX1_rightBelow G (nI n) := fun y => by unfold fX1_rightBelow; rw [ug_other (by decide), ug_other (by decide)]
  have fy : t < 2 → (if nI (t + 1) = 1 then fX1_leftBelow (ug G 22 n (nI (t + 1))) (nI n) else fX1_rightBelow (ug G 22 n (nI (t + 1))) (nI n) : Int32) = y9 := fun q => by
    rw [fl, fr]
    rcases Nat.eq_zero_or_pos t with w | w
    · rw [if_pos (t1.mpr w)]; exact hy0 w
    · rw [if_neg (fun e => by have := t1.mp e; omega)]; exact hy1 (by omega)
  have lt2 : ¬ nI (t + 1) = 3 → t < 2 := fun q => by
    rcases Nat.lt_or_ge t 2 with w | w
    · exact w
    · exact absurd (t3.mpr (by omega)) q
  have yp : ¬ y9 < 0 → ∃ y, y < 60 ∧ nx = some y ∧ y9 = nI y := fun q => hnx.elim (fun w => absurd (by rw [w.2]; decide) q) id
  have y22 : ∀ y, nx = some y → ug G 22 n (nI (t + 1)) 22 y = G 22 y := fun y hy => ug_i (hyn y hy)
  have p1 : nI (h + 1) + 1 = nI (h + 2) := nI_1 (h + 1)
  have p2 : nI (h + 1) + (-1) = nI h := pk_m1 h
  refine lf_b E T hz hlv x (nI (h + 1)) (nI c) (nI s) (fun _ _ => by rw [e1]; exact vp_in_nI hh (by omega)) (fun _ _ => by rw [eA]; exact vN) (fun _ _ _ _ => by rw [eA]; exact vN) (fun _ _ _ _ _ => by rw [eA]; exact vN) (fun _ _ _ _ _ _ => by rw [eA]; exact vN) (fun _ _ _ _ _ _ => by rw [eA]; exact vN) (fun G1 g _ _ c3 cn => ?_) (fun G1 g _ _ c3 cn cz => ?_) (fun _ _ _ _ _ => vp_in_nI hc (by omega)) (fun q => absurd q s0) (fun _ q => absurd q d0) (fun G1 g _ _ c3 cn => ?_) (fun G1 g _ _ c3 cn cz => ?_) (fun G1 G2 g g2 _ _ c3 cn cz => ?_) (fun G1 G2 g g2 _ _ c3 => ?_)
  · rw [eA, eG] at g
    rw [eA, g, eN, t22] at c3 cn ⊢
    rw [fy (lt2 c3)] at cn ⊢
    obtain ⟨y, y1, y2, y3⟩ := yp cn
    rw [y3]; exact vp_in_nI y1 (by omega)
  · rw [eA, eG] at g
    rw [eA, g, eN, t22] at c3 cn cz
    rw [fy (lt2 c3)] at cn cz
    obtain ⟨y, y1, y2, y3⟩ := yp cn
    rw [y3, ix_nI (by omega), y22 y y2] at cz
    exact vp_in_nI (hroom (lt2 c3) y y2 cz) (by omega)
  · rw [eA, eG] at g
    rw [eA, g, eN, t22] at c3 cn
    rw [fy (lt2 c3)] at cn
    rw [g, nI_1]
    refine K0 (lt2 c3) (fun y hy => ?_)
    rcases hnx with w | ⟨y', w1, w2, w3⟩
    · rw [w.1] at hy; exact absurd hy (by simp)
    · rw [w3] at cn; exact absurd cn (nI_pos (by omega))
  · rw [eA, eG] at g
    rw [eA, g, eN, t22] at c3 cn cz
    rw [fy (lt2 c3)] at cn cz
    rw [g, nI_1]
    obtain ⟨y, y1, y2, y3⟩ := yp cn
    rw [y3, ix_nI (by omega), y22 y y2] at cz
    refine K0 (lt2 c3) (fun y' hy' => ?_)
    rw [y2] at hy'
    rw [← Option.some.inj hy']; exact cz
  · rw [eA, eG] at g
    rw [eA, g, eN, t22] at c3 cn cz g2
    rw [fy (lt2 c3)] at cn cz g2
    obtain ⟨y, y1, y2, y3⟩ := yp cn
    rw [y3, ix_nI (by omega), y22 y y2] at cz
    have h60 := hroom (lt2 c3) y y2 cz
    rw [y3, ix_nI (by omega)] at g2
    rw [g2, p1, nI_1]
    exact K1 (lt2 c3) y y2 cz
  · rw [eA, eG] at g
    rw [eA, g, eN, t22] at c3
    have e2 := t3.mp c3
    rw [eA, g, ix_nI (by omega), c3] at g2
    rw [g2, p2, nI_1, nI_1]
    exact K3 e2
/-- what listFrom has listed: D is done, σ has the looks at those that are open -/
def liC (nn : Nat) (G0 : Nat → Nat → Int32) (D : List Nat) (sg : Nat → Nat) (G : Nat → Nat → Int32) : Prop :=
  (∀ p, p ≠ 20 → p ≠ 21 → p ≠ 22 → G p = G0 p) ∧ (∀ i, i < D.length → G 20 i = nI (D.getD i 0)) ∧ ∀ j, j < nn → G 22 j = if j ∈ D then 3 else nI (sg j)
theorem liC.w21 {nn : Nat} {G0 : Nat → Nat → Int32} {D : List Nat} {sg : Nat → Nat} {G : Nat → Nat → Int32} (h : liC nn G0 D sg G) (i : Nat) (y : Int32) : liC nn G0 D sg (ug G 21 i y) := by
  obtain ⟨h1, h2, h3⟩ := h
  exact ⟨fun p a b c => by rw [ug_other b]; exact h1 p a b c, fun i hi => by rw [ug_p (by decide)]; exact h2 i hi, fun j hj => by rw [ug_p (by decide)]; exact h3 j hj⟩
theorem liC.look {nn : Nat} {G0 : Nat → Nat → Int32} {D : List Nat} {sg : Nat → Nat} {G : Nat → Nat → Int32} (h : liC nn G0 D sg G) {n t : Nat} (hn : n ∉ D) : liC nn G0 D (fun j => if j = n then t else sg j) (ug G 22 n (nI t)) := by
  obtain ⟨h1, h2, h3⟩ := h
  refine ⟨fun p a b c => by rw [ug_other c]; exact h1 p a b c, fun i hi => by rw [ug_p (by decide)]; exact h2 i hi, fun j hj => ?_⟩
  rw [ug_if2]
  dsimp only
  by_cases e : j = n
  · rw [if_pos e, if_neg (by rw [e]; exact hn), if_pos e]
  · rw [if_neg e, if_neg e]; exact h3 j hj
set_option maxHeartbeats 1600000 in
theorem vis_list {z : Zt} (E : EN z cX1_listFrom RX1) {w0 : va_W} {P : Option Value → va_W → Prop} {lvl : Nat} (T : RT z (some .int) lvl w0 P 0 0) (hz : zn z = 7) {ad : Nat → Nat} {V : Nat → Int32} {n9 : Nat} (hlv : 3 ≤ lvl) {x : Int32} {nn nf : Nat} {bd rk : Nat → Nat} {Q G0 : Nat → Nat → Int32} (okp : okP Q nn nf bd rk) (agn : ∀ i, i < nn → G0 13 i = Q 4 i ∧ G0 14 i = Q 5 i ∧ G0 15 i = Q 6 i) :
    ∀ (d : Nat) (G : Nat → Nat → Int32) (D S : List Nat) (sg : Nat → Nat) (n so : Nat), liC nn G0 D sg G → (D ++ S ++ [n]).Nodup → (∀ y, y ∈ D ++ S ++ [n] → y < nn) → rk n < d → (∀ y, y ∈ S → rk n < rk y) → (∀ y, y ∉ S → sg y = 0) → so ≤ 2 * S.length → G 21 S.length = nI n →
      (∀ G' : Nat → Nat → Int32, liC nn G0 (pst Q d n D) sg G' → (∀ i, i < S.length → G' 21 i = G 21 i) → (pst Q d n D ++ S).Nodup → (∀ y, y ∈ pst Q d n D ++ S → y < nn) → WW z 0 0 (WC (zk z) ad G' V n9) 22 (lvL ad x (nI S.length) (nI (pst Q d n D).length) (nI (3 * (pst Q d n D).length + so))) []) →
      WW z 0 0 (WC (zk z) ad G V n9) 22 (lvL ad x (nI (S.length + 1)) (nI D.length) (nI (3 * D.length + so))) [] := by
  intro d
  induction d with
  | zero => intro G D S sg n so _ _ _ hh; exact absurd hh (Nat.not_lt_zero _)
  | succ d ih =>
    intro G D S sg n so li nd al hrd hS hsg hso hw K
    have hnn := okp.1
    have hn : n < nn := al n (List.mem_append_right _ List.mem_cons_self)
    obtain ⟨kd, m, aN, bN, ok⟩ := okp.2.2.2.2.2 n hn
    obtain ⟨k8, hk, hm6, hm, hbd, ha, ha0, ha1, hb, -⟩ := ok
    obtain ⟨n13, n14, n15⟩ := agn n hn
    have kz : nI kd = 0 ↔ kd = 0 := by rw [show (0 : Int32) = nI 0 from rfl, nI_eq (by omega) (by omega)]
    have k4 : nI kd = 4 ↔ kd = 4 := by rw [show (4 : Int32) = nI 4 from rfl, nI_eq (by omega) (by omega)]
    have k5 : nI kd = 5 ↔ kd = 5 := by rw [show (5 : Int32) = nI 5 from rfl, nI_eq (by omega) (by omega)]
    have nd0 := List.nodup_append.mp nd
    have hnDS : n ∉ D ++ S := fun h => (nd0.2.2 n h n List.mem_cons_self) rfl
    have hnD : n ∉ D := fun h => hnDS (List.mem_append_left _ h)
    have hnS : n ∉ S := fun h => hnDS (List.mem_append_right _ h)
    obtain ⟨D1, hD1⟩ : ∃ D1, D1 = if kd = 0 then D else pst Q d aN D := ⟨_, rfl⟩
    obtain ⟨D2, hD2⟩ : ∃ D2, D2 = if kd = 4 ∨ kd = 5 then pst Q d bN D1 else D1 := ⟨_, rfl⟩
    have ep : pst Q (d + 1) n D = D2 ++ [n] := by
      show (if n ∈ D then D else _ ++ [n]) = _
      rw [if_neg hnD]
      congr 1
      rw [hk, hD2, hD1]
      simp only [kz, k4, k5]
      by_cases c0 : kd = 0
      · have : ¬ (kd = 4 ∨ kd = 5) := by omega
        rw [if_neg this, if_neg this, if_pos c0, if_pos c0]
      · rw [if_neg c0, if_neg c0, ha, ix_nI (by have := (ha1 c0).1; omega)]
        by_cases c : kd = 4 ∨ kd = 5
        · rw [if_pos c, if_pos c, (hb c).2.1, ix_nI (by have := (hb c).1; omega)]
        · rw [if_neg c, if_neg c]
    rw [ep] at K
    -- what leftBelow, rightBelow answer
    have fL : ∀ G' : Nat → Nat → Int32, (∀ p, p ≠ 20 → p ≠ 21 → p ≠ 22 → G' p = G0 p) → fX1_leftBelow G' (nI n) = if kd = 0 then -1 else nI aN := fun G' h => by
      unfold fX1_leftBelow
      rw [h 13 (by decide) (by decide) (by decide), h 14 (by decide) (by decide) (by decide), ix_nI (by omega), n13, n14, hk, ha]
      simp only [kz]
    have fR : ∀ G' : Nat → Nat → Int32, (∀ p, p ≠ 20 → p ≠ 21 → p ≠ 22 → G' p = G0 p) → fX1_rightBelow G' (nI n) = if kd = 4 ∨ kd = 5 then nI bN else -1 := fun G' h => by
      unfold fX1_rightBelow fX1_takesRight
      rw [h 13 (by decide) (by decide) (by decide), h 15 (by decide) (by decide) (by decide), ix_nI (by omega), n13, n15, hk]
      by_cases c : kd = 4 ∨ kd = 5
      · rw [if_pos c, (hb c).2.1]
        rcases c with c | c
        · rw [if_pos (k4.mpr c), if_neg (by decide)]
        · have n4 : ¬ nI kd = 4 := fun w => by have := k4.mp w; omega
          rw [if_neg n4, if_pos (k5.mpr c), if_neg (by decide)]
      · have n4 : ¬ nI kd = 4 := fun w => c (Or.inl (k4.mp w))
        have n5 : ¬ nI kd = 5 := fun w => c (Or.inr (k5.mp w))
        rw [if_neg c, if_neg n4, if_neg n5, if_pos rfl]
    -- a node below n is open nowhere
    have out : ∀ y, rk y < rk n → y ∉ S ∧ y ≠ n := fun y hy => ⟨fun h => by have := hS y h; omega, fun e => by rw [e] at hy; omega⟩
    have lz : ∀ (D' : List Nat) (t : Nat) (G' : Nat → Nat → Int32), liC nn G0 D' (fun j => if j = n then t else sg j) G' → ∀ y, y < nn → rk y < rk n → (G' 22 y = 0 ↔ y ∉ D') := fun D' t G' l y hy hr => by
      have o := out y hr
      rw [l.2.2 y hy]
      dsimp only
      by_cases q : y ∈ D'
      · rw [if_pos q]; exact ⟨fun w => absurd w (by decide), fun w => absurd q w⟩
      · rw [if_neg q, if_neg o.2, hsg y o.1]; exact ⟨fun _ => q, fun _ => rfl⟩
    have ndx : ∀ D' : List Nat, (D' ++ S ++ [n]).Nodup → (∀ y, y ∈ D' ++ S ++ [n] → y < nn) → ∀ y, y < nn → rk y < rk n → y ∉ D' → (D' ++ (S ++ [n]) ++ [y]).Nodup ∧ (∀ w, w ∈ D' ++ (S ++ [n]) ++ [y] → w < nn) := fun D' h1 h2 y hy hr hyD => by
      have o := out y hr
      rw [← List.append_assoc]
      refine ⟨List.nodup_append.mpr ⟨h1, by simp, fun a ha b hb e => ?_⟩, fun w hw => ?_⟩
      · have : b = y := by simpa using hb
        subst this; subst e
        rcases List.mem_append.mp ha with q | q
        · rcases List.mem_append.mp q with q | q
          · exact hyD q
          · exact o.1 q
        · exact o.2 (by simpa using q)
      · rcases List.mem_append.mp hw with q | q
        · exact h2 w q
        · have : w = y := by simpa using q
          subst this; exact hy
    have lens : ∀ D' : List Nat, (D' ++ S ++ [n]).Nodup → (∀ y, y ∈ D' ++ S ++ [n] → y < nn) → D'.length + S.length + 1 ≤ 60 := fun D' h1 h2 => by
      have := nodup_len nn _ h1 h2
      rw [List.length_append, List.length_append] at this
      have e : ([n] : List Nat).length = 1 := rfl
      omega
    have rom : ∀ D' : List Nat, (D' ++ S ++ [n]).Nodup → (∀ y, y ∈ D' ++ S ++ [n] → y < nn) → ∀ y, y < nn → rk y < rk n → y ∉ D' → S.length + 1 < 60 := fun D' h1 h2 y hy hr hyD => by
      obtain ⟨a1, a2⟩ := ndx D' h1 h2 y hy hr hyD
      have := nodup_len nn _ a1 a2
      simp only [List.length_append, List.length_cons, List.length_nil] at this
      omega
    have n22 : ∀ (D' : List Nat) (t : Nat) (G' : Nat → Nat → Int32), liC nn G0 D' (fun j => if j = n then t else sg j) G' → n ∉ D' → G' 22 n = nI t := fun D' t G' l q => by
      rw [l.2.2 n hn, if_neg q]; dsimp only; rw [if_pos rfl]
    have nNot : ∀ D' : List Nat, (D' ++ S ++ [n]).Nodup → n ∉ D' := fun D' h q => ((List.nodup_append.mp h).2.2 n (List.mem_append_left _ q) n List.mem_cons_self) rfl
    have lk2 : ∀ (D' : List Nat) (t t' : Nat) (G' : Nat → Nat → Int32), liC nn G0 D' (fun j => if j = n then t else sg j) G' → n ∉ D' → liC nn G0 D' (fun j => if j = n then t' else sg j) (ug G' 22 n (nI t')) := fun D' t t' G' l q => by
      have := l.look (n := n) (t := t') q
      have e : (fun j => if j = n then t' else if j = n then t else sg j) = (fun j => if j = n then t' else sg j) := by
        funext j; by_cases w : j = n
        · rw [if_pos w, if_pos w]
        · rw [if_neg w, if_neg w, if_neg w]
      rw [e] at this; exact this
    -- the third look
    have stage3 : ∀ G' : Nat → Nat → Int32, liC nn G0 D2 (fun j => if j = n then 2 else sg j) G' → (D2 ++ S ++ [n]).Nodup → (∀ y, y ∈ D2 ++ S ++ [n] → y < nn) → G' 21 S.length = nI n → (∀ i, i < S.length → G' 21 i = G 21 i) → WW z 0 0 (WC (zk z) ad G' V n9) 22 (lvL ad x (nI (S.length + 1)) (nI D2.length) (nI (3 * D2.length + so + 2))) [] := by
      intro G' li' nd' al' hw' hb'
      have hl := lens D2 nd' al'
      have hnd := nNot D2 nd'
      refine lf_step E T hz hlv (by omega) (by omega) (by omega) (by omega) hw' (by omega) (n22 D2 2 G' li' hnd) (-1) none (fun e => absurd e (by decide)) (fun e => absurd e (by decide)) (Or.inl ⟨rfl, rfl⟩) (fun y h => by simp at h) (fun h => absurd h (by decide)) (fun _ => ?_) (fun h => absurd h (by decide)) (fun h => absurd h (by decide))
      have eL : (D2 ++ [n]).length = D2.length + 1 := by rw [List.length_append]; rfl
      have KK := K (ug (ug G' 22 n 3) 20 D2.length (nI n)) ⟨fun p a b c => ?_, fun i hi => ?_, fun j hj => ?_⟩ (fun i hi => by rw [ug_p (by decide), ug_p (by decide)]; exact hb' i hi) ?_ (fun y hy => ?_)
      · rw [eL, show 3 * (D2.length + 1) + so = 3 * D2.length + so + 2 + 1 by omega] at KK
        exact KK
      · rw [ug_other a, ug_other c]; exact li'.1 p a b c
      · rw [eL] at hi
        rw [ug_if2, ug_p (by decide)]
        by_cases e : i = D2.length
        · rw [if_pos e, e, List.getD_eq_getElem?_getD, List.getElem?_append_right (Nat.le_refl _), Nat.sub_self]; rfl
        · rw [if_neg e, List.getD_eq_getElem?_getD, List.getElem?_append_left (by omega), ← List.getD_eq_getElem?_getD]; exact li'.2.1 i (by omega)
      · rw [ug_p (by decide), ug_if2]
        by_cases e : j = n
        · rw [if_pos e, if_pos (by rw [e]; exact List.mem_append_right _ List.mem_cons_self)]
        · rw [if_neg e, li'.2.2 j hj]
          dsimp only
          rw [if_neg e]
          by_cases q : j ∈ D2
          · rw [if_pos q, if_pos (List.mem_append_left _ q)]
          · rw [if_neg q, if_neg (fun w => (List.mem_append.mp w).elim q (fun w => e (List.mem_singleton.mp w)))]
      · refine (List.Perm.nodup_iff ?_).mp nd'
        rw [List.append_assoc, List.append_assoc]
        exact List.Perm.append_left _ List.perm_append_comm
      · refine al' y ?_
        simp only [List.mem_append, List.mem_singleton] at hy ⊢
        rcases hy with (q | q) | q
        · exact Or.inl (Or.inl q)
        · exact Or.inr q
        · exact Or.inl (Or.inr q)
    -- the second
    have stage2 : ∀ G' : Nat → Nat → Int32, liC nn G0 D1 (fun j => if j = n then 1 else sg j) G' → (D1 ++ S ++ [n]).Nodup → (∀ y, y ∈ D1 ++ S ++ [n] → y < nn) → G' 21 S.length = nI n → (∀ i, i < S.length → G' 21 i = G 21 i) → WW z 0 0 (WC (zk z) ad G' V n9) 22 (lvL ad x (nI (S.length + 1)) (nI D1.length) (nI (3 * D1.length + so + 1))) [] := by
      intro G' li' nd' al' hw' hb'
      have hl := lens D1 nd' al'
      have hnd := nNot D1 nd'
      by_cases c : kd = 4 ∨ kd = 5
      · have br := (hb c).2.2
        have bl := (hb c).1
        refine lf_step E T hz hlv (by omega) (by omega) (by omega) (by omega) hw' (by omega) (n22 D1 1 G' li' hnd) (nI bN) (some bN) (fun e => absurd e (by decide)) (fun _ => by rw [fR G' li'.1, if_pos c]) (Or.inr ⟨bN, by omega, rfl, rfl⟩) (fun y h => by rw [← Option.some.inj h]; exact (out bN br).2) (fun _ y h q => ?_) (fun h => absurd h (by decide)) (fun _ hq => ?_) (fun _ y h q => ?_)
        · rw [← Option.some.inj h] at q
          exact rom D1 nd' al' bN bl br ((lz D1 1 G' li' bN bl br).mp q)
        · have q : bN ∈ D1 := Classical.byContradiction fun w => hq bN rfl ((lz D1 1 G' li' bN bl br).mpr w)
          have e2 : D2 = D1 := by rw [hD2, if_pos c]; exact pst_in (by omega) q
          have s3 := stage3 (ug G' 22 n (nI 2))
          rw [e2] at s3
          exact s3 (lk2 D1 1 2 G' li' hnd) nd' al' (by rw [ug_p (by decide)]; exact hw') (fun i hi => by rw [ug_p (by decide)]; exact hb' i hi)
        · have e := (Option.some.inj h).symm
          subst e
          have qn := (lz D1 1 G' li' y bl br).mp q
          obtain ⟨a1, a2⟩ := ndx D1 nd' al' y bl br qn
          have e2 : D2 = pst Q d y D1 := by rw [hD2, if_pos c]
          have eS : (S ++ [n]).length = S.length + 1 := by rw [List.length_append]; rfl
          have R := ih (ug (ug G' 22 n (nI 2)) 21 (S.length + 1) (nI y)) D1 (S ++ [n]) (fun j => if j = n then 2 else sg j) y (so + 2) ((lk2 D1 1 2 G' li' hnd).w21 _ _) a1 a2 (by omega) (fun w hw => by
            rcases List.mem_append.mp hw with q | q
            · have := hS w q; omega
            · rw [List.mem_singleton.mp q]; exact br) (fun w hw => by
            rw [if_neg (fun e => hw (by rw [e]; exact List.mem_append_right _ List.mem_cons_self))]
            exact hsg w (fun q => hw (List.mem_append_left _ q))) (by omega) (by rw [eS]; exact ug_same) (fun G3 l3 b3 nd3 al3 => by
            rw [← e2] at l3 nd3 al3 ⊢
            rw [eS] at b3 ⊢
            rw [← List.append_assoc] at nd3 al3
            have b3' : ∀ i, i < S.length + 1 → G3 21 i = G' 21 i := fun i hi => by rw [b3 i hi, ug_i (by omega), ug_p (by decide)]
            have := stage3 G3 l3 nd3 al3 ((b3' _ (by omega)).trans hw') (fun i hi => (b3' i (by omega)).trans (hb' i hi))
            rw [show 3 * D2.length + (so + 2) = 3 * D2.length + so + 2 by omega]
            exact this)
          rw [eS, show 3 * D1.length + (so + 2) = 3 * D1.length + so + 1 + 1 by omega] at R
          exact R
      · have e2 : D2 = D1 := by rw [hD2, if_neg c]
        refine lf_step E T hz hlv (by omega) (by omega) (by omega) (by omega) hw' (by omega) (n22 D1 1 G' li' hnd) (-1) none (fun e => absurd e (by decide)) (fun _ => by rw [fR G' li'.1, if_neg c]) (Or.inl ⟨rfl, rfl⟩) (fun y h => by simp at h) (fun _ y h => by simp at h) (fun h => absurd h (by decide)) (fun _ hq => ?_) (fun _ y h => by simp at h)
        have s3 := stage3 (ug G' 22 n (nI 2))
        rw [e2] at s3
        exact s3 (lk2 D1 1 2 G' li' hnd) nd' al' (by rw [ug_p (by decide)]; exact hw') (fun i hi => by rw [ug_p (by decide)]; exact hb' i hi)
    -- the first
    have hl := lens D nd al
    have sg0 : (fun j => if j = n then 0 else sg j) = sg := by
      funext j
      by_cases w : j = n
      · rw [if_pos w, w, hsg n hnS]
      · rw [if_neg w]
    have li0 : liC nn G0 D (fun j => if j = n then 0 else sg j) G := by rw [sg0]; exact li
    by_cases c0 : kd = 0
    · have e1 : D1 = D := by rw [hD1, if_pos c0]
      refine lf_step E T hz hlv (by omega) (by omega) (by omega) (by omega) hw (by omega) (n22 D 0 G li0 hnD) (-1) none (fun _ => by rw [fL G li.1, if_pos c0]) (fun e => absurd e (by decide)) (Or.inl ⟨rfl, rfl⟩) (fun y h => by simp at h) (fun _ y h => by simp at h) (fun h => absurd h (by decide)) (fun _ hq => ?_) (fun _ y h => by simp at h)
      have s2 := stage2 (ug G 22 n (nI 1))
      rw [e1] at s2
      exact s2 (lk2 D 0 1 G li0 hnD) nd al (by rw [ug_p (by decide)]; exact hw) (fun i hi => by rw [ug_p (by decide)])
    · have ar := (ha1 c0).2
      have aL := (ha1 c0).1
      refine lf_step E T hz hlv (by omega) (by omega) (by omega) (by omega) hw (by omega) (n22 D 0 G li0 hnD) (nI aN) (some aN) (fun _ => by rw [fL G li.1, if_neg c0]) (fun e => absurd e (by decide)) (Or.inr ⟨aN, by omega, rfl, rfl⟩) (fun y h => by rw [← Option.some.inj h]; exact (out aN ar).2) (fun _ y h q => ?_) (fun h => absurd h (by decide)) (fun _ hq => ?_) (fun _ y h q => ?_)
      · rw [← Option.some.inj h] at q
        exact rom D nd al aN aL ar ((lz D 0 G li0 aN aL ar).mp q)
      · have q : aN ∈ D := Classical.byContradiction fun w => hq aN rfl ((lz D 0 G li0 aN aL ar).mpr w)
        have e1 : D1 = D := by rw [hD1, if_neg c0]; exact pst_in (by omega) q
        have s2 := stage2 (ug G 22 n (nI 1))
        rw [e1] at s2
        exact s2 (lk2 D 0 1 G li0 hnD) nd al (by rw [ug_p (by decide)]; exact hw) (fun i hi => by rw [ug_p (by decide)])
      · have e := (Option.some.inj h).symm
        subst e
        have qn := (lz D 0 G li0 y aL ar).mp q
        obtain ⟨a1, a2⟩ := ndx D nd al y aL ar qn
        have e1 : D1 = pst Q d y D := by rw [hD1, if_neg c0]
        have eS : (S ++ [n]).length = S.length + 1 := by rw [List.length_append]; rfl
        have R := ih (ug (ug G 22 n (nI 1)) 21 (S.length + 1) (nI y)) D (S ++ [n]) (fun j => if j = n then 1 else sg j) y (so + 1) ((lk2 D 0 1 G li0 hnD).w21 _ _) a1 a2 (by omega) (fun w hw => by
          rcases List.mem_append.mp hw with q | q
          · have := hS w q; omega
          · rw [List.mem_singleton.mp q]; exact ar) (fun w hw => by
          rw [if_neg (fun e => hw (by rw [e]; exact List.mem_append_right _ List.mem_cons_self))]
          exact hsg w (fun q => hw (List.mem_append_left _ q))) (by omega) (by rw [eS]; exact ug_same) (fun G3 l3 b3 nd3 al3 => by
          rw [← e1] at l3 nd3 al3 ⊢
          rw [eS] at b3 ⊢
          rw [← List.append_assoc] at nd3 al3
          have b3' : ∀ i, i < S.length + 1 → G3 21 i = G 21 i := fun i hi => by rw [b3 i hi, ug_i (by omega), ug_p (by decide)]
          have := stage2 G3 l3 nd3 al3 ((b3' _ (by omega)).trans hw) (fun i hi => b3' i (by omega))
          rw [show 3 * D1.length + (so + 1) = 3 * D1.length + so + 1 by omega]
          exact this)
        rw [eS, show 3 * D.length + (so + 1) = 3 * D.length + so + 0 + 1 by omega] at R
        exact R
set_option maxHeartbeats 800000 in
theorem c_listFrom {l : Launch} {k : Kt} {ad : Nat → Nat} {G0 Q : Nat → Nat → Int32} {V : Nat → Int32} {n9 nn nf n : Nat} {bd rk : Nat → Nat} {x : Int32} (okp : okP Q nn nf bd rk) (agn : ∀ i, i < nn → G0 13 i = Q 4 i ∧ G0 14 i = Q 5 i ∧ G0 15 i = Q 6 i) (hx : x = nI n) (hn : n < nn) :
    CT l k yX1_listFrom cX1_listFrom 7 (some .int) 3 [.ref (ad 12), .int x] (WC k ad G0 V n9) (fun v w' => v = some (.int (nI (pst Q 60 n []).length)) ∧ ∃ G' : Nat → Nat → Int32, w' = WC k ad G' V n9 ∧ liC nn G0 (pst Q 60 n []) (fun _ => 0) G' ∧ (pst Q 60 n []).Nodup ∧ ∀ y, y ∈ pst Q 60 n [] → y < nn) 0 0 := by
  refine ct_of (own := RX1) (lv0 := [(0, .ref (ad 12)), (1, .int x)]) (by decide) rfl (Nat.le_of_ble_eq_true rfl) rfl ?_
  rintro z rfl rfl hz - E T
  have hnn := okp.1
  refine lf_a E T hz (Nat.le_refl 3) x (fun G1 G2 e1 e2 => ?_)
  have l0 : liC nn G0 [] (fun _ => 0) G2 := by
    refine ⟨fun p a b c => by rw [e2, ug_other b, e1, va_up_ne _ _ c], fun i hi => absurd hi (Nat.not_lt_zero _), fun j hj => ?_⟩
    rw [e2, ug_p (by decide), e1, va_up_self, if_pos (by omega), if_neg List.not_mem_nil]; rfl
  refine vis_list E T hz (Nat.le_refl 3) okp agn 60 G2 [] [] (fun _ => 0) n 0 l0 (by simp) (fun y hy => by
    have : y = n := by simpa using hy
    rw [this]; exact hn) (okp.2.2.2.2.1 n hn) (fun y hy => absurd hy List.not_mem_nil) (fun _ _ => rfl) (Nat.zero_le _) (by rw [e2, hx]; exact ug_same) (fun G' l' _ nd al => ?_)
  rw [List.append_nil] at nd al
  have hl := nodup_len nn _ nd al
  have fin : WW z 0 0 (WC (zk z) ad G' V n9) 22 (lvL ad x (nI 0) (nI (pst Q 60 n []).length) (nI (3 * (pst Q 60 n []).length + 0))) [] := by
    have d0 : nI 0 ≤ 0 := by decide
    exact lf_b E T hz (Nat.le_refl 3) x (nI 0) _ _ (fun _ c => absurd d0 c) (fun _ c => absurd d0 c) (fun _ _ _ c => absurd d0 c) (fun _ _ _ c => absurd d0 c) (fun _ _ _ c => absurd d0 c) (fun _ _ _ c => absurd d0 c) (fun _ _ _ c => absurd d0 c) (fun _ _ _ c => absurd d0 c) (fun _ _ _ c => absurd d0 c) (fun _ => ⟨rfl, G', rfl, l', nd, al⟩) (fun _ _ => ⟨rfl, G', rfl, l', nd, al⟩) (fun _ _ _ c => absurd d0 c) (fun _ _ _ c => absurd d0 c) (fun _ _ _ _ _ c => absurd d0 c) (fun _ _ _ _ _ c => absurd d0 c)
  exact fin
