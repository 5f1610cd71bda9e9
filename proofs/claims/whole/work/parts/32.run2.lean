theorem FM_eq {G G0 : Nat → Nat → Int32} (h : ∀ p, p ≠ 17 → p ≠ 18 → p ≠ 19 → p ≠ 20 → p ≠ 21 → p ≠ 22 → p ≠ 23 → G p = G0 p) : FM G = FM G0 := by
  funext t
  have hL : ([4, 5, 6, 3, 10, 11, 12, 13, 14, 1, 2] : List Nat).getD t 0 ≤ 14 := by
    rcases Nat.lt_or_ge t 11 with q | q
    · rcases (show t = 0 ∨ t = 1 ∨ t = 2 ∨ t = 3 ∨ t = 4 ∨ t = 5 ∨ t = 6 ∨ t = 7 ∨ t = 8 ∨ t = 9 ∨ t = 10 by omega) with rfl | rfl | rfl | rfl | rfl | rfl | rfl | rfl | rfl | rfl | rfl <;> decide
    · obtain ⟨s, rfl⟩ : ∃ s, t = s + 11 := ⟨t - 11, by omega⟩
      simp
  unfold FM
  exact h _ (by omega) (by omega) (by omega) (by omega) (by omega) (by omega) (by omega)
/-- the reference in the midst of a run: the nodes D are done -/
def mmM (nn : Nat) (bd : Nat → Nat) (G0 : Nat → Nat → Int32) (V0 : Nat → Int32) (D : List Nat) (G : Nat → Nat → Int32) (V : Nat → Int32) (n9 g9 : Int32) : Prop :=
  (∀ p, p ≠ 17 → p ≠ 18 → p ≠ 19 → p ≠ 20 → p ≠ 21 → p ≠ 22 → p ≠ 23 → G p = G0 p) ∧ V 5 = (rsL (FM G0) D).2.1 ∧ V 6 = (rsL (FM G0) D).2.2.1 ∧ n9 = (rsL (FM G0) D).2.2.2.1 ∧ g9 = (rsL (FM G0) D).2.2.2.2 ∧ (∀ j, j ≠ 3 → j ≠ 4 → j ≠ 5 → j ≠ 6 → V j = V0 j) ∧
  ((rsL (FM G0) D).2.1 = 0 → (∀ i, i < nn → G 22 i = if i ∈ D then 1 else 0) ∧ ∀ i, i ∈ D → i < nn ∧ G 21 i = nI ((rsL (FM G0) D).1 i).length ∧ (rsL (FM G0) D).1 i = tb (G 20) (600 * i) ((rsL (FM G0) D).1 i).length ∧ ((rsL (FM G0) D).1 i).length ≤ bd i)
theorem isTwo_n {kd : Nat} (h : kd ≤ 8) : ¬ fX6_isTwo (nI kd) = 0 ↔ (kd = 4 ∨ kd = 5) := by
  rcases (show kd = 0 ∨ kd = 1 ∨ kd = 2 ∨ kd = 3 ∨ kd = 4 ∨ kd = 5 ∨ kd = 6 ∨ kd = 7 ∨ kd = 8 by omega) with rfl | rfl | rfl | rfl | rfl | rfl | rfl | rfl | rfl <;> decide
abbrev lvR (ad : Nat → Nat) (x n9 g9 w9 : Int32) : Lv := [(0, .ref (ad 0)), (1, .int x), (2, .int n9), (3, .int g9), (4, .int w9)]
set_option maxHeartbeats 1600000 in
/-- one turn of the run's loop, the node n on top, nothing failed yet -/
theorem rc_step {z : Zt} (E : EN z cX6_run RX6) {w0 : va_W} {P : Option Value → va_W → Prop} {lvl : Nat} (T : RT z (some .int) lvl w0 P 0 0) (hz : zn z = 6) {ad : Nat → Nat} (hlv : 7 ≤ lvl) {x n9 g9 : Int32} {nn nf : Nat} {bd rk : Nat → Nat} {G0 : Nat → Nat → Int32} {V0 : Nat → Int32} (okp : okP (FM G0) nn nf bd rk)
    {G : Nat → Nat → Int32} {V : Nat → Int32} {D : List Nat} {n h kd m aN bN : Nat} (mm : mmM nn bd G0 V0 D G V n9 g9) (hf : (rsL (FM G0) D).2.1 = 0) (hn : n < nn) (ok : okI (FM G0) nn nf bd rk n kd m aN bN) (hh : h + rk n < 60) (hw : G 23 h = nI n)
    (K1 : kd ≠ 0 → aN ∉ D → WW z 0 0 (WM (zk z) ad (ug G 23 (h + 1) (nI aN)) V) 57 (lvR ad x n9 g9 (nI (h + 2))) [])
    (K2 : (kd = 0 ∨ aN ∈ D) → (kd = 4 ∨ kd = 5) → bN ∉ D → WW z 0 0 (WM (zk z) ad (ug G 23 (h + 1) (nI bN)) V) 57 (lvR ad x n9 g9 (nI (h + 2))) [])
    (K3 : (kd = 0 ∨ aN ∈ D) → (kd = 4 ∨ kd = 5 → bN ∈ D) → ∀ (G' : Nat → Nat → Int32) (V' : Nat → Int32) (n' g' : Int32), mmM nn bd G0 V0 (D ++ [n]) G' V' n' g' → G' 23 = G 23 → WW z 0 0 (WM (zk z) ad G' V') 57 (lvR ad x n' g' (nI h)) []) :
    WW z 0 0 (WM (zk z) ad G V) 57 (lvR ad x n9 g9 (nI (h + 1))) [] := by
  obtain ⟨hnn, hnf, hW, hS, hrk, hall⟩ := okp
  obtain ⟨g1, v5, v6, en, eg, vo, gd⟩ := mm
  obtain ⟨d22, dR⟩ := gd hf
  have okc := ok
  obtain ⟨k8, hk, hm6, hm, hbd, ha, ha0, ha1, hb, hvf, hv6, hv8, hj, hu, ho⟩ := ok
  have e23 : ix (nI (h + 1) - 1) = h := by rw [nI_pred]; exact ix_nI (by omega)
  have eN : G 23 (ix (nI (h + 1) - 1)) = nI n := by rw [e23]; exact hw
  have eNi : ix (nI n) = n := ix_nI (by omega)
  have q10 : G 10 n = nI kd := by rw [g1 10 (by decide) (by decide) (by decide) (by decide) (by decide) (by decide) (by decide)]; exact hk
  have q11 : G 11 n = nI aN := by rw [g1 11 (by decide) (by decide) (by decide) (by decide) (by decide) (by decide) (by decide)]; exact ha
  have q12 : kd = 4 ∨ kd = 5 → G 12 n = nI bN := fun e => by rw [g1 12 (by decide) (by decide) (by decide) (by decide) (by decide) (by decide) (by decide)]; exact (hb e).2.1
  have kz : nI kd = 0 ↔ kd = 0 := by rw [show (0 : Int32) = nI 0 from rfl, nI_eq (by omega) (by omega)]
  have aI : kd ≠ 0 → ix (nI aN) = aN := fun e => ix_nI (by have := (ha1 e).1; omega)
  have bI : kd = 4 ∨ kd = 5 → ix (nI bN) = bN := fun e => ix_nI (by have := (hb e).1; omega)
  have dA : kd ≠ 0 → (G 22 aN = 0 ↔ aN ∉ D) := fun e => by
    rw [d22 aN (ha1 e).1]
    by_cases q : aN ∈ D
    · rw [if_pos q]; exact ⟨fun h => absurd h (by decide), fun h => absurd q h⟩
    · rw [if_neg q]; exact ⟨fun _ => q, fun _ => rfl⟩
  have dB : kd = 4 ∨ kd = 5 → (G 22 bN = 0 ↔ bN ∉ D) := fun e => by
    rw [d22 bN (hb e).1]
    by_cases q : bN ∈ D
    · rw [if_pos q]; exact ⟨fun h => absurd h (by decide), fun h => absurd q h⟩
    · rw [if_neg q]; exact ⟨fun _ => q, fun _ => rfl⟩
  have hGM : FM G = FM G0 := FM_eq g1
  -- the job, once a and b are done
  generalize hr : (rsL (FM G0) D).1 = res at *
  have okn : (kd = 0 ∨ aN ∈ D) → (kd = 4 ∨ kd = 5 → bN ∈ D) → ∃ la lb : Nat, okN G n nf kd aN bN la lb m (G 14 n) ∧ dsS G kd aN bN la lb m (G 14 n) (V 6) = jobS (FM G0) res n (V 6) ∧ (jobS (FM G0) res n (V 6)).1.length ≤ bd n := by
    intro hA hB
    have q8 : G 14 n = FM G0 8 n := by rw [g1 14 (by decide) (by decide) (by decide) (by decide) (by decide) (by decide) (by decide)]; rfl
    have q13 : G 13 n = nI m := by rw [g1 13 (by decide) (by decide) (by decide) (by decide) (by decide) (by decide) (by decide)]; exact hm
    have fw : FW (G 4) (G 5) (G 6) nf := by
      rw [g1 4 (by decide) (by decide) (by decide) (by decide) (by decide) (by decide) (by decide), g1 5 (by decide) (by decide) (by decide) (by decide) (by decide) (by decide) (by decide), g1 6 (by decide) (by decide) (by decide) (by decide) (by decide) (by decide) (by decide)]; exact hW
    have hBl : kd = 4 ∨ kd = 5 → (bN < nn ∧ G 21 bN = nI (res bN).length ∧ res bN = tb (G 20) (600 * bN) (res bN).length ∧ (res bN).length ≤ bd bN) := fun e => dR bN (hB e)
    have hbd100 : ∀ t, t < nn → bd t ≤ 100 := fun t ht => by
      obtain ⟨_, _, _, _, hh⟩ := hall t ht; exact hh.2.2.2.2.1
    by_cases k0 : kd = 0
    · obtain ⟨a4, b6⟩ := ha0 k0
      obtain ⟨j, hj6, hj⟩ := hS aN a4
      have hlen := job_len okc hS hnn (res := res) (fun e => absurd k0 e) (fun e => absurd k0 (by omega)) (V 6)
      refine ⟨j, 0, ⟨by omega, q10, k8, hm6, q13, rfl, hnf, fw, q11, fun _ => ⟨a4, ?_, hj6⟩, fun e => absurd k0 e, fun e => absurd k0 (by omega), fun e => absurd k0 (by omega), fun e => absurd k0 (by omega), fun e => absurd k0 (by omega), fun e => absurd k0 (by omega)⟩, ?_, hlen⟩
      · rw [g1 1 (by decide) (by decide) (by decide) (by decide) (by decide) (by decide) (by decide)]; exact hj
      · unfold dsS jobS
        rw [if_pos k0, if_pos (by rw [hk]; exact kz.mpr k0), ha, ix_nI (by omega), hj, ix_nI (by omega), g1 2 (by decide) (by decide) (by decide) (by decide) (by decide) (by decide) (by decide)]
        rfl
    · have hA' : aN ∈ D := hA.resolve_left k0
      obtain ⟨a1, a2, a3, a4⟩ := dR aN hA'
      have aR := (ha1 k0).2
      have hane : aN ≠ n := fun e => by rw [e] at aR; omega
      have a100 := hbd100 aN a1
      have hlen := job_len okc hS hnn (res := res) (fun _ => ⟨a4, by omega⟩) (fun e => (hBl e).2.2.2) (V 6)
      have eds : ∀ lb, (kd = 4 ∨ kd = 5 → lb = (res bN).length) → dsS G kd aN bN (res aN).length lb m (G 14 n) (V 6) = doS (FM G0) (nI kd) (nI m) (FM G0 8 n) (res aN) (tb (G 20) (600 * bN) lb) (V 6) := fun lb _ => by
        unfold dsS; rw [if_neg k0, hGM, q8, ← a3]
      have ejb : jobS (FM G0) res n (V 6) = doS (FM G0) (nI kd) (nI m) (FM G0 8 n) (res aN) (res (ix (FM G0 6 n))) (V 6) := by
        unfold jobS
        rw [if_neg (fun e => k0 (kz.mp (hk.symm.trans e))), hk, hm, ha, aI k0]
      by_cases k45 : kd = 4 ∨ kd = 5
      · obtain ⟨b1, b2, b3, b4⟩ := hBl k45
        have bR := (hb k45).2.2
        have hbne : bN ≠ n := fun e => by rw [e] at bR; omega
        have b100 := hbd100 bN b1
        refine ⟨(res aN).length, (res bN).length, ⟨by omega, q10, k8, hm6, q13, rfl, hnf, fw, q11, fun e => absurd e k0, fun _ => ⟨by omega, hane, a2, by omega⟩, fun e => by rw [q8]; exact hvf e, fun e => by rw [q8]; exact hv6 e, fun e => ⟨by omega, hbne, q12 e, b2, by omega⟩, fun e => Nat.le_trans (Nat.mul_le_mul a4 b4) (Nat.le_trans (hj e) hbd), fun e => by have := hu e; omega⟩, ?_, hlen⟩
        rw [eds _ (fun _ => rfl), ejb, (hb k45).2.1, bI k45, ← b3]
      · refine ⟨(res aN).length, 0, ⟨by omega, q10, k8, hm6, q13, rfl, hnf, fw, q11, fun e => absurd e k0, fun _ => ⟨by omega, hane, a2, by omega⟩, fun e => by rw [q8]; exact hvf e, fun e => by rw [q8]; exact hv6 e, fun e => absurd e k45, fun e => absurd (Or.inl e) k45, fun e => absurd (Or.inr e) k45⟩, ?_, hlen⟩
        rw [eds _ (fun e => absurd e k45), ejb]
        -- the rows of b are not looked at
        have hS' : ∀ bs bs' o i row, tkS (FM G0) (nI kd) (nI m) (FM G0 8 n) bs o i row = tkS (FM G0) (nI kd) (nI m) (FM G0 8 n) bs' o i row := fun bs bs' o i row => by
          unfold tkS
          have n4 : ¬ nI kd = 4 := fun e => k45 (Or.inl (by rw [show (4 : Int32) = nI 4 from rfl, nI_eq (by omega) (by omega)] at e; exact e))
          rw [if_neg n4, if_neg n4]
        have hL' : ∀ bs bs' as i o, tkL (FM G0) (nI kd) (nI m) (FM G0 8 n) bs o i as = tkL (FM G0) (nI kd) (nI m) (FM G0 8 n) bs' o i as := fun bs bs' as => by
          induction as with
          | nil => intro i o; rfl
          | cons r as ih =>
            intro i o
            show (if o.2.1 = 0 then _ else o) = (if o.2.1 = 0 then _ else o)
            by_cases c : o.2.1 = 0
            · rw [if_pos c, if_pos c, hS' bs bs']; exact ih _ _
            · rw [if_neg c, if_neg c]
        unfold doS
        have n5 : ¬ nI kd = 5 := fun e => k45 (Or.inr (by rw [show (5 : Int32) = nI 5 from rfl, nI_eq (by omega) (by omega)] at e; exact e))
        rw [if_neg n5, if_neg n5]; exact hL' _ _ _ _ _
  -- behind the job
  have done3 : (kd = 0 ∨ aN ∈ D) → (kd = 4 ∨ kd = 5 → bN ∈ D) → ∀ (Ga : Nat → Nat → Int32) (Va : Nat → Int32), stM G V n Ga Va (jobS (FM G0) res n (V 6)) → WW z 0 0 (WM (zk z) ad (ug Ga 22 n 1) Va) 57 (lvR ad x (n9 + 1) (if Va 5 = 0 then g9 else nI n) (nI h)) [] := by
    intro hA hB Ga Va st
    obtain ⟨la, lb, -, -, hlen⟩ := okn hA hB
    obtain ⟨s1, s2, s3, s4, s5, s6, s7, s8⟩ := st
    have hsn : rsL (FM G0) (D ++ [n]) = (va_up res n (jobS (FM G0) res n (V 6)).1, (jobS (FM G0) res n (V 6)).2.1, (jobS (FM G0) res n (V 6)).2.2, n9 + 1, if (jobS (FM G0) res n (V 6)).2.1 = 0 then g9 else nI n) := by
      rw [rsL_snoc]; unfold wkN; rw [if_pos hf, hr, ← v6, ← en, ← eg]
    refine K3 hA hB _ _ _ _ ⟨fun p p1 p2 p3 p4 p5 p6 p7 => ?_, ?_, ?_, ?_, ?_, fun j a b c d => (s8 j a b c d).trans (vo j a b c d), fun hf2 => ⟨fun i hi => ?_, fun i hi => ?_⟩⟩ ?_
    · rw [ug_other p6, s1 p p1 p2 p3 p4 p5]; exact g1 p p1 p2 p3 p4 p5 p6 p7
    · rw [hsn]; exact s6
    · rw [hsn]; exact s7
    · rw [hsn]
    · rw [hsn, s6]
    · rw [ug_if2, s1 22 (by decide) (by decide) (by decide) (by decide) (by decide)]
      by_cases e : i = n
      · rw [if_pos e, if_pos (by rw [e]; exact List.mem_append_right _ List.mem_cons_self)]
      · rw [if_neg e, d22 i hi]
        by_cases q : i ∈ D
        · rw [if_pos q, if_pos (List.mem_append_left _ q)]
        · rw [if_neg q, if_neg (fun w => (List.mem_append.mp w).elim q (fun w => e (List.mem_singleton.mp w)))]
    · rw [hsn]
      rw [ug_other (by decide), ug_other (by decide)]
      by_cases e : i = n
      · subst e
        have eu : va_up res i (jobS (FM G0) res i (V 6)).1 i = (jobS (FM G0) res i (V 6)).1 := va_up_self _ _ _
        dsimp only
        rw [eu]
        exact ⟨hn, s3, s5, hlen⟩
      · have hiD : i ∈ D := (List.mem_append.mp hi).elim id (fun w => absurd (List.mem_singleton.mp w) e)
        have eu : va_up res n (jobS (FM G0) res n (V 6)).1 i = res i := va_up_ne _ _ e
        dsimp only
        rw [eu]
        obtain ⟨r1, r2, r3, r4⟩ := dR i hiD
        have l100 : (res i).length ≤ 100 := by
          obtain ⟨_, _, _, _, hh⟩ := hall i r1; have := hh.2.2.2.2.1; omega
        refine ⟨r1, by rw [s2 i e]; exact r2, r3.trans (tb_congr fun j hj => (s4 _ ?_).symm), r4⟩
        rcases Nat.lt_or_gt_of_ne e with w | w
        · left; omega
        · right; omega
    · rw [ug_other (by decide), s1 23 (by decide) (by decide) (by decide) (by decide) (by decide)]
  have w0 : ¬ nI (h + 1) ≤ 0 := nI_nle (by omega) (by omega)
  have em1 : nI (h + 1) + (-1) = nI h := pk_m1 h
  have ep1 : nI (h + 1) + 1 = nI (h + 2) := nI_1 (h + 1)
  have two : ¬ fX6_isTwo (nI kd) = 0 ↔ (kd = 4 ∨ kd = 5) := isTwo_n k8
  rw [hf] at v5
  let Qd : (Nat → Nat → Int32) → (Nat → Int32) → Prop := fun Ga Va => stM G V n Ga Va (jobS (FM G0) res n (V 6))
  have tA : (G 10 (ix (G 23 (ix (nI (h + 1) - 1)))) = 0 ∨ ¬ G 22 (ix (G 11 (ix (G 23 (ix (nI (h + 1) - 1)))))) = 0) → (kd = 0 ∨ aN ∈ D) := fun q => by
    rw [eN, eNi, q10, kz, q11] at q
    by_cases k0 : kd = 0
    · exact Or.inl k0
    · rw [aI k0] at q
      exact Or.inr (Classical.byContradiction fun w => q.elim k0 (fun u => u ((dA k0).mpr w)))
  have tB : (fX6_isTwo (G 10 (ix (G 23 (ix (nI (h + 1) - 1))))) = 0 ∨ ¬ G 22 (ix (G 12 (ix (G 23 (ix (nI (h + 1) - 1)))))) = 0) → (kd = 4 ∨ kd = 5 → bN ∈ D) := fun q e => by
    rw [eN, eNi, q10, q12 e, bI e] at q
    exact Classical.byContradiction fun w => q.elim (two.mpr e) (fun u => u ((dB e).mpr w))
  refine r_c E T hz hlv x n9 g9 (nI (h + 1)) (fun _ => by rw [nI_pred]; exact vp_in_nI (by omega) (by omega)) (fun _ => by rw [eN]; exact vp_in_nI (by omega) (by omega)) (fun _ c => ?_) (fun _ c => ?_) (fun _ c _ => ?_) (fun _ c _ => ?_) Qd (fun _ _ cA cB => ?_) (fun c => absurd c w0) (fun _ c => absurd v5 c) (fun Ga Va hq G1 e1 _ _ c1 c2 => ?_) (fun Ga Va hq G1 e1 _ _ c1 c2 c3 => ?_) (fun G1 e1 _ _ c1 c2 c3 => ?_) (fun Ga Va hq G1 e1 _ _ c1 c2 c3 => ?_) (fun Ga Va hq G1 e1 _ _ c1 c2 c3 c4 => ?_) (fun G1 e1 _ _ c1 c2 c3 c4 => ?_) (fun G1 e1 _ _ c1 c2 => ?_)
  · rw [eN, eNi, q10, kz] at c; rw [eN, eNi, q11]; exact vp_in_nI (by have := (ha1 c).1; omega) (by omega)
  · rw [eN, eNi, q10] at c; have e := two.mp c; rw [eN, eNi, q12 e]; exact vp_in_nI (by have := (hb e).1; omega) (by omega)
  · rw [eN, eNi, q10, kz] at c; exact vp_in_nI (by have := (ha1 c).2; omega) (by omega)
  · rw [eN, eNi, q10] at c; have e := two.mp c; exact vp_in_nI (by have := (hb e).2.2; omega) (by omega)
  · obtain ⟨la, lb, o1, o2, -⟩ := okn (tA cA) (tB cB)
    have h9 := c_does (l := zl z) (k := zk z) (ad := ad) (G0 := G) (V0 := V) (x := nI n) rfl o1 v5
    rw [o2] at h9
    rw [eN]; exact h9
  · rw [e1, eN, eNi, em1]; exact done3 (tA (Or.inl c1)) (tB (Or.inl c2)) Ga Va hq
  · rw [e1, eN, eNi, em1]; exact done3 (tA (Or.inl c1)) (tB (Or.inr c3)) Ga Va hq
  · rw [eN, eNi, q10] at c2; have e := two.mp c2
    rw [eN, eNi, q12 e, bI e, dB e] at c3
    rw [e1, eN, eNi, q12 e, ep1, ix_nI (by omega)]; exact K2 (tA (Or.inl c1)) e c3
  · rw [e1, eN, eNi, em1]; exact done3 (tA (Or.inr c2)) (tB (Or.inl c3)) Ga Va hq
  · rw [e1, eN, eNi, em1]; exact done3 (tA (Or.inr c2)) (tB (Or.inr c4)) Ga Va hq
  · rw [eN, eNi, q10] at c3; have e := two.mp c3
    rw [eN, eNi, q12 e, bI e, dB e] at c4
    rw [e1, eN, eNi, q12 e, ep1, ix_nI (by omega)]; exact K2 (tA (Or.inr c2)) e c4
  · rw [eN, eNi, q10, kz] at c1
    rw [eN, eNi, q11, aI c1, dA c1] at c2
    rw [e1, eN, eNi, q11, ep1, ix_nI (by omega)]; exact K1 c1 c2
