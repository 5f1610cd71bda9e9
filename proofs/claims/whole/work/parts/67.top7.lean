/-! below(): a set of nodes as bits -/
def wbt (w : Int64) (i : Nat) : Bool := w.toBitVec.getLsbD i
theorem wbt_or (a b : Int64) (i : Nat) : wbt (a ||| b) i = (wbt a i || wbt b i) := by unfold wbt; rw [Int64.toBitVec_or, BitVec.getLsbD_or]
theorem wbt_one : ∀ j : Nat, j < 60 → ∀ i : Nat, i < 64 → wbt (1 <<< ((nI j).toInt64 &&& 63)) i = decide (i = j) := by decide +kernel
theorem wbt_ext {a b : Int64} (h : ∀ i, i < 64 → wbt a i = wbt b i) : a = b := Int64.toBitVec_inj.mp (BitVec.eq_of_getLsbD_eq (fun i hi => h i hi))
theorem wsh : ∀ j : Nat, j < 60 → ((((nI j).toInt64 &&& 63) : Int64).toBitVec.smod 64).toNat = j := by decide +kernel
theorem wbt_shr (w : Int64) {j : Nat} (hj : j < 60) : (w >>> ((nI j).toInt64 &&& 63)) &&& 1 = if wbt w j = true then 1 else 0 := by
  have e1 : ∀ i : Nat, i < 64 → wbt (1 : Int64) i = decide (i = 0) := by decide +kernel
  have e0 : ∀ i : Nat, i < 64 → wbt (0 : Int64) i = false := by decide +kernel
  have es : wbt (w >>> ((nI j).toInt64 &&& 63)) 0 = wbt w j := by
    unfold wbt
    rw [Int64.toBitVec_shiftRight]
    show (w.toBitVec.sshiftRight (((nI j).toInt64 &&& 63).toBitVec.smod 64).toNat).getLsbD 0 = _
    rw [wsh j hj, BitVec.getLsbD_sshiftRight]
    simp [show j < 64 by omega]
  apply wbt_ext
  intro i hi
  have ea : wbt ((w >>> ((nI j).toInt64 &&& 63)) &&& 1) i = (wbt (w >>> ((nI j).toInt64 &&& 63)) i && wbt 1 i) := by unfold wbt; rw [Int64.toBitVec_and, BitVec.getLsbD_and]
  rw [ea, e1 i hi]
  by_cases c : i = 0
  · subst c
    rw [es]
    cases h : wbt w j
    · simp [e0]
    · simp [e1]
  · by_cases h : wbt w j = true
    · rw [if_pos h, e1 i hi]; simp [c]
    · rw [if_neg h, e0 i hi]; simp [c]
theorem lcmp0 (x y : Int64) : lg_cmp x y = 0 ↔ x = y := by
  unfold lg_cmp
  by_cases h1 : y < x
  · rw [if_pos h1]
    exact ⟨fun h => absurd h (by decide), fun h => by rw [h] at h1; exact False.elim (Int64.lt_irrefl h1)⟩
  · rw [if_neg h1]
    by_cases h2 : x = y
    · rw [if_pos h2]; exact ⟨fun _ => h2, fun _ => rfl⟩
    · rw [if_neg h2]; exact ⟨fun h => absurd h (by decide), fun h => absurd h h2⟩
/-- how many of the first bits are set -/
def cbt (w : Int64) : Nat → Nat
  | 0 => 0
  | n + 1 => cbt w n + (if wbt w n = true then 1 else 0)
theorem cbt_le (w : Int64) : ∀ n, cbt w n ≤ n
  | 0 => Nat.le_refl _
  | n + 1 => by
    have := cbt_le w n
    show cbt w n + (if wbt w n = true then 1 else 0) ≤ n + 1
    split <;> omega
theorem cbt_mono {a b : Int64} : ∀ n, (∀ i, i < n → wbt a i = true → wbt b i = true) → cbt a n ≤ cbt b n
  | 0, _ => Nat.le_refl _
  | n + 1, h => by
    have := cbt_mono (a := a) (b := b) n (fun i hi => h i (by omega))
    show cbt a n + (if wbt a n = true then 1 else 0) ≤ cbt b n + (if wbt b n = true then 1 else 0)
    by_cases c : wbt a n = true
    · rw [if_pos c, if_pos (h n (by omega) c)]; omega
    · rw [if_neg c]; omega
theorem cbt_lt {a b : Int64} : ∀ n, (∀ i, i < n → wbt a i = true → wbt b i = true) → ∀ j, j < n → ¬ wbt a j = true → wbt b j = true → cbt a n < cbt b n
  | 0, _, j, hj, _, _ => absurd hj (Nat.not_lt_zero _)
  | n + 1, h, j, hj, h1, h2 => by
    show cbt a n + (if wbt a n = true then 1 else 0) < cbt b n + (if wbt b n = true then 1 else 0)
    by_cases e : j = n
    · subst e
      have := cbt_mono (a := a) (b := b) j (fun i hi => h i (by omega))
      rw [if_neg h1, if_pos h2]; omega
    · have := cbt_lt (a := a) (b := b) n (fun i hi => h i (by omega)) j (by omega) h1 h2
      by_cases c : wbt a n = true
      · rw [if_pos c, if_pos (h n (by omega) c)]; omega
      · rw [if_neg c]; omega
/-- a set that is closed holds all that is listed -/
theorem pst_sub {Q : Nat → Nat → Int32} {C : Nat → Prop} (h1 : ∀ y, C y → ¬ Q 4 y = 0 → C (ix (Q 5 y))) (h2 : ∀ y, C y → Q 4 y = 4 ∨ Q 4 y = 5 → C (ix (Q 6 y))) : ∀ (d n : Nat) (D : List Nat), C n → (∀ y, y ∈ D → C y) → ∀ y, y ∈ pst Q d n D → C y := by
  intro d
  induction d with
  | zero => intro n D _ hD y hy; exact hD y hy
  | succ d ih =>
    intro n D hn hD
    have e1 : ∀ y, y ∈ (if Q 4 n = 0 then D else pst Q d (ix (Q 5 n)) D) → C y := by
      by_cases c : Q 4 n = 0
      · rw [if_pos c]; exact hD
      · rw [if_neg c]; exact ih _ D (h1 n hn c) hD
    intro y hy
    unfold pst at hy
    by_cases c : n ∈ D
    · rw [if_pos c] at hy; exact hD y hy
    · rw [if_neg c] at hy
      rcases List.mem_append.mp hy with w | w
      · by_cases c2 : Q 4 n = 4 ∨ Q 4 n = 5
        · rw [if_pos c2] at w; exact ih _ _ (h2 n hn c2) e1 y w
        · rw [if_neg c2] at w; exact e1 y w
      · rw [List.mem_singleton.mp w]; exact hn
theorem ODr.closed {Q : Nat → Nat → Int32} {D : List Nat} (h : ODr Q D) {y : Nat} (hy : y ∈ D) : (¬ Q 4 y = 0 → ix (Q 5 y) ∈ D) ∧ (Q 4 y = 4 ∨ Q 4 y = 5 → ix (Q 6 y) ∈ D) := by
  obtain ⟨i, hi⟩ := List.getElem?_of_mem hy
  obtain ⟨h1, h2⟩ := h i y hi
  exact ⟨fun e => List.mem_of_mem_take (h1 e), fun e => List.mem_of_mem_take (h2 e)⟩
set_option maxHeartbeats 800000 in
theorem c_below {l : Launch} {k : Kt} {am : Nat → Nat} {H : Nat → Nat → Int32} {U : Nat → Int32} {nn nf x : Nat} {bd rk : Nat → Nat} (okp : okP (FM H) nn nf bd rk) (u1 : U 1 = nI nn) (hx : x < nn) : CT l k yX6_below cX6_below 7 (some .long) 2 [.ref (am 0), .int (nI x)] (WM k am H U) (fun v w' => ∃ w : Int64, v = some (.long w) ∧ w' = WM k am H U ∧ ∀ i, i < nn → (wbt w i = true ↔ i ∈ pst (FM H) 60 x [])) 0 0 := by
  refine ct_of (own := RX6) (lv0 := [(0, .ref (am 0)), (1, .int (nI x))]) (by decide) rfl (Nat.le_of_ble_eq_true rfl) rfl ?_
  rintro z rfl rfl hz - E T
  have hnn := okp.1
  have od : ODr (FM H) (pst (FM H) 60 x []) := pst_od okp 60 x [] (fun i y h => by simp at h) hx (okp.2.2.2.2.1 x hx)
  have hmem : x ∈ pst (FM H) 60 x [] := pst_mem _ 59 x []
  have hsub := fun (C : Nat → Prop) h1 h2 hc => pst_sub (Q := FM H) (C := C) h1 h2 60 x [] hc (fun y hy => absurd hy List.not_mem_nil)
  generalize hD : pst (FM H) 60 x [] = D at *
  obtain ⟨PP, hPP⟩ : ∃ PP : Option Value → va_W → Prop, PP = (fun v w' => ∃ w : Int64, v = some (.long w) ∧ w' = WM (zk z) am H U ∧ ∀ i, i < nn → (wbt w i = true ↔ i ∈ D)) := ⟨_, rfl⟩
  rw [← hPP] at T
  -- one pass
  have pass : ∀ (b9 : Int64) (N i : Nat) (w9 : Int64), nn ≤ i + N → i ≤ nn → (∀ t, t < 64 → wbt w9 t = true → t ∈ D ∧ t < nn) → (∀ t, t < 64 → wbt b9 t = true → wbt w9 t = true) → (∀ t, t < i → wbt b9 t = true → (¬ FM H 4 t = 0 → wbt w9 (ix (FM H 5 t)) = true) ∧ (FM H 4 t = 4 ∨ FM H 4 t = 5 → wbt w9 (ix (FM H 6 t)) = true)) →
      (∀ w9 : Int64, (∀ t, t < 64 → wbt w9 t = true → t ∈ D ∧ t < nn) → (∀ t, t < 64 → wbt b9 t = true → wbt w9 t = true) → (∀ t, t < nn → wbt b9 t = true → (¬ FM H 4 t = 0 → wbt w9 (ix (FM H 5 t)) = true) ∧ (FM H 4 t = 4 ∨ FM H 4 t = 5 → wbt w9 (ix (FM H 6 t)) = true)) → WW z 0 0 (WM (zk z) am H U) 7 [(0, .ref (am 0)), (2, .long w9), (4, .long b9)] []) →
      WW z 0 0 (WM (zk z) am H U) 20 [(0, .ref (am 0)), (2, .long w9), (4, .long b9), (6, .int (nI i))] [] := by
    intro b9 N
    induction N with
    | zero =>
      intro i w9 h1 h2 sd sb cl K
      have e : i = nn := by omega
      subst e
      have ab : U 1 ≤ nI i := by rw [u1]; exact Int32.le_refl _
      exact be_c E T hz (Nat.le_refl 2) w9 b9 (nI i) (fun c => absurd ab c) (fun _ => K w9 sd sb cl) (fun c => absurd ab c) (fun c => absurd ab c) (fun c => absurd ab c) (fun c => absurd ab c)
    | succ N ih =>
      intro i w9 h1 h2 sd sb cl K
      have hlt : ¬ U 1 ≤ nI i → i < nn := fun c => by
        rcases Nat.lt_or_ge i nn with q | q
        · exact q
        · exact absurd (by rw [u1]; exact nI_le q (by omega)) c
      have ei : i < nn → ix (nI i) = i := fun q => ix_nI (by omega)
      have bitc : i < nn → (lg_cmp ((w9 >>> ((nI i).toInt64 &&& 63)) &&& 1) 1 = 0 ↔ wbt w9 i = true) := fun q => by
        rw [wbt_shr w9 (by omega), lcmp0]
        by_cases c : wbt w9 i = true
        · rw [if_pos c]; exact ⟨fun _ => c, fun _ => rfl⟩
        · rw [if_neg c]; exact ⟨fun h => absurd h (by decide), fun h => absurd h c⟩
      -- the next place
      have nx : ∀ (w : Int64), i < nn → (∀ t, t < 64 → wbt w t = true → t ∈ D ∧ t < nn) → (∀ t, t < 64 → wbt w9 t = true → wbt w t = true) → (wbt w9 i = true → (¬ FM H 4 i = 0 → wbt w (ix (FM H 5 i)) = true) ∧ (FM H 4 i = 4 ∨ FM H 4 i = 5 → wbt w (ix (FM H 6 i)) = true)) → WW z 0 0 (WM (zk z) am H U) 20 [(0, .ref (am 0)), (2, .long w), (4, .long b9), (6, .int (nI i + 1))] [] := fun w q sd' mo c' => by
        rw [nI_1]
        refine ih (i + 1) w (by omega) (by omega) sd' (fun t ht h => mo t ht (sb t ht h)) (fun t ht h => ?_) K
        have t64 : t < 64 := by omega
        by_cases e : t = i
        · subst e; exact c' (sb t t64 h)
        · obtain ⟨c1, c2⟩ := cl t (by omega) h
          obtain ⟨kd, m, aN, bN, ok⟩ := okp.2.2.2.2.2 t (by omega)
          have kz : nI kd = 0 ↔ kd = 0 := by rw [show (0 : Int32) = nI 0 from rfl, nI_eq (by have := ok.1; omega) (by omega)]
          refine ⟨fun h4 => mo _ ?_ (c1 h4), fun h4 => mo _ ?_ (c2 h4)⟩
          · have k0 : kd ≠ 0 := fun e => h4 (by rw [ok.2.1, e]; rfl)
            have := (ok.2.2.2.2.2.2.2.1 k0).1
            rw [ok.2.2.2.2.2.1, ix_nI (by omega)]; omega
          · have k45 : kd = 4 ∨ kd = 5 := by
              rw [ok.2.1] at h4
              exact h4.elim (fun w => Or.inl ((nI_eq (b := 4) (by have := ok.1; omega) (by decide)).mp w)) (fun w => Or.inr ((nI_eq (b := 5) (by have := ok.1; omega) (by decide)).mp w))
            have := (ok.2.2.2.2.2.2.2.2.1 k45)
            rw [this.2.1, ix_nI (by omega)]; omega
      have kid : i < nn → wbt w9 i = true → (¬ FM H 4 i = 0 → ∃ y : Nat, y < nn ∧ FM H 5 i = nI y ∧ y ∈ D) ∧ (FM H 4 i = 4 ∨ FM H 4 i = 5 → ∃ y : Nat, y < nn ∧ FM H 6 i = nI y ∧ y ∈ D) := fun q hb => by
        obtain ⟨kd, m, aN, bN, ok⟩ := okp.2.2.2.2.2 i q
        obtain ⟨o1, o2⟩ := od.closed (sd i (by omega) hb).1
        refine ⟨fun h4 => ?_, fun h4 => ?_⟩
        · have k0 : kd ≠ 0 := fun e => h4 (by rw [ok.2.1, e]; rfl)
          have l1 := (ok.2.2.2.2.2.2.2.1 k0).1
          have o := o1 h4
          rw [ok.2.2.2.2.2.1, ix_nI (by omega)] at o
          exact ⟨aN, l1, ok.2.2.2.2.2.1, o⟩
        · have k45 : kd = 4 ∨ kd = 5 := by
            have h4' := h4
            rw [ok.2.1] at h4'
            exact h4'.elim (fun w => Or.inl ((nI_eq (b := 4) (by have := ok.1; omega) (by decide)).mp w)) (fun w => Or.inr ((nI_eq (b := 5) (by have := ok.1; omega) (by decide)).mp w))
          have l1 := ok.2.2.2.2.2.2.2.2.1 k45
          have o := o2 h4
          rw [l1.2.1, ix_nI (by omega)] at o
          exact ⟨bN, l1.1, l1.2.1, o⟩
      have two : ∀ q : i < nn, ¬ fX6_isTwo (H 10 i) = 0 ↔ (FM H 4 i = 4 ∨ FM H 4 i = 5) := fun q => by
        obtain ⟨kd, m, aN, bN, ok⟩ := okp.2.2.2.2.2 i q
        have e : H 10 i = nI kd := ok.2.1
        rw [e, isTwo_n ok.1, ok.2.1]
        exact ⟨fun w => w.elim (fun w => Or.inl (by rw [w]; rfl)) (fun w => Or.inr (by rw [w]; rfl)), fun w => w.elim (fun w => Or.inl ((nI_eq (b := 4) (by have := ok.1; omega) (by decide)).mp w)) (fun w => Or.inr ((nI_eq (b := 5) (by have := ok.1; omega) (by decide)).mp w))⟩
      refine be_c E T hz (Nat.le_refl 2) w9 b9 (nI i) (fun c => by have := hlt c; exact vp_in_nI (by omega) (by decide)) (fun c => ?_) (fun c d => ?_) (fun c d e => ?_) (fun c d e f => ?_) (fun c d e f => ?_)
      · rw [u1, nI_leI (by omega) (by omega)] at c
        have e : i = nn := by omega
        exact K w9 sd sb (by rw [← e]; exact cl)
      · have q := hlt c
        exact nx w9 q sd (fun _ _ h => h) (fun h => absurd ((bitc q).mpr h) d)
      · have q := hlt c
        rw [ei q] at e
        have e : FM H 4 i = 0 := e
        exact nx w9 q sd (fun _ _ h => h) (fun h => ⟨fun w => absurd e w, fun w => by rw [e] at w; exact absurd w (by decide)⟩)
      · have q := hlt c
        rw [ei q] at e f ⊢
        have e : ¬ FM H 4 i = 0 := e
        have hb := (bitc q).mp d
        obtain ⟨y, y1, y2, y3⟩ := (kid q hb).1 e
        have y2' : H 11 i = nI y := y2
        rw [y2']
        refine nx _ q (fun t ht h => ?_) (fun t ht h => by rw [wbt_or, h, Bool.true_or]) (fun _ => ⟨fun _ => ?_, fun w => absurd ((two q).mpr w) (fun h => h f)⟩)
        · rw [wbt_or, wbt_one y (by omega) t ht] at h
          by_cases w : wbt w9 t = true
          · exact sd t ht w
          · have : t = y := by simpa [w] using h
            rw [this]; exact ⟨y3, y1⟩
        · rw [y2, ix_nI (by omega), wbt_or, wbt_one y (by omega) y (by omega)]; simp
      · have q := hlt c
        rw [ei q] at e f ⊢
        have e : ¬ FM H 4 i = 0 := e
        have hb := (bitc q).mp d
        have f2 := (two q).mp f
        obtain ⟨y, y1, y2, y3⟩ := (kid q hb).1 e
        obtain ⟨v, v1, v2, v3⟩ := (kid q hb).2 f2
        have y2' : H 11 i = nI y := y2
        have v2' : H 12 i = nI v := v2
        rw [y2', v2']
        refine nx _ q (fun t ht h => ?_) (fun t ht h => by rw [wbt_or, wbt_or, h, Bool.true_or, Bool.true_or]) (fun _ => ⟨fun _ => ?_, fun _ => ?_⟩)
        · rw [wbt_or, wbt_or, wbt_one y (by omega) t ht, wbt_one v (by omega) t ht] at h
          by_cases w : wbt w9 t = true
          · exact sd t ht w
          · by_cases w2 : t = y
            · rw [w2]; exact ⟨y3, y1⟩
            · have : t = v := by simpa [w, w2] using h
              rw [this]; exact ⟨v3, v1⟩
        · rw [y2, ix_nI (by omega), wbt_or, wbt_or, wbt_one y (by omega) y (by omega)]; simp
        · rw [v2, ix_nI (by omega), wbt_or, wbt_one v (by omega) v (by omega)]; simp
  -- the passes
  have main : ∀ (N : Nat) (w9 b9 : Int64), 64 ≤ cbt b9 64 + N → (∀ t, t < 64 → wbt w9 t = true → t ∈ D ∧ t < nn) → wbt w9 x = true → (∀ t, t < 64 → wbt b9 t = true → wbt w9 t = true) → (∀ t, t < nn → wbt b9 t = true → (¬ FM H 4 t = 0 → wbt w9 (ix (FM H 5 t)) = true) ∧ (FM H 4 t = 4 ∨ FM H 4 t = 5 → wbt w9 (ix (FM H 6 t)) = true)) → WW z 0 0 (WM (zk z) am H U) 7 [(0, .ref (am 0)), (2, .long w9), (4, .long b9)] [] := by
    have fin : ∀ (w9 b9 : Int64), w9 = b9 → (∀ t, t < 64 → wbt w9 t = true → t ∈ D ∧ t < nn) → wbt w9 x = true → (∀ t, t < nn → wbt b9 t = true → (¬ FM H 4 t = 0 → wbt w9 (ix (FM H 5 t)) = true) ∧ (FM H 4 t = 4 ∨ FM H 4 t = 5 → wbt w9 (ix (FM H 6 t)) = true)) → PP (some (.long w9)) (WM (zk z) am H U) := by
      intro w9 b9 e sd hw cl
      subst e
      rw [hPP]
      refine ⟨w9, rfl, rfl, fun i hi => ⟨fun h => (sd i (by omega) h).1, fun h => ?_⟩⟩
      have := hsub (fun y => y < nn ∧ wbt w9 y = true) (fun y hy h4 => ?_) (fun y hy h4 => ?_) ⟨hx, hw⟩ i h
      · exact this.2
      · have q := (cl y hy.1 hy.2).1 h4
        obtain ⟨kd, m, aN, bN, ok⟩ := okp.2.2.2.2.2 y hy.1
        have k0 : kd ≠ 0 := fun e => h4 (by rw [ok.2.1, e]; rfl)
        have l1 := (ok.2.2.2.2.2.2.2.1 k0).1
        refine ⟨?_, q⟩
        rw [ok.2.2.2.2.2.1, ix_nI (by omega)]; exact l1
      · have q := (cl y hy.1 hy.2).2 h4
        obtain ⟨kd, m, aN, bN, ok⟩ := okp.2.2.2.2.2 y hy.1
        have k45 : kd = 4 ∨ kd = 5 := by
          have h4' := h4
          rw [ok.2.1] at h4'
          exact h4'.elim (fun w => Or.inl ((nI_eq (b := 4) (by have := ok.1; omega) (by decide)).mp w)) (fun w => Or.inr ((nI_eq (b := 5) (by have := ok.1; omega) (by decide)).mp w))
        have l1 := ok.2.2.2.2.2.2.2.2.1 k45
        refine ⟨?_, q⟩
        rw [l1.2.1, ix_nI (by omega)]; exact l1.1
    intro N
    induction N with
    | zero =>
      intro w9 b9 hN sd hw sb cl
      have e : w9 = b9 := by
        refine wbt_ext (fun i hi => ?_)
        have full : ∀ n, n ≤ 64 → cbt b9 n = n → ∀ i, i < n → wbt b9 i = true := by
          intro n
          induction n with
          | zero => intro _ _ i hi; exact absurd hi (Nat.not_lt_zero _)
          | succ n ih2 =>
            intro hn hc i hi
            have l1 := cbt_le b9 n
            have hc : cbt b9 n + (if wbt b9 n = true then 1 else 0) = n + 1 := hc
            by_cases c : wbt b9 n = true
            · rw [if_pos c] at hc
              rcases Nat.lt_or_ge i n with w | w
              · exact ih2 (by omega) (by omega) i w
              · rw [show i = n by omega]; exact c
            · rw [if_neg c] at hc; omega
        have hb := full 64 (Nat.le_refl _) (by have := cbt_le b9 64; omega) i hi
        rw [hb, sb i hi hb]
      exact be_b E T hz w9 b9 (fun _ => fin w9 b9 e sd hw cl) (fun c => absurd ((lcmp0 _ _).mpr e) c)
    | succ N ih =>
      intro w9 b9 hN sd hw sb cl
      refine be_b E T hz w9 b9 (fun c => fin w9 b9 ((lcmp0 _ _).mp c) sd hw cl) (fun c => ?_)
      have hne : ¬ w9 = b9 := fun e => c ((lcmp0 _ _).mpr e)
      obtain ⟨j, hj, j1, j2⟩ : ∃ j, j < 64 ∧ ¬ wbt b9 j = true ∧ wbt w9 j = true := by
        refine Classical.byContradiction fun w => hne (wbt_ext (fun i hi => ?_))
        by_cases h1 : wbt b9 i = true
        · rw [h1, sb i hi h1]
        · by_cases h2 : wbt w9 i = true
          · exact absurd ⟨i, hi, h1, h2⟩ w
          · rw [Bool.not_eq_true] at h1 h2; rw [h1, h2]
      have lt := cbt_lt 64 sb j hj j1 j2
      refine pass w9 nn 0 w9 (by omega) (Nat.zero_le _) sd (fun _ _ h => h) (fun t ht => absurd ht (Nat.not_lt_zero _)) (fun w' sd' sb' cl' => ?_)
      exact ih w' w9 (by omega) sd' (sb' x (by omega) hw) sb' cl'
  refine be_a E T hz (nI x) ?_
  have e0 : ∀ i : Nat, i < 64 → wbt (0 : Int64) i = false := by decide +kernel
  refine main 64 _ 0 (Nat.le_add_left _ _) (fun t ht h => ?_) ?_ (fun t ht h => ?_) (fun t ht h => ?_)
  · rw [wbt_one x (by omega) t ht] at h
    have : t = x := by simpa using h
    rw [this]; exact ⟨hmem, hx⟩
  · rw [wbt_one x (by omega) x (by omega)]; simp
  · rw [e0 t ht] at h; exact absurd h (by decide)
  · rw [e0 t (by omega)] at h; exact absurd h (by decide)
