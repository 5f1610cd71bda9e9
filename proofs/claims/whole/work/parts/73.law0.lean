/-! THE CLAIM OUT OF ONE WALK OF THE LAW'S BODY. Your part is whole_start (and what it stands on); all else here is the same for every law, but numbers. -/
def R_law : String := "PlanRulesLaw"
def lw_P (b : Addr) (xs : List Int32) (args : Array Value) (s : State) : Prop := args = #[.ref b] ∧ s.IntsAt b xs ∧ xs.length ≤ 3072 ∧ (Jvm.Cond.and given_1 narrow_1).before args s = true
def lw_Q (_ : Array Value) (s : State) (o : Outcome) (t : State) : Prop := o = .returned (some (.int 1)) ∧ Framed s o t [] 600000 7302250
def lw_Z (below : List Frame) (a : Array Value) (s : State) : State → Prop := fun t => ∃ o, t.status = .running ∧ Ended t below o ∧ lw_Q a s o t
/-- the law's own end, with 1 on the stack, nothing written that was there before, its room as the claim has it -/
theorem lw_ret {p : Program} {l : Launch} {e : Env} {s : State} {m : MethodId} {below : List Frame} {meth : Method} {c : Code} {b : Nat} (hx : p.tables.exec = Jvm.exec) (hb : c.code = code) (hr : meth.sig.returnType = ret) (hlocks : meth.locks = false) {pc : Nat} {H : Heap} {ls : Array Slot} (hdg : decode code pc = .ok (.ireturn, 1)) : W p l e room_1 s m #[Value.ref b] below meth c H [] 600000 7302250 (lw_Z below #[Value.ref b] s) (F0 m pc ls [.int 1]) := by
  intro T hT X
  obtain ⟨fs, hret, hrun, hended, hW, hframe⟩ := X.leave (v := some (.int 1)) (hlocks := hlocks) (fun h => by rw [hr] at h; cases h)
  have hmeth' : T.vm.method? m = some meth := X.method'
  refine ⟨T.setFrames fs, ?_, .returned (some (.int 1)), hrun, hended, rfl, ⟨_, rfl⟩, hW, hframe⟩
  jvm_step X.here [X.here.top, hx, hb, hdg, hmeth', hr, ret, narrow_b1]
  (try refine ⟨rfl, ?_⟩); (try refine ⟨rfl, ?_⟩)
  first | (intro acts; rw [hret _ acts rfl rfl rfl]) | rw [hret _ _ rfl rfl rfl]
  exact Steps.refl _
/-- what holds at the law's entry: the machine, the code, the tables' words (any of lw_tbl by 'hts w (by decide +kernel)'), the script of L ints xs at the cell b, what the Statement gives of the start (any of its parts by flat_of_before) -/
def lw_At (p : Program) (s : State) (m : MethodId) (meth : Method) (c : Code) (b L : Nat) (xs : Nat → Int32) : Prop :=
  p.tables.exec = Jvm.exec ∧ c.code = code ∧ meth.sig.returnType = ret ∧ c.maxLocals = 4 ∧ s.vm.findClass R_law = some m.cls ∧ (∀ w ∈ lw_tbl, w.before #[Value.ref b] s = true) ∧ va_X b L xs s s.heap ∧ b < s.heap.size ∧ meth.locks = false ∧ (Jvm.Cond.and given_1 narrow_1).before #[Value.ref b] s = true
/-! THE LAW'S START -/
section LAW0
variable {z : Zt} {cc : ByteArray} {own : String} {cells slots : Nat} {w : va_W} {pc q : Nat} {lv : Lv} {rest : List Value}
theorem r_sld (E : EN z cc own) {b L : Nat} {xs : Nat → Int32} (hX : va_X b L xs (zs z) (zs z).heap) (hbl : b < (zs z).heap.size) (hbA : ¬ zA z b) {i : Int32} (hin : vp_in i L) (hd : decode cc pc = .ok (.iaload, 1)) (hq : pc + 1 = q) (k : WW z cells slots w q lv (.int (xs i.toNatClampNeg) :: rest)) : WW z cells slots w pc lv (.int i :: .ref b :: rest) := by
  subst hq; exact fun H locs ls hP hD hS hl => va_sld E.1 E.2.1 hX hbl hbA hS hin hd (k H locs ls hP hD hS hl)
theorem r_slen (E : EN z cc own) {b L : Nat} {xs : Nat → Int32} (hX : va_X b L xs (zs z) (zs z).heap) (hbl : b < (zs z).heap.size) (hbA : ¬ zA z b) (hd : decode cc pc = .ok (.arraylength, 1)) (hq : pc + 1 = q) (k : WW z cells slots w q lv (.int (nI L) :: rest)) : WW z cells slots w pc lv (.ref b :: rest) := by
  subst hq; exact fun H locs ls hP hD hS hl => va_slen E.1 E.2.1 hX hbl hbA hS hd (k H locs ls hP hD hS hl)
end LAW0
theorem sim_start : SIM G0 V0C 120 G0 V0M := by
  refine ⟨⟨0, 0, fun _ => 0, fun _ => 0, ⟨by omega, by omega, rfl, rfl, ⟨?_, fun i hi => absurd hi (Nat.not_lt_zero _)⟩, fun i _ => ⟨0, by omega, rfl⟩, fun i hi => absurd hi (Nat.not_lt_zero _)⟩, ⟨fun _ _ => rfl, fun _ _ => rfl, fun _ _ => rfl, fun i hi => absurd hi (Nat.not_lt_zero _), fun i hi => absurd hi (Nat.not_lt_zero _)⟩, rfl, rfl, rfl⟩, ⟨rfl, rfl, rfl, rfl, 0, by omega, rfl, rfl, fun h => absurd h (by omega)⟩, Or.inl rfl⟩
  intro i hi
  exact absurd hi (Nat.not_lt_zero _)
def lzz (p : Program) (l : Launch) (e : Env) (s : State) (m : MethodId) (b : Nat) (below : List Frame) (meth : Method) (c : Code) (k : Kt) : Zt := (p, l, e, room_1, s, m, #[Value.ref b], below, meth, c, k, (fun q => s.heap.size ≤ q), 4, lw_Z below #[Value.ref b] s)
set_option maxRecDepth 100000 in
theorem law_up : (Cond.arrayOf (.static RX2 "UPPER" "[I") .int ∈ flatC (Jvm.Cond.and given_1 narrow_1) ∧ Cond.eq (.length (.static RX2 "UPPER" "[I")) (.int (Int32.ofNat 18)) ∈ flatC (Jvm.Cond.and given_1 narrow_1)) ∧ ∀ j : Nat, j < 18 → Cond.eq (.elem (.static RX2 "UPPER" "[I") (.int (Int32.ofNat j))) (.int (uT j)) ∈ flatC (Jvm.Cond.and given_1 narrow_1) := by decide +kernel
set_option maxRecDepth 100000 in
theorem law_lo : (Cond.arrayOf (.static RX2 "LOWER" "[I") .int ∈ flatC (Jvm.Cond.and given_1 narrow_1) ∧ Cond.eq (.length (.static RX2 "LOWER" "[I")) (.int (Int32.ofNat 18)) ∈ flatC (Jvm.Cond.and given_1 narrow_1)) ∧ ∀ j : Nat, j < 18 → Cond.eq (.elem (.static RX2 "LOWER" "[I") (.int (Int32.ofNat j))) (.int (lT j)) ∈ flatC (Jvm.Cond.and given_1 narrow_1) := by decide +kernel
set_option maxRecDepth 100000 in
theorem law_nn : (Cond.arrayOf (.static RX2 "NEW_NODES" "[I") .int ∈ flatC (Jvm.Cond.and given_1 narrow_1) ∧ Cond.eq (.length (.static RX2 "NEW_NODES" "[I")) (.int (Int32.ofNat 18)) ∈ flatC (Jvm.Cond.and given_1 narrow_1)) ∧ ∀ j : Nat, j < 18 → Cond.eq (.elem (.static RX2 "NEW_NODES" "[I") (.int (Int32.ofNat j))) (.int (nT j)) ∈ flatC (Jvm.Cond.and given_1 narrow_1) := by decide +kernel
theorem law_sx {s : State} {b : Nat} {nm : String} {f : Nat → Int32} (hgv : (Jvm.Cond.and given_1 narrow_1).before #[Value.ref b] s = true) (h : (Cond.arrayOf (.static RX2 nm "[I") .int ∈ flatC (Jvm.Cond.and given_1 narrow_1) ∧ Cond.eq (.length (.static RX2 nm "[I")) (.int (Int32.ofNat 18)) ∈ flatC (Jvm.Cond.and given_1 narrow_1)) ∧ ∀ j : Nat, j < 18 → Cond.eq (.elem (.static RX2 nm "[I") (.int (Int32.ofNat j))) (.int (f j)) ∈ flatC (Jvm.Cond.and given_1 narrow_1)) (hl : (Cond.laysStatic RX2 nm "[I").before #[Value.ref b] s = true) (hi : (Cond.initialized RX2).before #[Value.ref b] s = true) : SX1 nm f (fun q => s.heap.size ≤ q) s s.heap := by
  have hs := flat_of_before _ hgv
  have hA : ∀ a : Nat, a < s.heap.size → ¬ (fun q => s.heap.size ≤ q) a := fun a h => Nat.not_le.mpr h
  obtain ⟨t, ht, hT⟩ := va_Tof (N := 18) (f := fun j => .int (f j)) (A := fun q => s.heap.size ≤ q) (by decide) (hs _ h.1.1) (va_eqt (hs _ h.1.2)) (fun j hj => va_eqt (hs _ (h.2 j hj))) hA
  exact ⟨t, va_Zof hl hi ht hA, hT⟩
set_option maxRecDepth 100000 in
theorem law_nx : lw_tbl[83]? = some (Cond.methodLinkNest RX5 11 yX4_init RX5) ∧ lw_tbl[104]? = some (Cond.methodLinkNest RX5 18 yX0_init RX5) ∧ lw_tbl[327]? = some (Cond.methodLinkNest RX0 35 yX5_isMember RX5) ∧ lw_tbl[386]? = some (Cond.methodLinkNest RX1 61 yX5_isMember RX5) := ⟨by rfl, by rfl, by rfl, by rfl⟩
set_option maxRecDepth 100000 in
theorem law_ny : lw_tbl[392]? = some (Cond.methodLinkNest RX1 73 yX5_isSet RX5) ∧ lw_tbl[520]? = some (Cond.methodLinkNest RX3 155 yX5_isIn RX5) ∧ lw_tbl[584]? = some (Cond.methodLinkNest RX2 54 yX5_isIn RX5) ∧ lw_tbl[585]? = some (Cond.methodLinkNest RX2 60 yX5_isWithin RX5) := ⟨by rfl, by rfl, by rfl, by rfl⟩
set_option maxRecDepth 100000 in
theorem law_ls : lw_tbl[577]? = some (Cond.laysStatic RX2 "UPPER" "[I") ∧ lw_tbl[579]? = some (Cond.laysStatic RX2 "LOWER" "[I") ∧ lw_tbl[606]? = some (Cond.laysStatic RX2 "NEW_NODES" "[I") := ⟨by rfl, by rfl, by rfl⟩
theorem law_EN {p : Program} {l : Launch} {e : Env} {s : State} {m : MethodId} {b L : Nat} {xs : Nat → Int32} {below : List Frame} {meth : Method} {c : Code} (C0 : lw_At p s m meth c b L xs) : ∃ k : Kt, EN (lzz p l e s m b below meth c k) cL_law RL := by
  obtain ⟨hx, hb, hr, hml, hown, hts, hX, hbl, hlocks, hgv⟩ := C0
  have htB : ∀ w ∈ TB, w.before #[Value.ref b] s = true := fun w hw => hts w (List.mem_filter.mp hw).1
  obtain ⟨c0, i0, k0⟩ := u_known (C := RX0) (T := TX0) (N := 7) (n := 7) htB uX0 (htB _ w9_103)
  obtain ⟨c1, i1, k1⟩ := u_known (C := RX1) (T := TX1) (N := 12) (n := 12) htB uX1 (htB _ w9_141)
  obtain ⟨c2, i2, k2⟩ := u_known (C := RX2) (T := TX2) (N := 3) (n := 3) htB uX2 (htB _ w9_255)
  obtain ⟨c3, i3, k3⟩ := u_known (C := RX3) (T := TX3) (N := 13) (n := 13) htB uX3 (htB _ w9_205)
  obtain ⟨c4, i4, k4⟩ := u_known (C := RX4) (T := TX4) (N := 3) (n := 3) htB uX4 (htB _ w9_82)
  obtain ⟨c5, i5, k5⟩ := u_known (C := RX5) (T := TX5) (N := 5) (n := 5) htB uX5 (htB _ w9_74)
  obtain ⟨c6, i6, k6⟩ := u_known (C := RX6) (T := TX6) (N := 36) (n := 36) htB uX6 (htB _ w9_660)
  obtain ⟨ai, kA, cA, a1, a2, a3⟩ := Cond.arrayClass_spec (htB _ ar_i)
  obtain ⟨az, kB, cB, b1, b2, b3⟩ := Cond.arrayClass_spec (htB _ ar_z)
  have hini : (Cond.initialized RX2).before #[Value.ref b] s = true := htB _ w9_68
  have tb : ∀ {j : Nat} {w : Cond}, lw_tbl[j]? = some w → w.before #[Value.ref b] s = true := fun h => hts _ (List.mem_of_getElem? h)
  refine ⟨((fun k => if k = 0 then c0 else if k = 1 then c1 else if k = 2 then c2 else if k = 3 then c3 else if k = 4 then c4 else if k = 5 then c5 else c6, fun k => if k = 0 then i0 else if k = 1 then i1 else if k = 2 then i2 else if k = 3 then i3 else if k = 4 then i4 else if k = 5 then i5 else i6), ai, az), hx, hb, hml, hown, htB, ⟨?_, ?_⟩, fun q h => h, ⟨law_sx hgv law_up (tb law_ls.1) hini, law_sx hgv law_lo (tb law_ls.2.1) hini, law_sx hgv law_nn (tb law_ls.2.2) hini⟩, ?_⟩
  · intro k q hq
    match k, hq with
    | 0, hq => cases hq; exact k0
    | 1, hq => cases hq; exact k1
    | 2, hq => cases hq; exact k2
    | 3, hq => cases hq; exact k3
    | 4, hq => cases hq; exact k4
    | 5, hq => cases hq; exact k5
    | 6, hq => cases hq; exact k6
    | k + 7, hq => simp [vwCl] at hq
  · intro k q hq
    match k, hq with
    | 0, hq => cases hq; exact ⟨fun n z => ⟨fun k h => (by cases h), kA, a2, cA, a3⟩, a1⟩
    | 1, hq => cases hq; exact ⟨fun n z => ⟨fun k h => (by cases h), kB, b2, cB, b3⟩, b1⟩
    | k + 2, hq => simp [kT] at hq
  · intro q hq
    simp only [NXl, List.mem_cons, List.not_mem_nil, or_false] at hq
    rcases hq with rfl | rfl | rfl | rfl | rfl | rfl | rfl | rfl
    · exact va_Nw.of rfl (tb law_nx.1)
    · exact va_Nw.of rfl (tb law_nx.2.1)
    · exact va_Nw.of rfl (tb law_nx.2.2.1)
    · exact va_Nw.of rfl (tb law_nx.2.2.2)
    · exact va_Nw.of rfl (tb law_ny.1)
    · exact va_Nw.of rfl (tb law_ny.2.1)
    · exact va_Nw.of rfl (tb law_ny.2.2.1)
    · exact va_Nw.of rfl (tb law_ny.2.2.2)
