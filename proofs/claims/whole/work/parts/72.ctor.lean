/-! MAKING of objects: the constructors -/
section CTOR
variable {z : Zt} {cc : ByteArray} {own : String} {cells slots : Nat} {w : va_W} {pc q : Nat} {lv : Lv} {rest : List Value}
theorem r_obj (E : EN z cc own) {d mx sx idx : Nat} (hR : RR z (d + 1) mx sx) (hL : Cond.methodLink own idx Lib.objectInit ∈ TB) (hi : Cond.instanceMethod Lib.objectInit ∈ TB) (hc : Cond.code Lib.objectInit { data := #[177] } 1 none ∈ TB) {a : Nat} (hcat : (rest.map fun v => v.category).sum ≤ 8) (hd : decode cc pc = .ok (.invokespecial idx, 3)) (hq : pc + 3 = q) (k : WW z cells slots w q lv rest) : WW z cells slots w pc lv (.ref a :: rest) := by
  subst hq
  intro H locs ls hP hD hS hl
  refine W.objInit (rest := rest) E.1 E.2.1 E.2.2.2.1 (E.2.2.2.2.1 _ hL) (E.2.2.2.2.1 _ hi) (E.2.2.2.2.1 _ hc) rfl (hl.1.trans E.2.2.1.symm) rfl hd (by have := hR.1; omega) ?_ (k H locs ls hP hD hS hl)
  have h1 := hR.2.1
  have h2 := lv_room (m := zm z) (pc := pc) (ls := ls) (rest := .ref a :: rest) (st := rest) hcat
  omega
/-- a class that is made by its link -/
def NW (own : String) (idx ci : Nat) (C : String) (T : u_T) (N : Nat) (fs : List Value) : Prop := (∀ w ∈ u_ws C T N, w ∈ TB) ∧ (∃ ty : Nat → FieldType, (∀ k, k < N → parseFieldDescriptor (T k).2.2.1 = some (ty k)) ∧ ∀ j, j < N → defaultValue (ty j) = vp_V fs j) ∧ Cond.classLink own idx C ∈ TB ∧ Cond.instantiable C N ∈ TB ∧ Cond.initialized C ∈ TB ∧ vwCl[ci]? = some (C, T, N)
theorem r_new (E : EN z cc own) {d mx sx idx ci N : Nat} {C : String} {T : u_T} {fs : List Value} (nw : NW own idx ci C T N fs) (hR : RR z d mx sx) (hc : cells + 1 ≤ mx) (hs : slots + N ≤ sx) (hd : decode cc pc = .ok (.new idx, 3)) (hq : pc + 3 = q) (k : ∀ b : Nat, WW z (cells + 1) (slots + N) (w ++ [(b, .inr (ci, fs))]) q lv (.ref b :: rest)) : WW z cells slots w pc lv rest := by
  subst hq
  intro H locs ls hP hD hS hl
  obtain ⟨hu, ⟨ty, hty, hfs⟩, h1, h2, h3, h4⟩ := nw
  exact va_new E.1 E.2.1 E.2.2.2.2.1 hu ty hty E.2.2.2.1 (E.2.2.2.2.1 _ h1) (E.2.2.2.2.1 _ h2) (E.2.2.2.2.1 _ h3) E.2.2.2.2.2.1 hP hD hS E.2.2.2.2.2.2.1 h4 hfs (Nat.le_trans hc hR.2.2.1) (Nat.le_trans hs hR.2.2.2) hd (fun b H1 hP1 hD1 hS1 => k b H1 locs ls hP1 hD1 hS1 hl)
def CI (own : String) (idx : Nat) (y : MethodName) (bytes : ByteArray) (maxL n : Nat) : Prop := (∀ w ∈ [Cond.methodLink own idx y, Cond.instanceMethod y, Cond.initialized y.cls, Cond.code y bytes maxL none], w ∈ TB) ∧ (y.cls ≠ "java/lang/invoke/MethodHandle" ∧ y.cls ≠ "java/lang/invoke/VarHandle" ∧ (parseMethodDescriptor y.desc).map (fun d => d.parameters.length) = some n) ∧ maxL ≤ 20 ∧ y.name = "<init>"
def CIN (own : String) (idx : Nat) (y : MethodName) (bytes : ByteArray) (maxL n : Nat) : Prop := (∀ w ∈ [Cond.instanceMethod y, Cond.initialized y.cls, Cond.code y bytes maxL none], w ∈ TB) ∧ (y.cls ≠ "java/lang/invoke/MethodHandle" ∧ y.cls ≠ "java/lang/invoke/VarHandle" ∧ (parseMethodDescriptor y.desc).map (fun d => d.parameters.length) = some n) ∧ maxL ≤ 20 ∧ y.name = "<init>" ∧ (own, idx, y) ∈ NXl
theorem rI (E : EN z cc own) {idx maxL n d d' mc ms mx sx : Nat} {y : MethodName} {bytes : ByteArray} (cw : CI own idx y bytes maxL n) (hR : RR z d mx sx) {w0 wr : va_W} (hFr : Fr w0 w wr) {b : Nat} (As : List Value) {P : Option Value → va_W → Prop} (hC : CT (zl z) (zk z) y bytes maxL none d' (.ref b :: As) w P mc ms)
    (hdl : d' < d) (hn : As.length = n) {st : List Value} (hst : st = As.reverse ++ .ref b :: rest) (hcat : (rest.map fun v => v.category).sum ≤ 8) (hf : cells + mc ≤ mx ∧ slots + ms ≤ sx) (hd : decode cc pc = .ok (.invokespecial idx, 3)) (k : ∀ (v : Option Value) (w' : va_W), P v w' → WW z (cells + mc) (slots + ms) (wr ++ w') (pc + 3) lv (v.toList ++ rest)) : WW z cells slots w0 pc lv st := by
  intro H locs ls hP hD hS hl
  obtain ⟨hw, hdd, hmx, hni⟩ := cw
  refine core_call E hFr hP hD hS hl (va_runI (As := As) (rest := rest) ⟨E.1, E.2.1, E.2.2.1, E.2.2.2.1, E.2.2.2.2.1⟩ (hC H.size) (cwI n E.2.2.2.2.1 (good_cons (hw _ (by simp))) rfl rfl rfl (E.2.2.2.2.1 _ (hw _ (by simp))) (E.2.2.2.2.1 _ (hw _ (by simp))) (E.2.2.2.2.1 _ (hw _ (by simp))) hni hdd ⟨?_, ?_⟩) ⟨ctP_blind, ctP_at E hFr hP hD hS⟩ rfl hn hl.1 hst (lv_room hcat) hd ⟨Nat.le_trans hf.1 hR.2.2.1, Nat.le_trans hf.2 hR.2.2.2⟩) k
  · show d' + 1 ≤ _
    have := hR.1; omega
  · show 8 + (maxL + 11) + 40 * d' ≤ _
    have := hR.2.1; omega
theorem rIN (E : EN z cc own) {idx maxL n d d' mc ms mx sx : Nat} {y : MethodName} {bytes : ByteArray} (cw : CIN own idx y bytes maxL n) (hR : RR z d mx sx) {w0 wr : va_W} (hFr : Fr w0 w wr) {b : Nat} (As : List Value) {P : Option Value → va_W → Prop} (hC : CT (zl z) (zk z) y bytes maxL none d' (.ref b :: As) w P mc ms)
    (hdl : d' < d) (hn : As.length = n) {st : List Value} (hst : st = As.reverse ++ .ref b :: rest) (hcat : (rest.map fun v => v.category).sum ≤ 8) (hf : cells + mc ≤ mx ∧ slots + ms ≤ sx) (hd : decode cc pc = .ok (.invokespecial idx, 3)) (k : ∀ (v : Option Value) (w' : va_W), P v w' → WW z (cells + mc) (slots + ms) (wr ++ w') (pc + 3) lv (v.toList ++ rest)) : WW z cells slots w0 pc lv st := by
  intro H locs ls hP hD hS hl
  obtain ⟨hw, hdd, hmx, hni, hN⟩ := cw
  refine core_call E hFr hP hD hS hl (va_runIN (As := As) (rest := rest) (host := RX5) ⟨E.1, E.2.1, E.2.2.1, E.2.2.2.1, E.2.2.2.2.1⟩ (hC H.size) ⟨va_cnB n E.2.2.2.2.1 (good_cons (hw _ (by simp))) rfl rfl rfl (E.2.2.2.2.2.2.2.2 _ hN) (E.2.2.2.2.1 _ (hw _ (by simp))) hdd ⟨?_, ?_⟩, hni, E.2.2.2.2.1 _ (hw _ (by simp))⟩ ⟨ctP_blind, ctP_at E hFr hP hD hS⟩ rfl hn hl.1 hst (lv_room hcat) hd ⟨Nat.le_trans hf.1 hR.2.2.1, Nat.le_trans hf.2 hR.2.2.2⟩) k
  · show d' + 1 ≤ _
    have := hR.1; omega
  · show 8 + (maxL + 11) + 40 * d' ≤ _
    have := hR.2.1; omega
end CTOR
set_option maxRecDepth 100000 in
theorem w9_79 : Cond.instanceMethod Lib.objectInit ∈ TB := TB_mem 79 (by rfl) (by rfl)
set_option maxRecDepth 100000 in
theorem w9_80 : Cond.code Lib.objectInit { data := #[177] } 1 none ∈ TB := TB_mem 80 (by rfl) (by rfl)
set_option maxRecDepth 100000 in
theorem w9_86 : Cond.methodLink RX4 3 Lib.objectInit ∈ TB := TB_mem 86 (by rfl) (by rfl)
set_option maxRecDepth 100000 in
theorem w9_107 : Cond.methodLink RX0 3 Lib.objectInit ∈ TB := TB_mem 107 (by rfl) (by rfl)
set_option maxRecDepth 100000 in
theorem w9_145 : Cond.methodLink RX1 1 Lib.objectInit ∈ TB := TB_mem 145 (by rfl) (by rfl)
set_option maxRecDepth 100000 in
theorem w9_209 : Cond.methodLink RX3 5 Lib.objectInit ∈ TB := TB_mem 209 (by rfl) (by rfl)
set_option maxRecDepth 100000 in
theorem w9_259 : Cond.methodLink RX2 1 Lib.objectInit ∈ TB := TB_mem 259 (by rfl) (by rfl)
set_option maxRecDepth 100000 in
theorem w9_78 : Cond.methodLink RX5 3 Lib.objectInit ∈ TB := TB_mem 78 (by rfl) (by rfl)
set_option maxRecDepth 100000 in
theorem w9_81 : Cond.classLink RX5 9 RX4 ∈ TB := TB_mem 81 (by rfl) (by rfl)
set_option maxRecDepth 100000 in
theorem w9_82 : Cond.instantiable RX4 3 ∈ TB := TB_mem 82 (by rfl) (by rfl)
set_option maxRecDepth 100000 in
theorem w9_64 : Cond.initialized RX4 ∈ TB := TB_mem 64 (by rfl) (by rfl)
set_option maxRecDepth 100000 in
theorem w9_84 : Cond.instanceMethod yX4_init ∈ TB := TB_mem 84 (by rfl) (by rfl)
set_option maxRecDepth 100000 in
theorem w9_85 : Cond.code yX4_init cX4_init 1 none ∈ TB := TB_mem 85 (by rfl) (by rfl)
set_option maxRecDepth 100000 in
theorem w9_102 : Cond.classLink RX5 16 RX0 ∈ TB := TB_mem 102 (by rfl) (by rfl)
set_option maxRecDepth 100000 in
theorem w9_103 : Cond.instantiable RX0 7 ∈ TB := TB_mem 103 (by rfl) (by rfl)
set_option maxRecDepth 100000 in
theorem w9_65 : Cond.initialized RX0 ∈ TB := TB_mem 65 (by rfl) (by rfl)
set_option maxRecDepth 100000 in
theorem w9_105 : Cond.instanceMethod yX0_init ∈ TB := TB_mem 105 (by rfl) (by rfl)
set_option maxRecDepth 100000 in
theorem w9_106 : Cond.code yX0_init cX0_init 1 none ∈ TB := TB_mem 106 (by rfl) (by rfl)
set_option maxRecDepth 100000 in
theorem w9_140 : Cond.classLink RX5 23 RX1 ∈ TB := TB_mem 140 (by rfl) (by rfl)
set_option maxRecDepth 100000 in
theorem w9_141 : Cond.instantiable RX1 12 ∈ TB := TB_mem 141 (by rfl) (by rfl)
set_option maxRecDepth 100000 in
theorem w9_66 : Cond.initialized RX1 ∈ TB := TB_mem 66 (by rfl) (by rfl)
set_option maxRecDepth 100000 in
theorem w9_142 : Cond.methodLink RX5 25 yX1_init ∈ TB := TB_mem 142 (by rfl) (by rfl)
set_option maxRecDepth 100000 in
theorem w9_143 : Cond.instanceMethod yX1_init ∈ TB := TB_mem 143 (by rfl) (by rfl)
set_option maxRecDepth 100000 in
theorem w9_144 : Cond.code yX1_init cX1_init 2 none ∈ TB := TB_mem 144 (by rfl) (by rfl)
set_option maxRecDepth 100000 in
theorem w9_204 : Cond.classLink RX5 32 RX3 ∈ TB := TB_mem 204 (by rfl) (by rfl)
set_option maxRecDepth 100000 in
theorem w9_205 : Cond.instantiable RX3 13 ∈ TB := TB_mem 205 (by rfl) (by rfl)
set_option maxRecDepth 100000 in
theorem w9_67 : Cond.initialized RX3 ∈ TB := TB_mem 67 (by rfl) (by rfl)
set_option maxRecDepth 100000 in
theorem w9_206 : Cond.methodLink RX5 34 yX3_init ∈ TB := TB_mem 206 (by rfl) (by rfl)
set_option maxRecDepth 100000 in
theorem w9_207 : Cond.instanceMethod yX3_init ∈ TB := TB_mem 207 (by rfl) (by rfl)
set_option maxRecDepth 100000 in
theorem w9_208 : Cond.code yX3_init cX3_init 4 none ∈ TB := TB_mem 208 (by rfl) (by rfl)
set_option maxRecDepth 100000 in
theorem w9_254 : Cond.classLink RX5 41 RX2 ∈ TB := TB_mem 254 (by rfl) (by rfl)
set_option maxRecDepth 100000 in
theorem w9_255 : Cond.instantiable RX2 3 ∈ TB := TB_mem 255 (by rfl) (by rfl)
set_option maxRecDepth 100000 in
theorem w9_68 : Cond.initialized RX2 ∈ TB := TB_mem 68 (by rfl) (by rfl)
set_option maxRecDepth 100000 in
theorem w9_256 : Cond.methodLink RX5 43 yX2_init ∈ TB := TB_mem 256 (by rfl) (by rfl)
set_option maxRecDepth 100000 in
theorem w9_257 : Cond.instanceMethod yX2_init ∈ TB := TB_mem 257 (by rfl) (by rfl)
set_option maxRecDepth 100000 in
theorem w9_258 : Cond.code yX2_init cX2_init 3 none ∈ TB := TB_mem 258 (by rfl) (by rfl)
set_option maxRecDepth 100000 in
theorem w9_664 : Cond.methodLink RX6 1 Lib.objectInit ∈ TB := TB_mem 664 (by rfl) (by rfl)
set_option maxRecDepth 100000 in
theorem w9_73 : Cond.classLink RL 7 RX5 ∈ TB := TB_mem 73 (by rfl) (by rfl)
set_option maxRecDepth 100000 in
theorem w9_74 : Cond.instantiable RX5 5 ∈ TB := TB_mem 74 (by rfl) (by rfl)
set_option maxRecDepth 100000 in
theorem w9_63 : Cond.initialized RX5 ∈ TB := TB_mem 63 (by rfl) (by rfl)
set_option maxRecDepth 100000 in
theorem w9_659 : Cond.classLink RL 10 RX6 ∈ TB := TB_mem 659 (by rfl) (by rfl)
set_option maxRecDepth 100000 in
theorem w9_660 : Cond.instantiable RX6 36 ∈ TB := TB_mem 660 (by rfl) (by rfl)
set_option maxRecDepth 100000 in
theorem w9_69 : Cond.initialized RX6 ∈ TB := TB_mem 69 (by rfl) (by rfl)
set_option maxRecDepth 100000 in
theorem w9_75 : Cond.methodLink RL 9 yX5_init ∈ TB := TB_mem 75 (by rfl) (by rfl)
set_option maxRecDepth 100000 in
theorem w9_76 : Cond.instanceMethod yX5_init ∈ TB := TB_mem 76 (by rfl) (by rfl)
set_option maxRecDepth 100000 in
theorem w9_77 : Cond.code yX5_init cX5_init 1 none ∈ TB := TB_mem 77 (by rfl) (by rfl)
set_option maxRecDepth 100000 in
theorem w9_661 : Cond.methodLink RL 12 yX6_init ∈ TB := TB_mem 661 (by rfl) (by rfl)
set_option maxRecDepth 100000 in
theorem w9_662 : Cond.instanceMethod yX6_init ∈ TB := TB_mem 662 (by rfl) (by rfl)
set_option maxRecDepth 100000 in
theorem w9_663 : Cond.code yX6_init cX6_init 1 none ∈ TB := TB_mem 663 (by rfl) (by rfl)
theorem nwX5_9 : NW RX5 9 4 RX4 TX4 3 [.null, .null, .null] := ⟨uX4, ⟨tyX4, tyX4_ok, fun j hj => by rcases (show j = 0 ∨ j = 1 ∨ j = 2 by omega) with rfl | rfl | rfl <;> rfl⟩, w9_81, w9_82, w9_64, rfl⟩
theorem ciX5_11 : CIN RX5 11 yX4_init cX4_init 1 0 := by
  refine ⟨?_, by decide +kernel, by decide, by decide, by decide +kernel⟩
  intro w hw
  simp only [List.mem_cons, List.not_mem_nil, or_false] at hw
  rcases hw with rfl | rfl | rfl
  · exact w9_84
  · exact w9_64
  · exact w9_85
theorem nwX5_16 : NW RX5 16 0 RX0 TX0 7 [.null, .null, .null, .null, .null, .null, .int 0] := ⟨uX0, ⟨tyX0, tyX0_ok, fun j hj => by rcases (show j = 0 ∨ j = 1 ∨ j = 2 ∨ j = 3 ∨ j = 4 ∨ j = 5 ∨ j = 6 by omega) with rfl | rfl | rfl | rfl | rfl | rfl | rfl <;> rfl⟩, w9_102, w9_103, w9_65, rfl⟩
theorem ciX5_18 : CIN RX5 18 yX0_init cX0_init 1 0 := by
  refine ⟨?_, by decide +kernel, by decide, by decide, by decide +kernel⟩
  intro w hw
  simp only [List.mem_cons, List.not_mem_nil, or_false] at hw
  rcases hw with rfl | rfl | rfl
  · exact w9_105
  · exact w9_65
  · exact w9_106
theorem nwX5_23 : NW RX5 23 1 RX1 TX1 12 [.null, .null, .null, .null, .null, .null, .null, .null, .int 0, .null, .null, .null] := ⟨uX1, ⟨tyX1, tyX1_ok, fun j hj => by rcases (show j = 0 ∨ j = 1 ∨ j = 2 ∨ j = 3 ∨ j = 4 ∨ j = 5 ∨ j = 6 ∨ j = 7 ∨ j = 8 ∨ j = 9 ∨ j = 10 ∨ j = 11 by omega) with rfl | rfl | rfl | rfl | rfl | rfl | rfl | rfl | rfl | rfl | rfl | rfl <;> rfl⟩, w9_140, w9_141, w9_66, rfl⟩
theorem ciX5_25 : CI RX5 25 yX1_init cX1_init 2 1 := by
  refine ⟨?_, by decide +kernel, by decide, by decide⟩
  intro w hw
  simp only [List.mem_cons, List.not_mem_nil, or_false] at hw
  rcases hw with rfl | rfl | rfl | rfl
  · exact w9_142
  · exact w9_143
  · exact w9_66
  · exact w9_144
theorem nwX5_32 : NW RX5 32 3 RX3 TX3 13 [.null, .null, .null, .null, .int 0, .null, .null, .int 0, .int 0, .int 0, .int 0, .int 0, .int 0] := ⟨uX3, ⟨tyX3, tyX3_ok, fun j hj => by rcases (show j = 0 ∨ j = 1 ∨ j = 2 ∨ j = 3 ∨ j = 4 ∨ j = 5 ∨ j = 6 ∨ j = 7 ∨ j = 8 ∨ j = 9 ∨ j = 10 ∨ j = 11 ∨ j = 12 by omega) with rfl | rfl | rfl | rfl | rfl | rfl | rfl | rfl | rfl | rfl | rfl | rfl | rfl <;> rfl⟩, w9_204, w9_205, w9_67, rfl⟩
theorem ciX5_34 : CI RX5 34 yX3_init cX3_init 4 3 := by
  refine ⟨?_, by decide +kernel, by decide, by decide⟩
  intro w hw
  simp only [List.mem_cons, List.not_mem_nil, or_false] at hw
  rcases hw with rfl | rfl | rfl | rfl
  · exact w9_206
  · exact w9_207
  · exact w9_67
  · exact w9_208
theorem nwX5_41 : NW RX5 41 2 RX2 TX2 3 [.null, .null, .int 0] := ⟨uX2, ⟨tyX2, tyX2_ok, fun j hj => by rcases (show j = 0 ∨ j = 1 ∨ j = 2 by omega) with rfl | rfl | rfl <;> rfl⟩, w9_254, w9_255, w9_68, rfl⟩
theorem ciX5_43 : CI RX5 43 yX2_init cX2_init 3 2 := by
  refine ⟨?_, by decide +kernel, by decide, by decide⟩
  intro w hw
  simp only [List.mem_cons, List.not_mem_nil, or_false] at hw
  rcases hw with rfl | rfl | rfl | rfl
  · exact w9_256
  · exact w9_257
  · exact w9_68
  · exact w9_258
theorem nwL_7 : NW RL 7 5 RX5 TX5 5 [.null, .null, .null, .null, .null] := ⟨uX5, ⟨tyX5, tyX5_ok, fun j hj => by rcases (show j = 0 ∨ j = 1 ∨ j = 2 ∨ j = 3 ∨ j = 4 by omega) with rfl | rfl | rfl | rfl | rfl <;> rfl⟩, w9_73, w9_74, w9_63, rfl⟩
theorem nwL_10 : NW RL 10 6 RX6 TX6 36 [.null, .null, .null, .int 0, .null, .null, .null, .null, .null, .null, .int 0, .null, .null, .null, .null, .null, .int 0, .null, .null, .null, .null, .int 0, .int 0, .int 0, .int 0, .null, .null, .null, .null, .null, .null, .int 0, .int 0, .int 0, .int 0, .int 0] := ⟨uX6, ⟨tyX6, tyX6_ok, fun j hj => by rcases (show j = 0 ∨ j = 1 ∨ j = 2 ∨ j = 3 ∨ j = 4 ∨ j = 5 ∨ j = 6 ∨ j = 7 ∨ j = 8 ∨ j = 9 ∨ j = 10 ∨ j = 11 ∨ j = 12 ∨ j = 13 ∨ j = 14 ∨ j = 15 ∨ j = 16 ∨ j = 17 ∨ j = 18 ∨ j = 19 ∨ j = 20 ∨ j = 21 ∨ j = 22 ∨ j = 23 ∨ j = 24 ∨ j = 25 ∨ j = 26 ∨ j = 27 ∨ j = 28 ∨ j = 29 ∨ j = 30 ∨ j = 31 ∨ j = 32 ∨ j = 33 ∨ j = 34 ∨ j = 35 by omega) with rfl | rfl | rfl | rfl | rfl | rfl | rfl | rfl | rfl | rfl | rfl | rfl | rfl | rfl | rfl | rfl | rfl | rfl | rfl | rfl | rfl | rfl | rfl | rfl | rfl | rfl | rfl | rfl | rfl | rfl | rfl | rfl | rfl | rfl | rfl | rfl <;> rfl⟩, w9_659, w9_660, w9_69, rfl⟩
theorem ciL_9 : CI RL 9 yX5_init cX5_init 1 0 := by
  refine ⟨?_, by decide +kernel, by decide, by decide⟩
  intro w hw
  simp only [List.mem_cons, List.not_mem_nil, or_false] at hw
  rcases hw with rfl | rfl | rfl | rfl
  · exact w9_75
  · exact w9_76
  · exact w9_63
  · exact w9_77
theorem ciL_12 : CI RL 12 yX6_init cX6_init 1 0 := by
  refine ⟨?_, by decide +kernel, by decide, by decide⟩
  intro w hw
  simp only [List.mem_cons, List.not_mem_nil, or_false] at hw
  rcases hw with rfl | rfl | rfl | rfl
  · exact w9_661
  · exact w9_662
  · exact w9_69
  · exact w9_663
set_option maxRecDepth 100000 in
set_option maxHeartbeats 800000 in
theorem c_X4_init {l : Launch} {k : Kt} (a : Nat) : CT l k yX4_init cX4_init 1 none 1 [.ref a] [(a, .inr (4, [.null, .null, .null]))] (fun v w' => v = none ∧ ∃ b1 b2 b3 : Nat, w' = [(a, .inr (4, [.ref b1, .ref b2, .ref b3])), (b1, .inl (k.2.1, 72, .inl (fun _ => 0))), (b2, .inl (k.2.1, 4, .inl (fun _ => 0))), (b3, .inl (k.2.1, 8, .inl (fun _ => 0)))]) 3 84 := by
  refine ct_of (own := RX4) (lv0 := [(0, .ref a)]) (by decide) rfl (Nat.le_of_ble_eq_true rfl) rfl ?_
  rintro z rfl rfl hz hin E T
  refine r_aload_n E (q := 1) 0 dX4_init_0 rfl rfl rfl ?_
  refine r_obj E (q := 4) T.rr w9_86 w9_79 w9_80 (Nat.le_of_ble_eq_true rfl) dX4_init_1 rfl ?_
  refine r_aload_n E (q := 5) 0 dX4_init_4 rfl rfl rfl ?_
  refine r_bipush E (q := 7) (v := 72) dX4_init_5 (by decide) rfl ?_
  refine r_newi E (q := 9) T.rr (N := 72) (by decide) (by decide) (Nat.le_of_ble_eq_true rfl) (Nat.le_of_ble_eq_true rfl) dX4_init_7 rfl (fun b1 => ?_)
  refine r_putF E (q := 12) pX4_11 rfl (hin rfl) rfl 0 rfl rfl rfl (Nat.le_of_ble_eq_true rfl) (w' := [(a, .inr (4, [.ref b1, .null, .null])), (b1, .inl ((zk z).2.1, 72, .inl (fun _ => 0)))]) rfl dX4_init_9 rfl ?_
  refine r_aload_n E (q := 13) 0 dX4_init_12 rfl rfl rfl ?_
  refine r_iconst E (q := 14) (v := 4) dX4_init_13 (by decide) rfl ?_
  refine r_newi E (q := 16) T.rr (N := 4) (by decide) (by decide) (Nat.le_of_ble_eq_true rfl) (Nat.le_of_ble_eq_true rfl) dX4_init_14 rfl (fun b2 => ?_)
  refine r_putF E (q := 19) pX4_15 rfl (hin rfl) rfl 0 rfl rfl rfl (Nat.le_of_ble_eq_true rfl) (w' := [(a, .inr (4, [.ref b1, .ref b2, .null])), (b1, .inl ((zk z).2.1, 72, .inl (fun _ => 0))), (b2, .inl ((zk z).2.1, 4, .inl (fun _ => 0)))]) rfl dX4_init_16 rfl ?_
  refine r_aload_n E (q := 20) 0 dX4_init_19 rfl rfl rfl ?_
  refine r_bipush E (q := 22) (v := 8) dX4_init_20 (by decide) rfl ?_
  refine r_newi E (q := 24) T.rr (N := 8) (by decide) (by decide) (Nat.le_of_ble_eq_true rfl) (Nat.le_of_ble_eq_true rfl) dX4_init_22 rfl (fun b3 => ?_)
  refine r_putF E (q := 27) pX4_18 rfl (hin rfl) rfl 0 rfl rfl rfl (Nat.le_of_ble_eq_true rfl) (w' := [(a, .inr (4, [.ref b1, .ref b2, .ref b3])), (b1, .inl ((zk z).2.1, 72, .inl (fun _ => 0))), (b2, .inl ((zk z).2.1, 4, .inl (fun _ => 0))), (b3, .inl ((zk z).2.1, 8, .inl (fun _ => 0)))]) rfl dX4_init_24 rfl ?_
  refine r_widen (c2 := 3) (s2 := 84) (Nat.le_of_ble_eq_true rfl) (Nat.le_of_ble_eq_true rfl) ?_
  exact r_vret E T dX4_init_27 ⟨rfl, b1, b2, b3, rfl⟩
set_option maxRecDepth 100000 in
set_option maxHeartbeats 800000 in
theorem c_X0_init {l : Launch} {k : Kt} (a : Nat) : CT l k yX0_init cX0_init 1 none 1 [.ref a] [(a, .inr (0, [.null, .null, .null, .null, .null, .null, .int 0]))] (fun v w' => v = none ∧ ∃ b1 b2 b3 b4 b5 b6 : Nat, w' = [(a, .inr (0, [.ref b1, .ref b2, .ref b3, .ref b4, .ref b5, .ref b6, .int 0])), (b1, .inl (k.2.1, 40, .inl (fun _ => 0))), (b2, .inl (k.2.1, 40, .inl (fun _ => 0))), (b3, .inl (k.2.1, 40, .inl (fun _ => 0))), (b4, .inl (k.2.1, 40, .inl (fun _ => 0))), (b5, .inl (k.2.1, 40, .inl (fun _ => 0))), (b6, .inl (k.2.2, 40, .inl (fun _ => 0)))]) 6 240 := by
  refine ct_of (own := RX0) (lv0 := [(0, .ref a)]) (by decide) rfl (Nat.le_of_ble_eq_true rfl) rfl ?_
  rintro z rfl rfl hz hin E T
  refine r_aload_n E (q := 1) 0 dX0_init_0 rfl rfl rfl ?_
  refine r_obj E (q := 4) T.rr w9_107 w9_79 w9_80 (Nat.le_of_ble_eq_true rfl) dX0_init_1 rfl ?_
  refine r_aload_n E (q := 5) 0 dX0_init_4 rfl rfl rfl ?_
  refine r_bipush E (q := 7) (v := 40) dX0_init_5 (by decide) rfl ?_
  refine r_newi E (q := 9) T.rr (N := 40) (by decide) (by decide) (Nat.le_of_ble_eq_true rfl) (Nat.le_of_ble_eq_true rfl) dX0_init_7 rfl (fun b1 => ?_)
  refine r_putF E (q := 12) pX0_11 rfl (hin rfl) rfl 0 rfl rfl rfl (Nat.le_of_ble_eq_true rfl) (w' := [(a, .inr (0, [.ref b1, .null, .null, .null, .null, .null, .int 0])), (b1, .inl ((zk z).2.1, 40, .inl (fun _ => 0)))]) rfl dX0_init_9 rfl ?_
  refine r_aload_n E (q := 13) 0 dX0_init_12 rfl rfl rfl ?_
  refine r_bipush E (q := 15) (v := 40) dX0_init_13 (by decide) rfl ?_
  refine r_newi E (q := 17) T.rr (N := 40) (by decide) (by decide) (Nat.le_of_ble_eq_true rfl) (Nat.le_of_ble_eq_true rfl) dX0_init_15 rfl (fun b2 => ?_)
  refine r_putF E (q := 20) pX0_15 rfl (hin rfl) rfl 0 rfl rfl rfl (Nat.le_of_ble_eq_true rfl) (w' := [(a, .inr (0, [.ref b1, .ref b2, .null, .null, .null, .null, .int 0])), (b1, .inl ((zk z).2.1, 40, .inl (fun _ => 0))), (b2, .inl ((zk z).2.1, 40, .inl (fun _ => 0)))]) rfl dX0_init_17 rfl ?_
  refine r_aload_n E (q := 21) 0 dX0_init_20 rfl rfl rfl ?_
  refine r_bipush E (q := 23) (v := 40) dX0_init_21 (by decide) rfl ?_
  refine r_newi E (q := 25) T.rr (N := 40) (by decide) (by decide) (Nat.le_of_ble_eq_true rfl) (Nat.le_of_ble_eq_true rfl) dX0_init_23 rfl (fun b3 => ?_)
  refine r_putF E (q := 28) pX0_18 rfl (hin rfl) rfl 0 rfl rfl rfl (Nat.le_of_ble_eq_true rfl) (w' := [(a, .inr (0, [.ref b1, .ref b2, .ref b3, .null, .null, .null, .int 0])), (b1, .inl ((zk z).2.1, 40, .inl (fun _ => 0))), (b2, .inl ((zk z).2.1, 40, .inl (fun _ => 0))), (b3, .inl ((zk z).2.1, 40, .inl (fun _ => 0)))]) rfl dX0_init_25 rfl ?_
  refine r_aload_n E (q := 29) 0 dX0_init_28 rfl rfl rfl ?_
  refine r_bipush E (q := 31) (v := 40) dX0_init_29 (by decide) rfl ?_
  refine r_newi E (q := 33) T.rr (N := 40) (by decide) (by decide) (Nat.le_of_ble_eq_true rfl) (Nat.le_of_ble_eq_true rfl) dX0_init_31 rfl (fun b4 => ?_)
  refine r_putF E (q := 36) pX0_21 rfl (hin rfl) rfl 0 rfl rfl rfl (Nat.le_of_ble_eq_true rfl) (w' := [(a, .inr (0, [.ref b1, .ref b2, .ref b3, .ref b4, .null, .null, .int 0])), (b1, .inl ((zk z).2.1, 40, .inl (fun _ => 0))), (b2, .inl ((zk z).2.1, 40, .inl (fun _ => 0))), (b3, .inl ((zk z).2.1, 40, .inl (fun _ => 0))), (b4, .inl ((zk z).2.1, 40, .inl (fun _ => 0)))]) rfl dX0_init_33 rfl ?_
  refine r_aload_n E (q := 37) 0 dX0_init_36 rfl rfl rfl ?_
  refine r_bipush E (q := 39) (v := 40) dX0_init_37 (by decide) rfl ?_
  refine r_newi E (q := 41) T.rr (N := 40) (by decide) (by decide) (Nat.le_of_ble_eq_true rfl) (Nat.le_of_ble_eq_true rfl) dX0_init_39 rfl (fun b5 => ?_)
  refine r_putF E (q := 44) pX0_24 rfl (hin rfl) rfl 0 rfl rfl rfl (Nat.le_of_ble_eq_true rfl) (w' := [(a, .inr (0, [.ref b1, .ref b2, .ref b3, .ref b4, .ref b5, .null, .int 0])), (b1, .inl ((zk z).2.1, 40, .inl (fun _ => 0))), (b2, .inl ((zk z).2.1, 40, .inl (fun _ => 0))), (b3, .inl ((zk z).2.1, 40, .inl (fun _ => 0))), (b4, .inl ((zk z).2.1, 40, .inl (fun _ => 0))), (b5, .inl ((zk z).2.1, 40, .inl (fun _ => 0)))]) rfl dX0_init_41 rfl ?_
  refine r_aload_n E (q := 45) 0 dX0_init_44 rfl rfl rfl ?_
  refine r_bipush E (q := 47) (v := 40) dX0_init_45 (by decide) rfl ?_
  refine r_newz E (q := 49) T.rr (N := 40) (by decide) (by decide) (Nat.le_of_ble_eq_true rfl) (Nat.le_of_ble_eq_true rfl) dX0_init_47 rfl (fun b6 => ?_)
  refine r_putF E (q := 52) pX0_27 rfl (hin rfl) rfl 0 rfl rfl rfl (Nat.le_of_ble_eq_true rfl) (w' := [(a, .inr (0, [.ref b1, .ref b2, .ref b3, .ref b4, .ref b5, .ref b6, .int 0])), (b1, .inl ((zk z).2.1, 40, .inl (fun _ => 0))), (b2, .inl ((zk z).2.1, 40, .inl (fun _ => 0))), (b3, .inl ((zk z).2.1, 40, .inl (fun _ => 0))), (b4, .inl ((zk z).2.1, 40, .inl (fun _ => 0))), (b5, .inl ((zk z).2.1, 40, .inl (fun _ => 0))), (b6, .inl ((zk z).2.2, 40, .inl (fun _ => 0)))]) rfl dX0_init_49 rfl ?_
  refine r_widen (c2 := 6) (s2 := 240) (Nat.le_of_ble_eq_true rfl) (Nat.le_of_ble_eq_true rfl) ?_
  exact r_vret E T dX0_init_52 ⟨rfl, b1, b2, b3, b4, b5, b6, rfl⟩
set_option maxRecDepth 100000 in
set_option maxHeartbeats 800000 in
theorem c_X1_init {l : Launch} {k : Kt} (a f : Nat) : CT l k yX1_init cX1_init 2 none 1 [.ref a, .ref f] [(a, .inr (1, [.null, .null, .null, .null, .null, .null, .null, .null, .int 0, .null, .null, .null]))] (fun v w' => v = none ∧ ∃ b1 b2 b3 b4 b5 b6 b7 b8 b9 b10 : Nat, w' = [(a, .inr (1, [.ref f, .ref b1, .ref b2, .ref b3, .ref b4, .ref b5, .ref b6, .ref b7, .int 0, .ref b8, .ref b9, .ref b10])), (b1, .inl (k.2.1, 60, .inl (fun _ => 0))), (b2, .inl (k.2.1, 60, .inl (fun _ => 0))), (b3, .inl (k.2.1, 60, .inl (fun _ => 0))), (b4, .inl (k.2.1, 60, .inl (fun _ => 0))), (b5, .inl (k.2.1, 60, .inl (fun _ => 0))), (b6, .inl (k.2.1, 60, .inl (fun _ => 0))), (b7, .inl (k.2.2, 60, .inl (fun _ => 0))), (b8, .inl (k.2.1, 60, .inl (fun _ => 0))), (b9, .inl (k.2.1, 60, .inl (fun _ => 0))), (b10, .inl (k.2.1, 60, .inl (fun _ => 0)))]) 10 600 := by
  refine ct_of (own := RX1) (lv0 := [(0, .ref a), (1, .ref f)]) (by decide) rfl (Nat.le_of_ble_eq_true rfl) rfl ?_
  rintro z rfl rfl hz hin E T
  refine r_aload_n E (q := 1) 0 dX1_init_0 rfl rfl rfl ?_
  refine r_obj E (q := 4) T.rr w9_145 w9_79 w9_80 (Nat.le_of_ble_eq_true rfl) dX1_init_1 rfl ?_
  refine r_aload_n E (q := 5) 0 dX1_init_4 rfl rfl rfl ?_
  refine r_bipush E (q := 7) (v := 60) dX1_init_5 (by decide) rfl ?_
  refine r_newi E (q := 9) T.rr (N := 60) (by decide) (by decide) (Nat.le_of_ble_eq_true rfl) (Nat.le_of_ble_eq_true rfl) dX1_init_7 rfl (fun b1 => ?_)
  refine r_putF E (q := 12) pX1_9 rfl (hin rfl) rfl 0 rfl rfl rfl (Nat.le_of_ble_eq_true rfl) (w' := [(a, .inr (1, [.null, .ref b1, .null, .null, .null, .null, .null, .null, .int 0, .null, .null, .null])), (b1, .inl ((zk z).2.1, 60, .inl (fun _ => 0)))]) rfl dX1_init_9 rfl ?_
  refine r_aload_n E (q := 13) 0 dX1_init_12 rfl rfl rfl ?_
  refine r_bipush E (q := 15) (v := 60) dX1_init_13 (by decide) rfl ?_
  refine r_newi E (q := 17) T.rr (N := 60) (by decide) (by decide) (Nat.le_of_ble_eq_true rfl) (Nat.le_of_ble_eq_true rfl) dX1_init_15 rfl (fun b2 => ?_)
  refine r_putF E (q := 20) pX1_13 rfl (hin rfl) rfl 0 rfl rfl rfl (Nat.le_of_ble_eq_true rfl) (w' := [(a, .inr (1, [.null, .ref b1, .ref b2, .null, .null, .null, .null, .null, .int 0, .null, .null, .null])), (b1, .inl ((zk z).2.1, 60, .inl (fun _ => 0))), (b2, .inl ((zk z).2.1, 60, .inl (fun _ => 0)))]) rfl dX1_init_17 rfl ?_
  refine r_aload_n E (q := 21) 0 dX1_init_20 rfl rfl rfl ?_
  refine r_bipush E (q := 23) (v := 60) dX1_init_21 (by decide) rfl ?_
  refine r_newi E (q := 25) T.rr (N := 60) (by decide) (by decide) (Nat.le_of_ble_eq_true rfl) (Nat.le_of_ble_eq_true rfl) dX1_init_23 rfl (fun b3 => ?_)
  refine r_putF E (q := 28) pX1_16 rfl (hin rfl) rfl 0 rfl rfl rfl (Nat.le_of_ble_eq_true rfl) (w' := [(a, .inr (1, [.null, .ref b1, .ref b2, .ref b3, .null, .null, .null, .null, .int 0, .null, .null, .null])), (b1, .inl ((zk z).2.1, 60, .inl (fun _ => 0))), (b2, .inl ((zk z).2.1, 60, .inl (fun _ => 0))), (b3, .inl ((zk z).2.1, 60, .inl (fun _ => 0)))]) rfl dX1_init_25 rfl ?_
  refine r_aload_n E (q := 29) 0 dX1_init_28 rfl rfl rfl ?_
  refine r_bipush E (q := 31) (v := 60) dX1_init_29 (by decide) rfl ?_
  refine r_newi E (q := 33) T.rr (N := 60) (by decide) (by decide) (Nat.le_of_ble_eq_true rfl) (Nat.le_of_ble_eq_true rfl) dX1_init_31 rfl (fun b4 => ?_)
  refine r_putF E (q := 36) pX1_19 rfl (hin rfl) rfl 0 rfl rfl rfl (Nat.le_of_ble_eq_true rfl) (w' := [(a, .inr (1, [.null, .ref b1, .ref b2, .ref b3, .ref b4, .null, .null, .null, .int 0, .null, .null, .null])), (b1, .inl ((zk z).2.1, 60, .inl (fun _ => 0))), (b2, .inl ((zk z).2.1, 60, .inl (fun _ => 0))), (b3, .inl ((zk z).2.1, 60, .inl (fun _ => 0))), (b4, .inl ((zk z).2.1, 60, .inl (fun _ => 0)))]) rfl dX1_init_33 rfl ?_
  refine r_aload_n E (q := 37) 0 dX1_init_36 rfl rfl rfl ?_
  refine r_bipush E (q := 39) (v := 60) dX1_init_37 (by decide) rfl ?_
  refine r_newi E (q := 41) T.rr (N := 60) (by decide) (by decide) (Nat.le_of_ble_eq_true rfl) (Nat.le_of_ble_eq_true rfl) dX1_init_39 rfl (fun b5 => ?_)
  refine r_putF E (q := 44) pX1_22 rfl (hin rfl) rfl 0 rfl rfl rfl (Nat.le_of_ble_eq_true rfl) (w' := [(a, .inr (1, [.null, .ref b1, .ref b2, .ref b3, .ref b4, .ref b5, .null, .null, .int 0, .null, .null, .null])), (b1, .inl ((zk z).2.1, 60, .inl (fun _ => 0))), (b2, .inl ((zk z).2.1, 60, .inl (fun _ => 0))), (b3, .inl ((zk z).2.1, 60, .inl (fun _ => 0))), (b4, .inl ((zk z).2.1, 60, .inl (fun _ => 0))), (b5, .inl ((zk z).2.1, 60, .inl (fun _ => 0)))]) rfl dX1_init_41 rfl ?_
  refine r_aload_n E (q := 45) 0 dX1_init_44 rfl rfl rfl ?_
  refine r_bipush E (q := 47) (v := 60) dX1_init_45 (by decide) rfl ?_
  refine r_newi E (q := 49) T.rr (N := 60) (by decide) (by decide) (Nat.le_of_ble_eq_true rfl) (Nat.le_of_ble_eq_true rfl) dX1_init_47 rfl (fun b6 => ?_)
  refine r_putF E (q := 52) pX1_25 rfl (hin rfl) rfl 0 rfl rfl rfl (Nat.le_of_ble_eq_true rfl) (w' := [(a, .inr (1, [.null, .ref b1, .ref b2, .ref b3, .ref b4, .ref b5, .ref b6, .null, .int 0, .null, .null, .null])), (b1, .inl ((zk z).2.1, 60, .inl (fun _ => 0))), (b2, .inl ((zk z).2.1, 60, .inl (fun _ => 0))), (b3, .inl ((zk z).2.1, 60, .inl (fun _ => 0))), (b4, .inl ((zk z).2.1, 60, .inl (fun _ => 0))), (b5, .inl ((zk z).2.1, 60, .inl (fun _ => 0))), (b6, .inl ((zk z).2.1, 60, .inl (fun _ => 0)))]) rfl dX1_init_49 rfl ?_
  refine r_aload_n E (q := 53) 0 dX1_init_52 rfl rfl rfl ?_
  refine r_bipush E (q := 55) (v := 60) dX1_init_53 (by decide) rfl ?_
  refine r_newz E (q := 57) T.rr (N := 60) (by decide) (by decide) (Nat.le_of_ble_eq_true rfl) (Nat.le_of_ble_eq_true rfl) dX1_init_55 rfl (fun b7 => ?_)
  refine r_putF E (q := 60) pX1_28 rfl (hin rfl) rfl 0 rfl rfl rfl (Nat.le_of_ble_eq_true rfl) (w' := [(a, .inr (1, [.null, .ref b1, .ref b2, .ref b3, .ref b4, .ref b5, .ref b6, .ref b7, .int 0, .null, .null, .null])), (b1, .inl ((zk z).2.1, 60, .inl (fun _ => 0))), (b2, .inl ((zk z).2.1, 60, .inl (fun _ => 0))), (b3, .inl ((zk z).2.1, 60, .inl (fun _ => 0))), (b4, .inl ((zk z).2.1, 60, .inl (fun _ => 0))), (b5, .inl ((zk z).2.1, 60, .inl (fun _ => 0))), (b6, .inl ((zk z).2.1, 60, .inl (fun _ => 0))), (b7, .inl ((zk z).2.2, 60, .inl (fun _ => 0)))]) rfl dX1_init_57 rfl ?_
  refine r_aload_n E (q := 61) 0 dX1_init_60 rfl rfl rfl ?_
  refine r_bipush E (q := 63) (v := 60) dX1_init_61 (by decide) rfl ?_
  refine r_newi E (q := 65) T.rr (N := 60) (by decide) (by decide) (Nat.le_of_ble_eq_true rfl) (Nat.le_of_ble_eq_true rfl) dX1_init_63 rfl (fun b8 => ?_)
  refine r_putF E (q := 68) pX1_32 rfl (hin rfl) rfl 0 rfl rfl rfl (Nat.le_of_ble_eq_true rfl) (w' := [(a, .inr (1, [.null, .ref b1, .ref b2, .ref b3, .ref b4, .ref b5, .ref b6, .ref b7, .int 0, .ref b8, .null, .null])), (b1, .inl ((zk z).2.1, 60, .inl (fun _ => 0))), (b2, .inl ((zk z).2.1, 60, .inl (fun _ => 0))), (b3, .inl ((zk z).2.1, 60, .inl (fun _ => 0))), (b4, .inl ((zk z).2.1, 60, .inl (fun _ => 0))), (b5, .inl ((zk z).2.1, 60, .inl (fun _ => 0))), (b6, .inl ((zk z).2.1, 60, .inl (fun _ => 0))), (b7, .inl ((zk z).2.2, 60, .inl (fun _ => 0))), (b8, .inl ((zk z).2.1, 60, .inl (fun _ => 0)))]) rfl dX1_init_65 rfl ?_
  refine r_aload_n E (q := 69) 0 dX1_init_68 rfl rfl rfl ?_
  refine r_bipush E (q := 71) (v := 60) dX1_init_69 (by decide) rfl ?_
  refine r_newi E (q := 73) T.rr (N := 60) (by decide) (by decide) (Nat.le_of_ble_eq_true rfl) (Nat.le_of_ble_eq_true rfl) dX1_init_71 rfl (fun b9 => ?_)
  refine r_putF E (q := 76) pX1_35 rfl (hin rfl) rfl 0 rfl rfl rfl (Nat.le_of_ble_eq_true rfl) (w' := [(a, .inr (1, [.null, .ref b1, .ref b2, .ref b3, .ref b4, .ref b5, .ref b6, .ref b7, .int 0, .ref b8, .ref b9, .null])), (b1, .inl ((zk z).2.1, 60, .inl (fun _ => 0))), (b2, .inl ((zk z).2.1, 60, .inl (fun _ => 0))), (b3, .inl ((zk z).2.1, 60, .inl (fun _ => 0))), (b4, .inl ((zk z).2.1, 60, .inl (fun _ => 0))), (b5, .inl ((zk z).2.1, 60, .inl (fun _ => 0))), (b6, .inl ((zk z).2.1, 60, .inl (fun _ => 0))), (b7, .inl ((zk z).2.2, 60, .inl (fun _ => 0))), (b8, .inl ((zk z).2.1, 60, .inl (fun _ => 0))), (b9, .inl ((zk z).2.1, 60, .inl (fun _ => 0)))]) rfl dX1_init_73 rfl ?_
  refine r_aload_n E (q := 77) 0 dX1_init_76 rfl rfl rfl ?_
  refine r_bipush E (q := 79) (v := 60) dX1_init_77 (by decide) rfl ?_
  refine r_newi E (q := 81) T.rr (N := 60) (by decide) (by decide) (Nat.le_of_ble_eq_true rfl) (Nat.le_of_ble_eq_true rfl) dX1_init_79 rfl (fun b10 => ?_)
  refine r_putF E (q := 84) pX1_38 rfl (hin rfl) rfl 0 rfl rfl rfl (Nat.le_of_ble_eq_true rfl) (w' := [(a, .inr (1, [.null, .ref b1, .ref b2, .ref b3, .ref b4, .ref b5, .ref b6, .ref b7, .int 0, .ref b8, .ref b9, .ref b10])), (b1, .inl ((zk z).2.1, 60, .inl (fun _ => 0))), (b2, .inl ((zk z).2.1, 60, .inl (fun _ => 0))), (b3, .inl ((zk z).2.1, 60, .inl (fun _ => 0))), (b4, .inl ((zk z).2.1, 60, .inl (fun _ => 0))), (b5, .inl ((zk z).2.1, 60, .inl (fun _ => 0))), (b6, .inl ((zk z).2.1, 60, .inl (fun _ => 0))), (b7, .inl ((zk z).2.2, 60, .inl (fun _ => 0))), (b8, .inl ((zk z).2.1, 60, .inl (fun _ => 0))), (b9, .inl ((zk z).2.1, 60, .inl (fun _ => 0))), (b10, .inl ((zk z).2.1, 60, .inl (fun _ => 0)))]) rfl dX1_init_81 rfl ?_
  refine r_aload_n E (q := 85) 0 dX1_init_84 rfl rfl rfl ?_
  refine r_aload_n E (q := 86) 1 dX1_init_85 rfl rfl rfl ?_
  refine r_putF E (q := 89) pX1_41 rfl (hin rfl) rfl 0 rfl rfl rfl (Nat.le_of_ble_eq_true rfl) (w' := [(a, .inr (1, [.ref f, .ref b1, .ref b2, .ref b3, .ref b4, .ref b5, .ref b6, .ref b7, .int 0, .ref b8, .ref b9, .ref b10])), (b1, .inl ((zk z).2.1, 60, .inl (fun _ => 0))), (b2, .inl ((zk z).2.1, 60, .inl (fun _ => 0))), (b3, .inl ((zk z).2.1, 60, .inl (fun _ => 0))), (b4, .inl ((zk z).2.1, 60, .inl (fun _ => 0))), (b5, .inl ((zk z).2.1, 60, .inl (fun _ => 0))), (b6, .inl ((zk z).2.1, 60, .inl (fun _ => 0))), (b7, .inl ((zk z).2.2, 60, .inl (fun _ => 0))), (b8, .inl ((zk z).2.1, 60, .inl (fun _ => 0))), (b9, .inl ((zk z).2.1, 60, .inl (fun _ => 0))), (b10, .inl ((zk z).2.1, 60, .inl (fun _ => 0)))]) rfl dX1_init_86 rfl ?_
  refine r_widen (c2 := 10) (s2 := 600) (Nat.le_of_ble_eq_true rfl) (Nat.le_of_ble_eq_true rfl) ?_
  exact r_vret E T dX1_init_89 ⟨rfl, b1, b2, b3, b4, b5, b6, b7, b8, b9, b10, rfl⟩
set_option maxRecDepth 100000 in
set_option maxHeartbeats 800000 in
theorem c_X3_init {l : Launch} {k : Kt} (a s f n : Nat) : CT l k yX3_init cX3_init 4 none 1 [.ref a, .ref s, .ref f, .ref n] [(a, .inr (3, [.null, .null, .null, .null, .int 0, .null, .null, .int 0, .int 0, .int 0, .int 0, .int 0, .int 0]))] (fun v w' => v = none ∧ ∃ b1 b2 b3 : Nat, w' = [(a, .inr (3, [.ref s, .ref f, .ref n, .ref b1, .int 0, .ref b2, .ref b3, .int 0, .int 0, .int 0, .int 0, .int 0, .int (-1)])), (b1, .inl (k.2.1, 120, .inl (fun _ => 0))), (b2, .inl (k.2.1, 60, .inl (fun _ => 0))), (b3, .inl (k.2.1, 60, .inl (fun _ => 0)))]) 3 240 := by
  refine ct_of (own := RX3) (lv0 := [(0, .ref a), (1, .ref s), (2, .ref f), (3, .ref n)]) (by decide) rfl (Nat.le_of_ble_eq_true rfl) rfl ?_
  rintro z rfl rfl hz hin E T
  refine r_aload_n E (q := 1) 0 dX3_init_0 rfl rfl rfl ?_
  refine r_obj E (q := 4) T.rr w9_209 w9_79 w9_80 (Nat.le_of_ble_eq_true rfl) dX3_init_1 rfl ?_
  refine r_aload_n E (q := 5) 0 dX3_init_4 rfl rfl rfl ?_
  refine r_bipush E (q := 7) (v := 120) dX3_init_5 (by decide) rfl ?_
  refine r_newi E (q := 9) T.rr (N := 120) (by decide) (by decide) (Nat.le_of_ble_eq_true rfl) (Nat.le_of_ble_eq_true rfl) dX3_init_7 rfl (fun b1 => ?_)
  refine r_put E (q := 12) pX3_13 rfl 0 rfl rfl rfl (Nat.le_of_ble_eq_true rfl) (w' := [(a, .inr (3, [.null, .null, .null, .ref b1, .int 0, .null, .null, .int 0, .int 0, .int 0, .int 0, .int 0, .int 0])), (b1, .inl ((zk z).2.1, 120, .inl (fun _ => 0)))]) rfl dX3_init_9 rfl ?_
  refine r_aload_n E (q := 13) 0 dX3_init_12 rfl rfl rfl ?_
  refine r_bipush E (q := 15) (v := 60) dX3_init_13 (by decide) rfl ?_
  refine r_newi E (q := 17) T.rr (N := 60) (by decide) (by decide) (Nat.le_of_ble_eq_true rfl) (Nat.le_of_ble_eq_true rfl) dX3_init_15 rfl (fun b2 => ?_)
  refine r_putF E (q := 20) pX3_17 rfl (hin rfl) rfl 0 rfl rfl rfl (Nat.le_of_ble_eq_true rfl) (w' := [(a, .inr (3, [.null, .null, .null, .ref b1, .int 0, .ref b2, .null, .int 0, .int 0, .int 0, .int 0, .int 0, .int 0])), (b1, .inl ((zk z).2.1, 120, .inl (fun _ => 0))), (b2, .inl ((zk z).2.1, 60, .inl (fun _ => 0)))]) rfl dX3_init_17 rfl ?_
  refine r_aload_n E (q := 21) 0 dX3_init_20 rfl rfl rfl ?_
  refine r_bipush E (q := 23) (v := 60) dX3_init_21 (by decide) rfl ?_
  refine r_newi E (q := 25) T.rr (N := 60) (by decide) (by decide) (Nat.le_of_ble_eq_true rfl) (Nat.le_of_ble_eq_true rfl) dX3_init_23 rfl (fun b3 => ?_)
  refine r_putF E (q := 28) pX3_20 rfl (hin rfl) rfl 0 rfl rfl rfl (Nat.le_of_ble_eq_true rfl) (w' := [(a, .inr (3, [.null, .null, .null, .ref b1, .int 0, .ref b2, .ref b3, .int 0, .int 0, .int 0, .int 0, .int 0, .int 0])), (b1, .inl ((zk z).2.1, 120, .inl (fun _ => 0))), (b2, .inl ((zk z).2.1, 60, .inl (fun _ => 0))), (b3, .inl ((zk z).2.1, 60, .inl (fun _ => 0)))]) rfl dX3_init_25 rfl ?_
  refine r_aload_n E (q := 29) 0 dX3_init_28 rfl rfl rfl ?_
  refine r_iconst E (q := 30) (v := (-1)) dX3_init_29 (by decide) rfl ?_
  refine r_put E (q := 33) pX3_23 rfl 0 rfl rfl rfl (Nat.le_of_ble_eq_true rfl) (w' := [(a, .inr (3, [.null, .null, .null, .ref b1, .int 0, .ref b2, .ref b3, .int 0, .int 0, .int 0, .int 0, .int 0, .int (-1)])), (b1, .inl ((zk z).2.1, 120, .inl (fun _ => 0))), (b2, .inl ((zk z).2.1, 60, .inl (fun _ => 0))), (b3, .inl ((zk z).2.1, 60, .inl (fun _ => 0)))]) rfl dX3_init_30 rfl ?_
  refine r_aload_n E (q := 34) 0 dX3_init_33 rfl rfl rfl ?_
  refine r_aload_n E (q := 35) 1 dX3_init_34 rfl rfl rfl ?_
  refine r_putF E (q := 38) pX3_27 rfl (hin rfl) rfl 0 rfl rfl rfl (Nat.le_of_ble_eq_true rfl) (w' := [(a, .inr (3, [.ref s, .null, .null, .ref b1, .int 0, .ref b2, .ref b3, .int 0, .int 0, .int 0, .int 0, .int 0, .int (-1)])), (b1, .inl ((zk z).2.1, 120, .inl (fun _ => 0))), (b2, .inl ((zk z).2.1, 60, .inl (fun _ => 0))), (b3, .inl ((zk z).2.1, 60, .inl (fun _ => 0)))]) rfl dX3_init_35 rfl ?_
  refine r_aload_n E (q := 39) 0 dX3_init_38 rfl rfl rfl ?_
  refine r_aload_n E (q := 40) 2 dX3_init_39 rfl rfl rfl ?_
  refine r_putF E (q := 43) pX3_31 rfl (hin rfl) rfl 0 rfl rfl rfl (Nat.le_of_ble_eq_true rfl) (w' := [(a, .inr (3, [.ref s, .ref f, .null, .ref b1, .int 0, .ref b2, .ref b3, .int 0, .int 0, .int 0, .int 0, .int 0, .int (-1)])), (b1, .inl ((zk z).2.1, 120, .inl (fun _ => 0))), (b2, .inl ((zk z).2.1, 60, .inl (fun _ => 0))), (b3, .inl ((zk z).2.1, 60, .inl (fun _ => 0)))]) rfl dX3_init_40 rfl ?_
  refine r_aload_n E (q := 44) 0 dX3_init_43 rfl rfl rfl ?_
  refine r_aload_n E (q := 45) 3 dX3_init_44 rfl rfl rfl ?_
  refine r_putF E (q := 48) pX3_35 rfl (hin rfl) rfl 0 rfl rfl rfl (Nat.le_of_ble_eq_true rfl) (w' := [(a, .inr (3, [.ref s, .ref f, .ref n, .ref b1, .int 0, .ref b2, .ref b3, .int 0, .int 0, .int 0, .int 0, .int 0, .int (-1)])), (b1, .inl ((zk z).2.1, 120, .inl (fun _ => 0))), (b2, .inl ((zk z).2.1, 60, .inl (fun _ => 0))), (b3, .inl ((zk z).2.1, 60, .inl (fun _ => 0)))]) rfl dX3_init_45 rfl ?_
  refine r_widen (c2 := 3) (s2 := 240) (Nat.le_of_ble_eq_true rfl) (Nat.le_of_ble_eq_true rfl) ?_
  exact r_vret E T dX3_init_48 ⟨rfl, b1, b2, b3, rfl⟩
set_option maxRecDepth 100000 in
set_option maxHeartbeats 800000 in
theorem c_X2_init {l : Launch} {k : Kt} (a f n : Nat) : CT l k yX2_init cX2_init 3 none 1 [.ref a, .ref f, .ref n] [(a, .inr (2, [.null, .null, .int 0]))] (fun v w' => v = none ∧ w' = [(a, .inr (2, [.ref f, .ref n, .int 0]))]) 0 0 := by
  refine ct_of (own := RX2) (lv0 := [(0, .ref a), (1, .ref f), (2, .ref n)]) (by decide) rfl (Nat.le_of_ble_eq_true rfl) rfl ?_
  rintro z rfl rfl hz hin E T
  refine r_aload_n E (q := 1) 0 dX2_init_0 rfl rfl rfl ?_
  refine r_obj E (q := 4) T.rr w9_259 w9_79 w9_80 (Nat.le_of_ble_eq_true rfl) dX2_init_1 rfl ?_
  refine r_aload_n E (q := 5) 0 dX2_init_4 rfl rfl rfl ?_
  refine r_aload_n E (q := 6) 1 dX2_init_5 rfl rfl rfl ?_
  refine r_putF E (q := 9) pX2_7 rfl (hin rfl) rfl 0 rfl rfl rfl (Nat.le_of_ble_eq_true rfl) (w' := [(a, .inr (2, [.ref f, .null, .int 0]))]) rfl dX2_init_6 rfl ?_
  refine r_aload_n E (q := 10) 0 dX2_init_9 rfl rfl rfl ?_
  refine r_aload_n E (q := 11) 2 dX2_init_10 rfl rfl rfl ?_
  refine r_putF E (q := 14) pX2_13 rfl (hin rfl) rfl 0 rfl rfl rfl (Nat.le_of_ble_eq_true rfl) (w' := [(a, .inr (2, [.ref f, .ref n, .int 0]))]) rfl dX2_init_11 rfl ?_
  refine r_widen (c2 := 0) (s2 := 0) (Nat.le_of_ble_eq_true rfl) (Nat.le_of_ble_eq_true rfl) ?_
  exact r_vret E T dX2_init_14 ⟨rfl, rfl⟩
def V0C : Nat → Int32 := fun j => if j = 8 then -1 else 0
def V0M : Nat → Int32 := fun j => if j = 11 then -1 else 0
def G0 : Nat → Nat → Int32 := fun _ _ => 0
set_option maxRecDepth 100000 in
set_option maxHeartbeats 800000 in
theorem c_X5_init {l : Launch} {k : Kt} (a : Nat) : CT l k yX5_init cX5_init 1 none 2 [.ref a] [(a, .inr (5, [.null, .null, .null, .null, .null]))] (fun v w' => v = none ∧ ∃ ad : Nat → Nat, ad 0 = a ∧ w' = WC k ad G0 V0C 120) 27 1202 := by
  refine ct_of (own := RX5) (lv0 := [(0, .ref a)]) (by decide) rfl (Nat.le_of_ble_eq_true rfl) rfl ?_
  rintro z rfl rfl hz hin E T
  refine r_aload_n E (q := 1) 0 dX5_init_0 rfl rfl rfl ?_
  refine r_obj E (q := 4) T.rr w9_78 w9_79 w9_80 (Nat.le_of_ble_eq_true rfl) dX5_init_1 rfl ?_
  refine r_aload_n E (q := 5) 0 dX5_init_4 rfl rfl rfl ?_
  refine r_new E (q := 8) nwX5_9 T.rr (Nat.le_of_ble_eq_true rfl) (Nat.le_of_ble_eq_true rfl) dX5_init_5 rfl (fun o1 => ?_)
  refine r_dup E (q := 9) dX5_init_8 rfl rfl ?_
  refine rIN E ciX5_11 T.rr (Fr.right (a := [(a, .inr (5, [.null, .null, .null, .null, .null]))]) (b := [(o1, .inr (4, [.null, .null, .null]))])) [] (c_X4_init (l := zl z) (k := zk z) o1) (by decide) rfl rfl (Nat.le_of_ble_eq_true rfl) ⟨Nat.le_of_ble_eq_true rfl, Nat.le_of_ble_eq_true rfl⟩ dX5_init_9 (fun v9 w9 h9 => ?_)
  obtain ⟨rfl, b2, b3, b4, rfl⟩ := h9
  show WW z _ _ [(a, .inr (5, [.null, .null, .null, .null, .null])), (o1, .inr (4, [.ref b2, .ref b3, .ref b4])), (b2, .inl ((zk z).2.1, 72, .inl (fun _ => 0))), (b3, .inl ((zk z).2.1, 4, .inl (fun _ => 0))), (b4, .inl ((zk z).2.1, 8, .inl (fun _ => 0)))] 12 [(0, .ref a)] [.ref o1, .ref a]
  refine r_putF E (q := 15) pX5_12 rfl (hin rfl) rfl 0 rfl rfl rfl (Nat.le_of_ble_eq_true rfl) (w' := [(a, .inr (5, [.ref o1, .null, .null, .null, .null])), (o1, .inr (4, [.ref b2, .ref b3, .ref b4])), (b2, .inl ((zk z).2.1, 72, .inl (fun _ => 0))), (b3, .inl ((zk z).2.1, 4, .inl (fun _ => 0))), (b4, .inl ((zk z).2.1, 8, .inl (fun _ => 0)))]) rfl dX5_init_12 rfl ?_
  refine r_aload_n E (q := 16) 0 dX5_init_15 rfl rfl rfl ?_
  refine r_new E (q := 19) nwX5_16 T.rr (Nat.le_of_ble_eq_true rfl) (Nat.le_of_ble_eq_true rfl) dX5_init_16 rfl (fun o5 => ?_)
  refine r_dup E (q := 20) dX5_init_19 rfl rfl ?_
  refine rIN E ciX5_18 T.rr (Fr.right (a := [(a, .inr (5, [.ref o1, .null, .null, .null, .null])), (o1, .inr (4, [.ref b2, .ref b3, .ref b4])), (b2, .inl ((zk z).2.1, 72, .inl (fun _ => 0))), (b3, .inl ((zk z).2.1, 4, .inl (fun _ => 0))), (b4, .inl ((zk z).2.1, 8, .inl (fun _ => 0)))]) (b := [(o5, .inr (0, [.null, .null, .null, .null, .null, .null, .int 0]))])) [] (c_X0_init (l := zl z) (k := zk z) o5) (by decide) rfl rfl (Nat.le_of_ble_eq_true rfl) ⟨Nat.le_of_ble_eq_true rfl, Nat.le_of_ble_eq_true rfl⟩ dX5_init_20 (fun v9 w9 h9 => ?_)
  obtain ⟨rfl, b6, b7, b8, b9, b10, b11, rfl⟩ := h9
  show WW z _ _ [(a, .inr (5, [.ref o1, .null, .null, .null, .null])), (o1, .inr (4, [.ref b2, .ref b3, .ref b4])), (b2, .inl ((zk z).2.1, 72, .inl (fun _ => 0))), (b3, .inl ((zk z).2.1, 4, .inl (fun _ => 0))), (b4, .inl ((zk z).2.1, 8, .inl (fun _ => 0))), (o5, .inr (0, [.ref b6, .ref b7, .ref b8, .ref b9, .ref b10, .ref b11, .int 0])), (b6, .inl ((zk z).2.1, 40, .inl (fun _ => 0))), (b7, .inl ((zk z).2.1, 40, .inl (fun _ => 0))), (b8, .inl ((zk z).2.1, 40, .inl (fun _ => 0))), (b9, .inl ((zk z).2.1, 40, .inl (fun _ => 0))), (b10, .inl ((zk z).2.1, 40, .inl (fun _ => 0))), (b11, .inl ((zk z).2.2, 40, .inl (fun _ => 0)))] 23 [(0, .ref a)] [.ref o5, .ref a]
  refine r_putF E (q := 26) pX5_19 rfl (hin rfl) rfl 0 rfl rfl rfl (Nat.le_of_ble_eq_true rfl) (w' := [(a, .inr (5, [.ref o1, .ref o5, .null, .null, .null])), (o1, .inr (4, [.ref b2, .ref b3, .ref b4])), (b2, .inl ((zk z).2.1, 72, .inl (fun _ => 0))), (b3, .inl ((zk z).2.1, 4, .inl (fun _ => 0))), (b4, .inl ((zk z).2.1, 8, .inl (fun _ => 0))), (o5, .inr (0, [.ref b6, .ref b7, .ref b8, .ref b9, .ref b10, .ref b11, .int 0])), (b6, .inl ((zk z).2.1, 40, .inl (fun _ => 0))), (b7, .inl ((zk z).2.1, 40, .inl (fun _ => 0))), (b8, .inl ((zk z).2.1, 40, .inl (fun _ => 0))), (b9, .inl ((zk z).2.1, 40, .inl (fun _ => 0))), (b10, .inl ((zk z).2.1, 40, .inl (fun _ => 0))), (b11, .inl ((zk z).2.2, 40, .inl (fun _ => 0)))]) rfl dX5_init_23 rfl ?_
  refine r_aload_n E (q := 27) 0 dX5_init_26 rfl rfl rfl ?_
  refine r_new E (q := 30) nwX5_23 T.rr (Nat.le_of_ble_eq_true rfl) (Nat.le_of_ble_eq_true rfl) dX5_init_27 rfl (fun o12 => ?_)
  refine r_dup E (q := 31) dX5_init_30 rfl rfl ?_
  refine r_aload_n E (q := 32) 0 dX5_init_31 rfl rfl rfl ?_
  refine r_get E (q := 35) fX5_19 0 rfl rfl dX5_init_32 rfl ?_
  refine rI E ciX5_25 T.rr (Fr.right (a := [(a, .inr (5, [.ref o1, .ref o5, .null, .null, .null])), (o1, .inr (4, [.ref b2, .ref b3, .ref b4])), (b2, .inl ((zk z).2.1, 72, .inl (fun _ => 0))), (b3, .inl ((zk z).2.1, 4, .inl (fun _ => 0))), (b4, .inl ((zk z).2.1, 8, .inl (fun _ => 0))), (o5, .inr (0, [.ref b6, .ref b7, .ref b8, .ref b9, .ref b10, .ref b11, .int 0])), (b6, .inl ((zk z).2.1, 40, .inl (fun _ => 0))), (b7, .inl ((zk z).2.1, 40, .inl (fun _ => 0))), (b8, .inl ((zk z).2.1, 40, .inl (fun _ => 0))), (b9, .inl ((zk z).2.1, 40, .inl (fun _ => 0))), (b10, .inl ((zk z).2.1, 40, .inl (fun _ => 0))), (b11, .inl ((zk z).2.2, 40, .inl (fun _ => 0)))]) (b := [(o12, .inr (1, [.null, .null, .null, .null, .null, .null, .null, .null, .int 0, .null, .null, .null]))])) [.ref o5] (c_X1_init (l := zl z) (k := zk z) o12 o5) (by decide) rfl rfl (Nat.le_of_ble_eq_true rfl) ⟨Nat.le_of_ble_eq_true rfl, Nat.le_of_ble_eq_true rfl⟩ dX5_init_35 (fun v9 w9 h9 => ?_)
  obtain ⟨rfl, b13, b14, b15, b16, b17, b18, b19, b20, b21, b22, rfl⟩ := h9
  show WW z _ _ [(a, .inr (5, [.ref o1, .ref o5, .null, .null, .null])), (o1, .inr (4, [.ref b2, .ref b3, .ref b4])), (b2, .inl ((zk z).2.1, 72, .inl (fun _ => 0))), (b3, .inl ((zk z).2.1, 4, .inl (fun _ => 0))), (b4, .inl ((zk z).2.1, 8, .inl (fun _ => 0))), (o5, .inr (0, [.ref b6, .ref b7, .ref b8, .ref b9, .ref b10, .ref b11, .int 0])), (b6, .inl ((zk z).2.1, 40, .inl (fun _ => 0))), (b7, .inl ((zk z).2.1, 40, .inl (fun _ => 0))), (b8, .inl ((zk z).2.1, 40, .inl (fun _ => 0))), (b9, .inl ((zk z).2.1, 40, .inl (fun _ => 0))), (b10, .inl ((zk z).2.1, 40, .inl (fun _ => 0))), (b11, .inl ((zk z).2.2, 40, .inl (fun _ => 0))), (o12, .inr (1, [.ref o5, .ref b13, .ref b14, .ref b15, .ref b16, .ref b17, .ref b18, .ref b19, .int 0, .ref b20, .ref b21, .ref b22])), (b13, .inl ((zk z).2.1, 60, .inl (fun _ => 0))), (b14, .inl ((zk z).2.1, 60, .inl (fun _ => 0))), (b15, .inl ((zk z).2.1, 60, .inl (fun _ => 0))), (b16, .inl ((zk z).2.1, 60, .inl (fun _ => 0))), (b17, .inl ((zk z).2.1, 60, .inl (fun _ => 0))), (b18, .inl ((zk z).2.1, 60, .inl (fun _ => 0))), (b19, .inl ((zk z).2.2, 60, .inl (fun _ => 0))), (b20, .inl ((zk z).2.1, 60, .inl (fun _ => 0))), (b21, .inl ((zk z).2.1, 60, .inl (fun _ => 0))), (b22, .inl ((zk z).2.1, 60, .inl (fun _ => 0)))] 38 [(0, .ref a)] [.ref o12, .ref a]
  refine r_putF E (q := 41) pX5_28 rfl (hin rfl) rfl 0 rfl rfl rfl (Nat.le_of_ble_eq_true rfl) (w' := [(a, .inr (5, [.ref o1, .ref o5, .ref o12, .null, .null])), (o1, .inr (4, [.ref b2, .ref b3, .ref b4])), (b2, .inl ((zk z).2.1, 72, .inl (fun _ => 0))), (b3, .inl ((zk z).2.1, 4, .inl (fun _ => 0))), (b4, .inl ((zk z).2.1, 8, .inl (fun _ => 0))), (o5, .inr (0, [.ref b6, .ref b7, .ref b8, .ref b9, .ref b10, .ref b11, .int 0])), (b6, .inl ((zk z).2.1, 40, .inl (fun _ => 0))), (b7, .inl ((zk z).2.1, 40, .inl (fun _ => 0))), (b8, .inl ((zk z).2.1, 40, .inl (fun _ => 0))), (b9, .inl ((zk z).2.1, 40, .inl (fun _ => 0))), (b10, .inl ((zk z).2.1, 40, .inl (fun _ => 0))), (b11, .inl ((zk z).2.2, 40, .inl (fun _ => 0))), (o12, .inr (1, [.ref o5, .ref b13, .ref b14, .ref b15, .ref b16, .ref b17, .ref b18, .ref b19, .int 0, .ref b20, .ref b21, .ref b22])), (b13, .inl ((zk z).2.1, 60, .inl (fun _ => 0))), (b14, .inl ((zk z).2.1, 60, .inl (fun _ => 0))), (b15, .inl ((zk z).2.1, 60, .inl (fun _ => 0))), (b16, .inl ((zk z).2.1, 60, .inl (fun _ => 0))), (b17, .inl ((zk z).2.1, 60, .inl (fun _ => 0))), (b18, .inl ((zk z).2.1, 60, .inl (fun _ => 0))), (b19, .inl ((zk z).2.2, 60, .inl (fun _ => 0))), (b20, .inl ((zk z).2.1, 60, .inl (fun _ => 0))), (b21, .inl ((zk z).2.1, 60, .inl (fun _ => 0))), (b22, .inl ((zk z).2.1, 60, .inl (fun _ => 0)))]) rfl dX5_init_38 rfl ?_
  refine r_aload_n E (q := 42) 0 dX5_init_41 rfl rfl rfl ?_
  refine r_new E (q := 45) nwX5_32 T.rr (Nat.le_of_ble_eq_true rfl) (Nat.le_of_ble_eq_true rfl) dX5_init_42 rfl (fun o23 => ?_)
  refine r_dup E (q := 46) dX5_init_45 rfl rfl ?_
  refine r_aload_n E (q := 47) 0 dX5_init_46 rfl rfl rfl ?_
  refine r_get E (q := 50) fX5_12 0 rfl rfl dX5_init_47 rfl ?_
  refine r_aload_n E (q := 51) 0 dX5_init_50 rfl rfl rfl ?_
  refine r_get E (q := 54) fX5_19 0 rfl rfl dX5_init_51 rfl ?_
  refine r_aload_n E (q := 55) 0 dX5_init_54 rfl rfl rfl ?_
  refine r_get E (q := 58) fX5_28 0 rfl rfl dX5_init_55 rfl ?_
  refine rI E ciX5_34 T.rr (Fr.right (a := [(a, .inr (5, [.ref o1, .ref o5, .ref o12, .null, .null])), (o1, .inr (4, [.ref b2, .ref b3, .ref b4])), (b2, .inl ((zk z).2.1, 72, .inl (fun _ => 0))), (b3, .inl ((zk z).2.1, 4, .inl (fun _ => 0))), (b4, .inl ((zk z).2.1, 8, .inl (fun _ => 0))), (o5, .inr (0, [.ref b6, .ref b7, .ref b8, .ref b9, .ref b10, .ref b11, .int 0])), (b6, .inl ((zk z).2.1, 40, .inl (fun _ => 0))), (b7, .inl ((zk z).2.1, 40, .inl (fun _ => 0))), (b8, .inl ((zk z).2.1, 40, .inl (fun _ => 0))), (b9, .inl ((zk z).2.1, 40, .inl (fun _ => 0))), (b10, .inl ((zk z).2.1, 40, .inl (fun _ => 0))), (b11, .inl ((zk z).2.2, 40, .inl (fun _ => 0))), (o12, .inr (1, [.ref o5, .ref b13, .ref b14, .ref b15, .ref b16, .ref b17, .ref b18, .ref b19, .int 0, .ref b20, .ref b21, .ref b22])), (b13, .inl ((zk z).2.1, 60, .inl (fun _ => 0))), (b14, .inl ((zk z).2.1, 60, .inl (fun _ => 0))), (b15, .inl ((zk z).2.1, 60, .inl (fun _ => 0))), (b16, .inl ((zk z).2.1, 60, .inl (fun _ => 0))), (b17, .inl ((zk z).2.1, 60, .inl (fun _ => 0))), (b18, .inl ((zk z).2.1, 60, .inl (fun _ => 0))), (b19, .inl ((zk z).2.2, 60, .inl (fun _ => 0))), (b20, .inl ((zk z).2.1, 60, .inl (fun _ => 0))), (b21, .inl ((zk z).2.1, 60, .inl (fun _ => 0))), (b22, .inl ((zk z).2.1, 60, .inl (fun _ => 0)))]) (b := [(o23, .inr (3, [.null, .null, .null, .null, .int 0, .null, .null, .int 0, .int 0, .int 0, .int 0, .int 0, .int 0]))])) [.ref o1, .ref o5, .ref o12] (c_X3_init (l := zl z) (k := zk z) o23 o1 o5 o12) (by decide) rfl rfl (Nat.le_of_ble_eq_true rfl) ⟨Nat.le_of_ble_eq_true rfl, Nat.le_of_ble_eq_true rfl⟩ dX5_init_58 (fun v9 w9 h9 => ?_)
  obtain ⟨rfl, b24, b25, b26, rfl⟩ := h9
  show WW z _ _ [(a, .inr (5, [.ref o1, .ref o5, .ref o12, .null, .null])), (o1, .inr (4, [.ref b2, .ref b3, .ref b4])), (b2, .inl ((zk z).2.1, 72, .inl (fun _ => 0))), (b3, .inl ((zk z).2.1, 4, .inl (fun _ => 0))), (b4, .inl ((zk z).2.1, 8, .inl (fun _ => 0))), (o5, .inr (0, [.ref b6, .ref b7, .ref b8, .ref b9, .ref b10, .ref b11, .int 0])), (b6, .inl ((zk z).2.1, 40, .inl (fun _ => 0))), (b7, .inl ((zk z).2.1, 40, .inl (fun _ => 0))), (b8, .inl ((zk z).2.1, 40, .inl (fun _ => 0))), (b9, .inl ((zk z).2.1, 40, .inl (fun _ => 0))), (b10, .inl ((zk z).2.1, 40, .inl (fun _ => 0))), (b11, .inl ((zk z).2.2, 40, .inl (fun _ => 0))), (o12, .inr (1, [.ref o5, .ref b13, .ref b14, .ref b15, .ref b16, .ref b17, .ref b18, .ref b19, .int 0, .ref b20, .ref b21, .ref b22])), (b13, .inl ((zk z).2.1, 60, .inl (fun _ => 0))), (b14, .inl ((zk z).2.1, 60, .inl (fun _ => 0))), (b15, .inl ((zk z).2.1, 60, .inl (fun _ => 0))), (b16, .inl ((zk z).2.1, 60, .inl (fun _ => 0))), (b17, .inl ((zk z).2.1, 60, .inl (fun _ => 0))), (b18, .inl ((zk z).2.1, 60, .inl (fun _ => 0))), (b19, .inl ((zk z).2.2, 60, .inl (fun _ => 0))), (b20, .inl ((zk z).2.1, 60, .inl (fun _ => 0))), (b21, .inl ((zk z).2.1, 60, .inl (fun _ => 0))), (b22, .inl ((zk z).2.1, 60, .inl (fun _ => 0))), (o23, .inr (3, [.ref o1, .ref o5, .ref o12, .ref b24, .int 0, .ref b25, .ref b26, .int 0, .int 0, .int 0, .int 0, .int 0, .int (-1)])), (b24, .inl ((zk z).2.1, 120, .inl (fun _ => 0))), (b25, .inl ((zk z).2.1, 60, .inl (fun _ => 0))), (b26, .inl ((zk z).2.1, 60, .inl (fun _ => 0)))] 61 [(0, .ref a)] [.ref o23, .ref a]
  refine r_putF E (q := 64) pX5_37 rfl (hin rfl) rfl 0 rfl rfl rfl (Nat.le_of_ble_eq_true rfl) (w' := [(a, .inr (5, [.ref o1, .ref o5, .ref o12, .ref o23, .null])), (o1, .inr (4, [.ref b2, .ref b3, .ref b4])), (b2, .inl ((zk z).2.1, 72, .inl (fun _ => 0))), (b3, .inl ((zk z).2.1, 4, .inl (fun _ => 0))), (b4, .inl ((zk z).2.1, 8, .inl (fun _ => 0))), (o5, .inr (0, [.ref b6, .ref b7, .ref b8, .ref b9, .ref b10, .ref b11, .int 0])), (b6, .inl ((zk z).2.1, 40, .inl (fun _ => 0))), (b7, .inl ((zk z).2.1, 40, .inl (fun _ => 0))), (b8, .inl ((zk z).2.1, 40, .inl (fun _ => 0))), (b9, .inl ((zk z).2.1, 40, .inl (fun _ => 0))), (b10, .inl ((zk z).2.1, 40, .inl (fun _ => 0))), (b11, .inl ((zk z).2.2, 40, .inl (fun _ => 0))), (o12, .inr (1, [.ref o5, .ref b13, .ref b14, .ref b15, .ref b16, .ref b17, .ref b18, .ref b19, .int 0, .ref b20, .ref b21, .ref b22])), (b13, .inl ((zk z).2.1, 60, .inl (fun _ => 0))), (b14, .inl ((zk z).2.1, 60, .inl (fun _ => 0))), (b15, .inl ((zk z).2.1, 60, .inl (fun _ => 0))), (b16, .inl ((zk z).2.1, 60, .inl (fun _ => 0))), (b17, .inl ((zk z).2.1, 60, .inl (fun _ => 0))), (b18, .inl ((zk z).2.1, 60, .inl (fun _ => 0))), (b19, .inl ((zk z).2.2, 60, .inl (fun _ => 0))), (b20, .inl ((zk z).2.1, 60, .inl (fun _ => 0))), (b21, .inl ((zk z).2.1, 60, .inl (fun _ => 0))), (b22, .inl ((zk z).2.1, 60, .inl (fun _ => 0))), (o23, .inr (3, [.ref o1, .ref o5, .ref o12, .ref b24, .int 0, .ref b25, .ref b26, .int 0, .int 0, .int 0, .int 0, .int 0, .int (-1)])), (b24, .inl ((zk z).2.1, 120, .inl (fun _ => 0))), (b25, .inl ((zk z).2.1, 60, .inl (fun _ => 0))), (b26, .inl ((zk z).2.1, 60, .inl (fun _ => 0)))]) rfl dX5_init_61 rfl ?_
  refine r_aload_n E (q := 65) 0 dX5_init_64 rfl rfl rfl ?_
  refine r_new E (q := 68) nwX5_41 T.rr (Nat.le_of_ble_eq_true rfl) (Nat.le_of_ble_eq_true rfl) dX5_init_65 rfl (fun o27 => ?_)
  refine r_dup E (q := 69) dX5_init_68 rfl rfl ?_
  refine r_aload_n E (q := 70) 0 dX5_init_69 rfl rfl rfl ?_
  refine r_get E (q := 73) fX5_19 0 rfl rfl dX5_init_70 rfl ?_
  refine r_aload_n E (q := 74) 0 dX5_init_73 rfl rfl rfl ?_
  refine r_get E (q := 77) fX5_28 0 rfl rfl dX5_init_74 rfl ?_
  refine rI E ciX5_43 T.rr (Fr.right (a := [(a, .inr (5, [.ref o1, .ref o5, .ref o12, .ref o23, .null])), (o1, .inr (4, [.ref b2, .ref b3, .ref b4])), (b2, .inl ((zk z).2.1, 72, .inl (fun _ => 0))), (b3, .inl ((zk z).2.1, 4, .inl (fun _ => 0))), (b4, .inl ((zk z).2.1, 8, .inl (fun _ => 0))), (o5, .inr (0, [.ref b6, .ref b7, .ref b8, .ref b9, .ref b10, .ref b11, .int 0])), (b6, .inl ((zk z).2.1, 40, .inl (fun _ => 0))), (b7, .inl ((zk z).2.1, 40, .inl (fun _ => 0))), (b8, .inl ((zk z).2.1, 40, .inl (fun _ => 0))), (b9, .inl ((zk z).2.1, 40, .inl (fun _ => 0))), (b10, .inl ((zk z).2.1, 40, .inl (fun _ => 0))), (b11, .inl ((zk z).2.2, 40, .inl (fun _ => 0))), (o12, .inr (1, [.ref o5, .ref b13, .ref b14, .ref b15, .ref b16, .ref b17, .ref b18, .ref b19, .int 0, .ref b20, .ref b21, .ref b22])), (b13, .inl ((zk z).2.1, 60, .inl (fun _ => 0))), (b14, .inl ((zk z).2.1, 60, .inl (fun _ => 0))), (b15, .inl ((zk z).2.1, 60, .inl (fun _ => 0))), (b16, .inl ((zk z).2.1, 60, .inl (fun _ => 0))), (b17, .inl ((zk z).2.1, 60, .inl (fun _ => 0))), (b18, .inl ((zk z).2.1, 60, .inl (fun _ => 0))), (b19, .inl ((zk z).2.2, 60, .inl (fun _ => 0))), (b20, .inl ((zk z).2.1, 60, .inl (fun _ => 0))), (b21, .inl ((zk z).2.1, 60, .inl (fun _ => 0))), (b22, .inl ((zk z).2.1, 60, .inl (fun _ => 0))), (o23, .inr (3, [.ref o1, .ref o5, .ref o12, .ref b24, .int 0, .ref b25, .ref b26, .int 0, .int 0, .int 0, .int 0, .int 0, .int (-1)])), (b24, .inl ((zk z).2.1, 120, .inl (fun _ => 0))), (b25, .inl ((zk z).2.1, 60, .inl (fun _ => 0))), (b26, .inl ((zk z).2.1, 60, .inl (fun _ => 0)))]) (b := [(o27, .inr (2, [.null, .null, .int 0]))])) [.ref o5, .ref o12] (c_X2_init (l := zl z) (k := zk z) o27 o5 o12) (by decide) rfl rfl (Nat.le_of_ble_eq_true rfl) ⟨Nat.le_of_ble_eq_true rfl, Nat.le_of_ble_eq_true rfl⟩ dX5_init_77 (fun v9 w9 h9 => ?_)
  obtain ⟨rfl, rfl⟩ := h9
  show WW z _ _ [(a, .inr (5, [.ref o1, .ref o5, .ref o12, .ref o23, .null])), (o1, .inr (4, [.ref b2, .ref b3, .ref b4])), (b2, .inl ((zk z).2.1, 72, .inl (fun _ => 0))), (b3, .inl ((zk z).2.1, 4, .inl (fun _ => 0))), (b4, .inl ((zk z).2.1, 8, .inl (fun _ => 0))), (o5, .inr (0, [.ref b6, .ref b7, .ref b8, .ref b9, .ref b10, .ref b11, .int 0])), (b6, .inl ((zk z).2.1, 40, .inl (fun _ => 0))), (b7, .inl ((zk z).2.1, 40, .inl (fun _ => 0))), (b8, .inl ((zk z).2.1, 40, .inl (fun _ => 0))), (b9, .inl ((zk z).2.1, 40, .inl (fun _ => 0))), (b10, .inl ((zk z).2.1, 40, .inl (fun _ => 0))), (b11, .inl ((zk z).2.2, 40, .inl (fun _ => 0))), (o12, .inr (1, [.ref o5, .ref b13, .ref b14, .ref b15, .ref b16, .ref b17, .ref b18, .ref b19, .int 0, .ref b20, .ref b21, .ref b22])), (b13, .inl ((zk z).2.1, 60, .inl (fun _ => 0))), (b14, .inl ((zk z).2.1, 60, .inl (fun _ => 0))), (b15, .inl ((zk z).2.1, 60, .inl (fun _ => 0))), (b16, .inl ((zk z).2.1, 60, .inl (fun _ => 0))), (b17, .inl ((zk z).2.1, 60, .inl (fun _ => 0))), (b18, .inl ((zk z).2.1, 60, .inl (fun _ => 0))), (b19, .inl ((zk z).2.2, 60, .inl (fun _ => 0))), (b20, .inl ((zk z).2.1, 60, .inl (fun _ => 0))), (b21, .inl ((zk z).2.1, 60, .inl (fun _ => 0))), (b22, .inl ((zk z).2.1, 60, .inl (fun _ => 0))), (o23, .inr (3, [.ref o1, .ref o5, .ref o12, .ref b24, .int 0, .ref b25, .ref b26, .int 0, .int 0, .int 0, .int 0, .int 0, .int (-1)])), (b24, .inl ((zk z).2.1, 120, .inl (fun _ => 0))), (b25, .inl ((zk z).2.1, 60, .inl (fun _ => 0))), (b26, .inl ((zk z).2.1, 60, .inl (fun _ => 0))), (o27, .inr (2, [.ref o5, .ref o12, .int 0]))] 80 [(0, .ref a)] [.ref o27, .ref a]
  refine r_putF E (q := 83) pX5_46 rfl (hin rfl) rfl 0 rfl rfl rfl (Nat.le_of_ble_eq_true rfl) (w' := [(a, .inr (5, [.ref o1, .ref o5, .ref o12, .ref o23, .ref o27])), (o1, .inr (4, [.ref b2, .ref b3, .ref b4])), (b2, .inl ((zk z).2.1, 72, .inl (fun _ => 0))), (b3, .inl ((zk z).2.1, 4, .inl (fun _ => 0))), (b4, .inl ((zk z).2.1, 8, .inl (fun _ => 0))), (o5, .inr (0, [.ref b6, .ref b7, .ref b8, .ref b9, .ref b10, .ref b11, .int 0])), (b6, .inl ((zk z).2.1, 40, .inl (fun _ => 0))), (b7, .inl ((zk z).2.1, 40, .inl (fun _ => 0))), (b8, .inl ((zk z).2.1, 40, .inl (fun _ => 0))), (b9, .inl ((zk z).2.1, 40, .inl (fun _ => 0))), (b10, .inl ((zk z).2.1, 40, .inl (fun _ => 0))), (b11, .inl ((zk z).2.2, 40, .inl (fun _ => 0))), (o12, .inr (1, [.ref o5, .ref b13, .ref b14, .ref b15, .ref b16, .ref b17, .ref b18, .ref b19, .int 0, .ref b20, .ref b21, .ref b22])), (b13, .inl ((zk z).2.1, 60, .inl (fun _ => 0))), (b14, .inl ((zk z).2.1, 60, .inl (fun _ => 0))), (b15, .inl ((zk z).2.1, 60, .inl (fun _ => 0))), (b16, .inl ((zk z).2.1, 60, .inl (fun _ => 0))), (b17, .inl ((zk z).2.1, 60, .inl (fun _ => 0))), (b18, .inl ((zk z).2.1, 60, .inl (fun _ => 0))), (b19, .inl ((zk z).2.2, 60, .inl (fun _ => 0))), (b20, .inl ((zk z).2.1, 60, .inl (fun _ => 0))), (b21, .inl ((zk z).2.1, 60, .inl (fun _ => 0))), (b22, .inl ((zk z).2.1, 60, .inl (fun _ => 0))), (o23, .inr (3, [.ref o1, .ref o5, .ref o12, .ref b24, .int 0, .ref b25, .ref b26, .int 0, .int 0, .int 0, .int 0, .int 0, .int (-1)])), (b24, .inl ((zk z).2.1, 120, .inl (fun _ => 0))), (b25, .inl ((zk z).2.1, 60, .inl (fun _ => 0))), (b26, .inl ((zk z).2.1, 60, .inl (fun _ => 0))), (o27, .inr (2, [.ref o5, .ref o12, .int 0]))]) rfl dX5_init_80 rfl ?_
  refine r_widen (c2 := 27) (s2 := 1202) (Nat.le_of_ble_eq_true rfl) (Nat.le_of_ble_eq_true rfl) ?_
  exact r_vret E T dX5_init_83 ⟨rfl, (fun i => ([a, o1, b2, b3, b4, o5, b6, b7, b8, b9, b10, b11, o12, b13, b14, b15, b16, b17, b18, b19, b20, b21, b22, o23, b24, b25, b26, o27] : List Nat).getD i 0), rfl, rfl⟩
set_option maxRecDepth 100000 in
set_option maxHeartbeats 800000 in
theorem c_X6_init {l : Launch} {k : Kt} (a : Nat) : CT l k yX6_init cX6_init 1 none 1 [.ref a] [(a, .inr (6, [.null, .null, .null, .int 0, .null, .null, .null, .null, .null, .null, .int 0, .null, .null, .null, .null, .null, .int 0, .null, .null, .null, .null, .int 0, .int 0, .int 0, .int 0, .null, .null, .null, .null, .null, .null, .int 0, .int 0, .int 0, .int 0, .int 0]))] (fun v w' => v = none ∧ ∃ ad : Nat → Nat, ad 0 = a ∧ w' = WM k ad G0 V0M) 24 37644 := by
  refine ct_of (own := RX6) (lv0 := [(0, .ref a)]) (by decide) rfl (Nat.le_of_ble_eq_true rfl) rfl ?_
  rintro z rfl rfl hz hin E T
  refine r_aload_n E (q := 1) 0 dX6_init_0 rfl rfl rfl ?_
  refine r_obj E (q := 4) T.rr w9_664 w9_79 w9_80 (Nat.le_of_ble_eq_true rfl) dX6_init_1 rfl ?_
  refine r_aload_n E (q := 5) 0 dX6_init_4 rfl rfl rfl ?_
  refine r_iconst E (q := 6) (v := 4) dX6_init_5 (by decide) rfl ?_
  refine r_newi E (q := 8) T.rr (N := 4) (by decide) (by decide) (Nat.le_of_ble_eq_true rfl) (Nat.le_of_ble_eq_true rfl) dX6_init_6 rfl (fun b1 => ?_)
  refine r_putF E (q := 11) pX6_7 rfl (hin rfl) rfl 0 rfl rfl rfl (Nat.le_of_ble_eq_true rfl) (w' := [(a, .inr (6, [.ref b1, .null, .null, .int 0, .null, .null, .null, .null, .null, .null, .int 0, .null, .null, .null, .null, .null, .int 0, .null, .null, .null, .null, .int 0, .int 0, .int 0, .int 0, .null, .null, .null, .null, .null, .null, .int 0, .int 0, .int 0, .int 0, .int 0])), (b1, .inl ((zk z).2.1, 4, .inl (fun _ => 0)))]) rfl dX6_init_8 rfl ?_
  refine r_aload_n E (q := 12) 0 dX6_init_11 rfl rfl rfl ?_
  refine r_bipush E (q := 14) (v := 72) dX6_init_12 (by decide) rfl ?_
  refine r_newi E (q := 16) T.rr (N := 72) (by decide) (by decide) (Nat.le_of_ble_eq_true rfl) (Nat.le_of_ble_eq_true rfl) dX6_init_14 rfl (fun b2 => ?_)
  refine r_putF E (q := 19) pX6_13 rfl (hin rfl) rfl 0 rfl rfl rfl (Nat.le_of_ble_eq_true rfl) (w' := [(a, .inr (6, [.ref b1, .ref b2, .null, .int 0, .null, .null, .null, .null, .null, .null, .int 0, .null, .null, .null, .null, .null, .int 0, .null, .null, .null, .null, .int 0, .int 0, .int 0, .int 0, .null, .null, .null, .null, .null, .null, .int 0, .int 0, .int 0, .int 0, .int 0])), (b1, .inl ((zk z).2.1, 4, .inl (fun _ => 0))), (b2, .inl ((zk z).2.1, 72, .inl (fun _ => 0)))]) rfl dX6_init_16 rfl ?_
  refine r_aload_n E (q := 20) 0 dX6_init_19 rfl rfl rfl ?_
  refine r_bipush E (q := 22) (v := 8) dX6_init_20 (by decide) rfl ?_
  refine r_newi E (q := 24) T.rr (N := 8) (by decide) (by decide) (Nat.le_of_ble_eq_true rfl) (Nat.le_of_ble_eq_true rfl) dX6_init_22 rfl (fun b3 => ?_)
  refine r_putF E (q := 27) pX6_16 rfl (hin rfl) rfl 0 rfl rfl rfl (Nat.le_of_ble_eq_true rfl) (w' := [(a, .inr (6, [.ref b1, .ref b2, .ref b3, .int 0, .null, .null, .null, .null, .null, .null, .int 0, .null, .null, .null, .null, .null, .int 0, .null, .null, .null, .null, .int 0, .int 0, .int 0, .int 0, .null, .null, .null, .null, .null, .null, .int 0, .int 0, .int 0, .int 0, .int 0])), (b1, .inl ((zk z).2.1, 4, .inl (fun _ => 0))), (b2, .inl ((zk z).2.1, 72, .inl (fun _ => 0))), (b3, .inl ((zk z).2.1, 8, .inl (fun _ => 0)))]) rfl dX6_init_24 rfl ?_
  refine r_aload_n E (q := 28) 0 dX6_init_27 rfl rfl rfl ?_
  refine r_bipush E (q := 30) (v := 40) dX6_init_28 (by decide) rfl ?_
  refine r_newi E (q := 32) T.rr (N := 40) (by decide) (by decide) (Nat.le_of_ble_eq_true rfl) (Nat.le_of_ble_eq_true rfl) dX6_init_30 rfl (fun b4 => ?_)
  refine r_putF E (q := 35) pX6_19 rfl (hin rfl) rfl 0 rfl rfl rfl (Nat.le_of_ble_eq_true rfl) (w' := [(a, .inr (6, [.ref b1, .ref b2, .ref b3, .int 0, .ref b4, .null, .null, .null, .null, .null, .int 0, .null, .null, .null, .null, .null, .int 0, .null, .null, .null, .null, .int 0, .int 0, .int 0, .int 0, .null, .null, .null, .null, .null, .null, .int 0, .int 0, .int 0, .int 0, .int 0])), (b1, .inl ((zk z).2.1, 4, .inl (fun _ => 0))), (b2, .inl ((zk z).2.1, 72, .inl (fun _ => 0))), (b3, .inl ((zk z).2.1, 8, .inl (fun _ => 0))), (b4, .inl ((zk z).2.1, 40, .inl (fun _ => 0)))]) rfl dX6_init_32 rfl ?_
  refine r_aload_n E (q := 36) 0 dX6_init_35 rfl rfl rfl ?_
  refine r_bipush E (q := 38) (v := 40) dX6_init_36 (by decide) rfl ?_
  refine r_newi E (q := 40) T.rr (N := 40) (by decide) (by decide) (Nat.le_of_ble_eq_true rfl) (Nat.le_of_ble_eq_true rfl) dX6_init_38 rfl (fun b5 => ?_)
  refine r_putF E (q := 43) pX6_22 rfl (hin rfl) rfl 0 rfl rfl rfl (Nat.le_of_ble_eq_true rfl) (w' := [(a, .inr (6, [.ref b1, .ref b2, .ref b3, .int 0, .ref b4, .ref b5, .null, .null, .null, .null, .int 0, .null, .null, .null, .null, .null, .int 0, .null, .null, .null, .null, .int 0, .int 0, .int 0, .int 0, .null, .null, .null, .null, .null, .null, .int 0, .int 0, .int 0, .int 0, .int 0])), (b1, .inl ((zk z).2.1, 4, .inl (fun _ => 0))), (b2, .inl ((zk z).2.1, 72, .inl (fun _ => 0))), (b3, .inl ((zk z).2.1, 8, .inl (fun _ => 0))), (b4, .inl ((zk z).2.1, 40, .inl (fun _ => 0))), (b5, .inl ((zk z).2.1, 40, .inl (fun _ => 0)))]) rfl dX6_init_40 rfl ?_
  refine r_aload_n E (q := 44) 0 dX6_init_43 rfl rfl rfl ?_
  refine r_bipush E (q := 46) (v := 40) dX6_init_44 (by decide) rfl ?_
  refine r_newi E (q := 48) T.rr (N := 40) (by decide) (by decide) (Nat.le_of_ble_eq_true rfl) (Nat.le_of_ble_eq_true rfl) dX6_init_46 rfl (fun b6 => ?_)
  refine r_putF E (q := 51) pX6_25 rfl (hin rfl) rfl 0 rfl rfl rfl (Nat.le_of_ble_eq_true rfl) (w' := [(a, .inr (6, [.ref b1, .ref b2, .ref b3, .int 0, .ref b4, .ref b5, .ref b6, .null, .null, .null, .int 0, .null, .null, .null, .null, .null, .int 0, .null, .null, .null, .null, .int 0, .int 0, .int 0, .int 0, .null, .null, .null, .null, .null, .null, .int 0, .int 0, .int 0, .int 0, .int 0])), (b1, .inl ((zk z).2.1, 4, .inl (fun _ => 0))), (b2, .inl ((zk z).2.1, 72, .inl (fun _ => 0))), (b3, .inl ((zk z).2.1, 8, .inl (fun _ => 0))), (b4, .inl ((zk z).2.1, 40, .inl (fun _ => 0))), (b5, .inl ((zk z).2.1, 40, .inl (fun _ => 0))), (b6, .inl ((zk z).2.1, 40, .inl (fun _ => 0)))]) rfl dX6_init_48 rfl ?_
  refine r_aload_n E (q := 52) 0 dX6_init_51 rfl rfl rfl ?_
  refine r_bipush E (q := 54) (v := 40) dX6_init_52 (by decide) rfl ?_
  refine r_newi E (q := 56) T.rr (N := 40) (by decide) (by decide) (Nat.le_of_ble_eq_true rfl) (Nat.le_of_ble_eq_true rfl) dX6_init_54 rfl (fun b7 => ?_)
  refine r_putF E (q := 59) pX6_28 rfl (hin rfl) rfl 0 rfl rfl rfl (Nat.le_of_ble_eq_true rfl) (w' := [(a, .inr (6, [.ref b1, .ref b2, .ref b3, .int 0, .ref b4, .ref b5, .ref b6, .ref b7, .null, .null, .int 0, .null, .null, .null, .null, .null, .int 0, .null, .null, .null, .null, .int 0, .int 0, .int 0, .int 0, .null, .null, .null, .null, .null, .null, .int 0, .int 0, .int 0, .int 0, .int 0])), (b1, .inl ((zk z).2.1, 4, .inl (fun _ => 0))), (b2, .inl ((zk z).2.1, 72, .inl (fun _ => 0))), (b3, .inl ((zk z).2.1, 8, .inl (fun _ => 0))), (b4, .inl ((zk z).2.1, 40, .inl (fun _ => 0))), (b5, .inl ((zk z).2.1, 40, .inl (fun _ => 0))), (b6, .inl ((zk z).2.1, 40, .inl (fun _ => 0))), (b7, .inl ((zk z).2.1, 40, .inl (fun _ => 0)))]) rfl dX6_init_56 rfl ?_
  refine r_aload_n E (q := 60) 0 dX6_init_59 rfl rfl rfl ?_
  refine r_bipush E (q := 62) (v := 40) dX6_init_60 (by decide) rfl ?_
  refine r_newz E (q := 64) T.rr (N := 40) (by decide) (by decide) (Nat.le_of_ble_eq_true rfl) (Nat.le_of_ble_eq_true rfl) dX6_init_62 rfl (fun b8 => ?_)
  refine r_putF E (q := 67) pX6_31 rfl (hin rfl) rfl 0 rfl rfl rfl (Nat.le_of_ble_eq_true rfl) (w' := [(a, .inr (6, [.ref b1, .ref b2, .ref b3, .int 0, .ref b4, .ref b5, .ref b6, .ref b7, .ref b8, .null, .int 0, .null, .null, .null, .null, .null, .int 0, .null, .null, .null, .null, .int 0, .int 0, .int 0, .int 0, .null, .null, .null, .null, .null, .null, .int 0, .int 0, .int 0, .int 0, .int 0])), (b1, .inl ((zk z).2.1, 4, .inl (fun _ => 0))), (b2, .inl ((zk z).2.1, 72, .inl (fun _ => 0))), (b3, .inl ((zk z).2.1, 8, .inl (fun _ => 0))), (b4, .inl ((zk z).2.1, 40, .inl (fun _ => 0))), (b5, .inl ((zk z).2.1, 40, .inl (fun _ => 0))), (b6, .inl ((zk z).2.1, 40, .inl (fun _ => 0))), (b7, .inl ((zk z).2.1, 40, .inl (fun _ => 0))), (b8, .inl ((zk z).2.2, 40, .inl (fun _ => 0)))]) rfl dX6_init_64 rfl ?_
  refine r_aload_n E (q := 68) 0 dX6_init_67 rfl rfl rfl ?_
  refine r_bipush E (q := 70) (v := 40) dX6_init_68 (by decide) rfl ?_
  refine r_newi E (q := 72) T.rr (N := 40) (by decide) (by decide) (Nat.le_of_ble_eq_true rfl) (Nat.le_of_ble_eq_true rfl) dX6_init_70 rfl (fun b9 => ?_)
  refine r_putF E (q := 75) pX6_35 rfl (hin rfl) rfl 0 rfl rfl rfl (Nat.le_of_ble_eq_true rfl) (w' := [(a, .inr (6, [.ref b1, .ref b2, .ref b3, .int 0, .ref b4, .ref b5, .ref b6, .ref b7, .ref b8, .ref b9, .int 0, .null, .null, .null, .null, .null, .int 0, .null, .null, .null, .null, .int 0, .int 0, .int 0, .int 0, .null, .null, .null, .null, .null, .null, .int 0, .int 0, .int 0, .int 0, .int 0])), (b1, .inl ((zk z).2.1, 4, .inl (fun _ => 0))), (b2, .inl ((zk z).2.1, 72, .inl (fun _ => 0))), (b3, .inl ((zk z).2.1, 8, .inl (fun _ => 0))), (b4, .inl ((zk z).2.1, 40, .inl (fun _ => 0))), (b5, .inl ((zk z).2.1, 40, .inl (fun _ => 0))), (b6, .inl ((zk z).2.1, 40, .inl (fun _ => 0))), (b7, .inl ((zk z).2.1, 40, .inl (fun _ => 0))), (b8, .inl ((zk z).2.2, 40, .inl (fun _ => 0))), (b9, .inl ((zk z).2.1, 40, .inl (fun _ => 0)))]) rfl dX6_init_72 rfl ?_
  refine r_aload_n E (q := 76) 0 dX6_init_75 rfl rfl rfl ?_
  refine r_bipush E (q := 78) (v := 60) dX6_init_76 (by decide) rfl ?_
  refine r_newi E (q := 80) T.rr (N := 60) (by decide) (by decide) (Nat.le_of_ble_eq_true rfl) (Nat.le_of_ble_eq_true rfl) dX6_init_78 rfl (fun b10 => ?_)
  refine r_putF E (q := 83) pX6_38 rfl (hin rfl) rfl 0 rfl rfl rfl (Nat.le_of_ble_eq_true rfl) (w' := [(a, .inr (6, [.ref b1, .ref b2, .ref b3, .int 0, .ref b4, .ref b5, .ref b6, .ref b7, .ref b8, .ref b9, .int 0, .ref b10, .null, .null, .null, .null, .int 0, .null, .null, .null, .null, .int 0, .int 0, .int 0, .int 0, .null, .null, .null, .null, .null, .null, .int 0, .int 0, .int 0, .int 0, .int 0])), (b1, .inl ((zk z).2.1, 4, .inl (fun _ => 0))), (b2, .inl ((zk z).2.1, 72, .inl (fun _ => 0))), (b3, .inl ((zk z).2.1, 8, .inl (fun _ => 0))), (b4, .inl ((zk z).2.1, 40, .inl (fun _ => 0))), (b5, .inl ((zk z).2.1, 40, .inl (fun _ => 0))), (b6, .inl ((zk z).2.1, 40, .inl (fun _ => 0))), (b7, .inl ((zk z).2.1, 40, .inl (fun _ => 0))), (b8, .inl ((zk z).2.2, 40, .inl (fun _ => 0))), (b9, .inl ((zk z).2.1, 40, .inl (fun _ => 0))), (b10, .inl ((zk z).2.1, 60, .inl (fun _ => 0)))]) rfl dX6_init_80 rfl ?_
  refine r_aload_n E (q := 84) 0 dX6_init_83 rfl rfl rfl ?_
  refine r_bipush E (q := 86) (v := 60) dX6_init_84 (by decide) rfl ?_
  refine r_newi E (q := 88) T.rr (N := 60) (by decide) (by decide) (Nat.le_of_ble_eq_true rfl) (Nat.le_of_ble_eq_true rfl) dX6_init_86 rfl (fun b11 => ?_)
  refine r_putF E (q := 91) pX6_41 rfl (hin rfl) rfl 0 rfl rfl rfl (Nat.le_of_ble_eq_true rfl) (w' := [(a, .inr (6, [.ref b1, .ref b2, .ref b3, .int 0, .ref b4, .ref b5, .ref b6, .ref b7, .ref b8, .ref b9, .int 0, .ref b10, .ref b11, .null, .null, .null, .int 0, .null, .null, .null, .null, .int 0, .int 0, .int 0, .int 0, .null, .null, .null, .null, .null, .null, .int 0, .int 0, .int 0, .int 0, .int 0])), (b1, .inl ((zk z).2.1, 4, .inl (fun _ => 0))), (b2, .inl ((zk z).2.1, 72, .inl (fun _ => 0))), (b3, .inl ((zk z).2.1, 8, .inl (fun _ => 0))), (b4, .inl ((zk z).2.1, 40, .inl (fun _ => 0))), (b5, .inl ((zk z).2.1, 40, .inl (fun _ => 0))), (b6, .inl ((zk z).2.1, 40, .inl (fun _ => 0))), (b7, .inl ((zk z).2.1, 40, .inl (fun _ => 0))), (b8, .inl ((zk z).2.2, 40, .inl (fun _ => 0))), (b9, .inl ((zk z).2.1, 40, .inl (fun _ => 0))), (b10, .inl ((zk z).2.1, 60, .inl (fun _ => 0))), (b11, .inl ((zk z).2.1, 60, .inl (fun _ => 0)))]) rfl dX6_init_88 rfl ?_
  refine r_aload_n E (q := 92) 0 dX6_init_91 rfl rfl rfl ?_
  refine r_bipush E (q := 94) (v := 60) dX6_init_92 (by decide) rfl ?_
  refine r_newi E (q := 96) T.rr (N := 60) (by decide) (by decide) (Nat.le_of_ble_eq_true rfl) (Nat.le_of_ble_eq_true rfl) dX6_init_94 rfl (fun b12 => ?_)
  refine r_putF E (q := 99) pX6_44 rfl (hin rfl) rfl 0 rfl rfl rfl (Nat.le_of_ble_eq_true rfl) (w' := [(a, .inr (6, [.ref b1, .ref b2, .ref b3, .int 0, .ref b4, .ref b5, .ref b6, .ref b7, .ref b8, .ref b9, .int 0, .ref b10, .ref b11, .ref b12, .null, .null, .int 0, .null, .null, .null, .null, .int 0, .int 0, .int 0, .int 0, .null, .null, .null, .null, .null, .null, .int 0, .int 0, .int 0, .int 0, .int 0])), (b1, .inl ((zk z).2.1, 4, .inl (fun _ => 0))), (b2, .inl ((zk z).2.1, 72, .inl (fun _ => 0))), (b3, .inl ((zk z).2.1, 8, .inl (fun _ => 0))), (b4, .inl ((zk z).2.1, 40, .inl (fun _ => 0))), (b5, .inl ((zk z).2.1, 40, .inl (fun _ => 0))), (b6, .inl ((zk z).2.1, 40, .inl (fun _ => 0))), (b7, .inl ((zk z).2.1, 40, .inl (fun _ => 0))), (b8, .inl ((zk z).2.2, 40, .inl (fun _ => 0))), (b9, .inl ((zk z).2.1, 40, .inl (fun _ => 0))), (b10, .inl ((zk z).2.1, 60, .inl (fun _ => 0))), (b11, .inl ((zk z).2.1, 60, .inl (fun _ => 0))), (b12, .inl ((zk z).2.1, 60, .inl (fun _ => 0)))]) rfl dX6_init_96 rfl ?_
  refine r_aload_n E (q := 100) 0 dX6_init_99 rfl rfl rfl ?_
  refine r_bipush E (q := 102) (v := 60) dX6_init_100 (by decide) rfl ?_
  refine r_newi E (q := 104) T.rr (N := 60) (by decide) (by decide) (Nat.le_of_ble_eq_true rfl) (Nat.le_of_ble_eq_true rfl) dX6_init_102 rfl (fun b13 => ?_)
  refine r_putF E (q := 107) pX6_47 rfl (hin rfl) rfl 0 rfl rfl rfl (Nat.le_of_ble_eq_true rfl) (w' := [(a, .inr (6, [.ref b1, .ref b2, .ref b3, .int 0, .ref b4, .ref b5, .ref b6, .ref b7, .ref b8, .ref b9, .int 0, .ref b10, .ref b11, .ref b12, .ref b13, .null, .int 0, .null, .null, .null, .null, .int 0, .int 0, .int 0, .int 0, .null, .null, .null, .null, .null, .null, .int 0, .int 0, .int 0, .int 0, .int 0])), (b1, .inl ((zk z).2.1, 4, .inl (fun _ => 0))), (b2, .inl ((zk z).2.1, 72, .inl (fun _ => 0))), (b3, .inl ((zk z).2.1, 8, .inl (fun _ => 0))), (b4, .inl ((zk z).2.1, 40, .inl (fun _ => 0))), (b5, .inl ((zk z).2.1, 40, .inl (fun _ => 0))), (b6, .inl ((zk z).2.1, 40, .inl (fun _ => 0))), (b7, .inl ((zk z).2.1, 40, .inl (fun _ => 0))), (b8, .inl ((zk z).2.2, 40, .inl (fun _ => 0))), (b9, .inl ((zk z).2.1, 40, .inl (fun _ => 0))), (b10, .inl ((zk z).2.1, 60, .inl (fun _ => 0))), (b11, .inl ((zk z).2.1, 60, .inl (fun _ => 0))), (b12, .inl ((zk z).2.1, 60, .inl (fun _ => 0))), (b13, .inl ((zk z).2.1, 60, .inl (fun _ => 0)))]) rfl dX6_init_104 rfl ?_
  refine r_aload_n E (q := 108) 0 dX6_init_107 rfl rfl rfl ?_
  refine r_bipush E (q := 110) (v := 60) dX6_init_108 (by decide) rfl ?_
  refine r_newi E (q := 112) T.rr (N := 60) (by decide) (by decide) (Nat.le_of_ble_eq_true rfl) (Nat.le_of_ble_eq_true rfl) dX6_init_110 rfl (fun b14 => ?_)
  refine r_putF E (q := 115) pX6_50 rfl (hin rfl) rfl 0 rfl rfl rfl (Nat.le_of_ble_eq_true rfl) (w' := [(a, .inr (6, [.ref b1, .ref b2, .ref b3, .int 0, .ref b4, .ref b5, .ref b6, .ref b7, .ref b8, .ref b9, .int 0, .ref b10, .ref b11, .ref b12, .ref b13, .ref b14, .int 0, .null, .null, .null, .null, .int 0, .int 0, .int 0, .int 0, .null, .null, .null, .null, .null, .null, .int 0, .int 0, .int 0, .int 0, .int 0])), (b1, .inl ((zk z).2.1, 4, .inl (fun _ => 0))), (b2, .inl ((zk z).2.1, 72, .inl (fun _ => 0))), (b3, .inl ((zk z).2.1, 8, .inl (fun _ => 0))), (b4, .inl ((zk z).2.1, 40, .inl (fun _ => 0))), (b5, .inl ((zk z).2.1, 40, .inl (fun _ => 0))), (b6, .inl ((zk z).2.1, 40, .inl (fun _ => 0))), (b7, .inl ((zk z).2.1, 40, .inl (fun _ => 0))), (b8, .inl ((zk z).2.2, 40, .inl (fun _ => 0))), (b9, .inl ((zk z).2.1, 40, .inl (fun _ => 0))), (b10, .inl ((zk z).2.1, 60, .inl (fun _ => 0))), (b11, .inl ((zk z).2.1, 60, .inl (fun _ => 0))), (b12, .inl ((zk z).2.1, 60, .inl (fun _ => 0))), (b13, .inl ((zk z).2.1, 60, .inl (fun _ => 0))), (b14, .inl ((zk z).2.1, 60, .inl (fun _ => 0)))]) rfl dX6_init_112 rfl ?_
  refine r_aload_n E (q := 116) 0 dX6_init_115 rfl rfl rfl ?_
  refine r_bipush E (q := 118) (v := 60) dX6_init_116 (by decide) rfl ?_
  refine r_newi E (q := 120) T.rr (N := 60) (by decide) (by decide) (Nat.le_of_ble_eq_true rfl) (Nat.le_of_ble_eq_true rfl) dX6_init_118 rfl (fun b15 => ?_)
  refine r_putF E (q := 123) pX6_53 rfl (hin rfl) rfl 0 rfl rfl rfl (Nat.le_of_ble_eq_true rfl) (w' := [(a, .inr (6, [.ref b1, .ref b2, .ref b3, .int 0, .ref b4, .ref b5, .ref b6, .ref b7, .ref b8, .ref b9, .int 0, .ref b10, .ref b11, .ref b12, .ref b13, .ref b14, .int 0, .ref b15, .null, .null, .null, .int 0, .int 0, .int 0, .int 0, .null, .null, .null, .null, .null, .null, .int 0, .int 0, .int 0, .int 0, .int 0])), (b1, .inl ((zk z).2.1, 4, .inl (fun _ => 0))), (b2, .inl ((zk z).2.1, 72, .inl (fun _ => 0))), (b3, .inl ((zk z).2.1, 8, .inl (fun _ => 0))), (b4, .inl ((zk z).2.1, 40, .inl (fun _ => 0))), (b5, .inl ((zk z).2.1, 40, .inl (fun _ => 0))), (b6, .inl ((zk z).2.1, 40, .inl (fun _ => 0))), (b7, .inl ((zk z).2.1, 40, .inl (fun _ => 0))), (b8, .inl ((zk z).2.2, 40, .inl (fun _ => 0))), (b9, .inl ((zk z).2.1, 40, .inl (fun _ => 0))), (b10, .inl ((zk z).2.1, 60, .inl (fun _ => 0))), (b11, .inl ((zk z).2.1, 60, .inl (fun _ => 0))), (b12, .inl ((zk z).2.1, 60, .inl (fun _ => 0))), (b13, .inl ((zk z).2.1, 60, .inl (fun _ => 0))), (b14, .inl ((zk z).2.1, 60, .inl (fun _ => 0))), (b15, .inl ((zk z).2.1, 60, .inl (fun _ => 0)))]) rfl dX6_init_120 rfl ?_
  refine r_aload_n E (q := 124) 0 dX6_init_123 rfl rfl rfl ?_
  refine r_bipush E (q := 126) (v := 60) dX6_init_124 (by decide) rfl ?_
  refine r_newz E (q := 128) T.rr (N := 60) (by decide) (by decide) (Nat.le_of_ble_eq_true rfl) (Nat.le_of_ble_eq_true rfl) dX6_init_126 rfl (fun b16 => ?_)
  refine r_putF E (q := 131) pX6_56 rfl (hin rfl) rfl 0 rfl rfl rfl (Nat.le_of_ble_eq_true rfl) (w' := [(a, .inr (6, [.ref b1, .ref b2, .ref b3, .int 0, .ref b4, .ref b5, .ref b6, .ref b7, .ref b8, .ref b9, .int 0, .ref b10, .ref b11, .ref b12, .ref b13, .ref b14, .int 0, .ref b15, .ref b16, .null, .null, .int 0, .int 0, .int 0, .int 0, .null, .null, .null, .null, .null, .null, .int 0, .int 0, .int 0, .int 0, .int 0])), (b1, .inl ((zk z).2.1, 4, .inl (fun _ => 0))), (b2, .inl ((zk z).2.1, 72, .inl (fun _ => 0))), (b3, .inl ((zk z).2.1, 8, .inl (fun _ => 0))), (b4, .inl ((zk z).2.1, 40, .inl (fun _ => 0))), (b5, .inl ((zk z).2.1, 40, .inl (fun _ => 0))), (b6, .inl ((zk z).2.1, 40, .inl (fun _ => 0))), (b7, .inl ((zk z).2.1, 40, .inl (fun _ => 0))), (b8, .inl ((zk z).2.2, 40, .inl (fun _ => 0))), (b9, .inl ((zk z).2.1, 40, .inl (fun _ => 0))), (b10, .inl ((zk z).2.1, 60, .inl (fun _ => 0))), (b11, .inl ((zk z).2.1, 60, .inl (fun _ => 0))), (b12, .inl ((zk z).2.1, 60, .inl (fun _ => 0))), (b13, .inl ((zk z).2.1, 60, .inl (fun _ => 0))), (b14, .inl ((zk z).2.1, 60, .inl (fun _ => 0))), (b15, .inl ((zk z).2.1, 60, .inl (fun _ => 0))), (b16, .inl ((zk z).2.2, 60, .inl (fun _ => 0)))]) rfl dX6_init_128 rfl ?_
  refine r_aload_n E (q := 132) 0 dX6_init_131 rfl rfl rfl ?_
  refine r_bipush E (q := 134) (v := 40) dX6_init_132 (by decide) rfl ?_
  refine r_newi E (q := 136) T.rr (N := 40) (by decide) (by decide) (Nat.le_of_ble_eq_true rfl) (Nat.le_of_ble_eq_true rfl) dX6_init_134 rfl (fun b17 => ?_)
  refine r_putF E (q := 139) pX6_59 rfl (hin rfl) rfl 0 rfl rfl rfl (Nat.le_of_ble_eq_true rfl) (w' := [(a, .inr (6, [.ref b1, .ref b2, .ref b3, .int 0, .ref b4, .ref b5, .ref b6, .ref b7, .ref b8, .ref b9, .int 0, .ref b10, .ref b11, .ref b12, .ref b13, .ref b14, .int 0, .ref b15, .ref b16, .ref b17, .null, .int 0, .int 0, .int 0, .int 0, .null, .null, .null, .null, .null, .null, .int 0, .int 0, .int 0, .int 0, .int 0])), (b1, .inl ((zk z).2.1, 4, .inl (fun _ => 0))), (b2, .inl ((zk z).2.1, 72, .inl (fun _ => 0))), (b3, .inl ((zk z).2.1, 8, .inl (fun _ => 0))), (b4, .inl ((zk z).2.1, 40, .inl (fun _ => 0))), (b5, .inl ((zk z).2.1, 40, .inl (fun _ => 0))), (b6, .inl ((zk z).2.1, 40, .inl (fun _ => 0))), (b7, .inl ((zk z).2.1, 40, .inl (fun _ => 0))), (b8, .inl ((zk z).2.2, 40, .inl (fun _ => 0))), (b9, .inl ((zk z).2.1, 40, .inl (fun _ => 0))), (b10, .inl ((zk z).2.1, 60, .inl (fun _ => 0))), (b11, .inl ((zk z).2.1, 60, .inl (fun _ => 0))), (b12, .inl ((zk z).2.1, 60, .inl (fun _ => 0))), (b13, .inl ((zk z).2.1, 60, .inl (fun _ => 0))), (b14, .inl ((zk z).2.1, 60, .inl (fun _ => 0))), (b15, .inl ((zk z).2.1, 60, .inl (fun _ => 0))), (b16, .inl ((zk z).2.2, 60, .inl (fun _ => 0))), (b17, .inl ((zk z).2.1, 40, .inl (fun _ => 0)))]) rfl dX6_init_136 rfl ?_
  refine r_aload_n E (q := 140) 0 dX6_init_139 rfl rfl rfl ?_
  refine r_bipush E (q := 142) (v := 40) dX6_init_140 (by decide) rfl ?_
  refine r_newi E (q := 144) T.rr (N := 40) (by decide) (by decide) (Nat.le_of_ble_eq_true rfl) (Nat.le_of_ble_eq_true rfl) dX6_init_142 rfl (fun b18 => ?_)
  refine r_putF E (q := 147) pX6_62 rfl (hin rfl) rfl 0 rfl rfl rfl (Nat.le_of_ble_eq_true rfl) (w' := [(a, .inr (6, [.ref b1, .ref b2, .ref b3, .int 0, .ref b4, .ref b5, .ref b6, .ref b7, .ref b8, .ref b9, .int 0, .ref b10, .ref b11, .ref b12, .ref b13, .ref b14, .int 0, .ref b15, .ref b16, .ref b17, .ref b18, .int 0, .int 0, .int 0, .int 0, .null, .null, .null, .null, .null, .null, .int 0, .int 0, .int 0, .int 0, .int 0])), (b1, .inl ((zk z).2.1, 4, .inl (fun _ => 0))), (b2, .inl ((zk z).2.1, 72, .inl (fun _ => 0))), (b3, .inl ((zk z).2.1, 8, .inl (fun _ => 0))), (b4, .inl ((zk z).2.1, 40, .inl (fun _ => 0))), (b5, .inl ((zk z).2.1, 40, .inl (fun _ => 0))), (b6, .inl ((zk z).2.1, 40, .inl (fun _ => 0))), (b7, .inl ((zk z).2.1, 40, .inl (fun _ => 0))), (b8, .inl ((zk z).2.2, 40, .inl (fun _ => 0))), (b9, .inl ((zk z).2.1, 40, .inl (fun _ => 0))), (b10, .inl ((zk z).2.1, 60, .inl (fun _ => 0))), (b11, .inl ((zk z).2.1, 60, .inl (fun _ => 0))), (b12, .inl ((zk z).2.1, 60, .inl (fun _ => 0))), (b13, .inl ((zk z).2.1, 60, .inl (fun _ => 0))), (b14, .inl ((zk z).2.1, 60, .inl (fun _ => 0))), (b15, .inl ((zk z).2.1, 60, .inl (fun _ => 0))), (b16, .inl ((zk z).2.2, 60, .inl (fun _ => 0))), (b17, .inl ((zk z).2.1, 40, .inl (fun _ => 0))), (b18, .inl ((zk z).2.1, 40, .inl (fun _ => 0)))]) rfl dX6_init_144 rfl ?_
  refine r_aload_n E (q := 148) 0 dX6_init_147 rfl rfl rfl ?_
  refine r_bipush E (q := 150) (v := 40) dX6_init_148 (by decide) rfl ?_
  refine r_newi E (q := 152) T.rr (N := 40) (by decide) (by decide) (Nat.le_of_ble_eq_true rfl) (Nat.le_of_ble_eq_true rfl) dX6_init_150 rfl (fun b19 => ?_)
  refine r_putF E (q := 155) pX6_65 rfl (hin rfl) rfl 0 rfl rfl rfl (Nat.le_of_ble_eq_true rfl) (w' := [(a, .inr (6, [.ref b1, .ref b2, .ref b3, .int 0, .ref b4, .ref b5, .ref b6, .ref b7, .ref b8, .ref b9, .int 0, .ref b10, .ref b11, .ref b12, .ref b13, .ref b14, .int 0, .ref b15, .ref b16, .ref b17, .ref b18, .int 0, .int 0, .int 0, .int 0, .ref b19, .null, .null, .null, .null, .null, .int 0, .int 0, .int 0, .int 0, .int 0])), (b1, .inl ((zk z).2.1, 4, .inl (fun _ => 0))), (b2, .inl ((zk z).2.1, 72, .inl (fun _ => 0))), (b3, .inl ((zk z).2.1, 8, .inl (fun _ => 0))), (b4, .inl ((zk z).2.1, 40, .inl (fun _ => 0))), (b5, .inl ((zk z).2.1, 40, .inl (fun _ => 0))), (b6, .inl ((zk z).2.1, 40, .inl (fun _ => 0))), (b7, .inl ((zk z).2.1, 40, .inl (fun _ => 0))), (b8, .inl ((zk z).2.2, 40, .inl (fun _ => 0))), (b9, .inl ((zk z).2.1, 40, .inl (fun _ => 0))), (b10, .inl ((zk z).2.1, 60, .inl (fun _ => 0))), (b11, .inl ((zk z).2.1, 60, .inl (fun _ => 0))), (b12, .inl ((zk z).2.1, 60, .inl (fun _ => 0))), (b13, .inl ((zk z).2.1, 60, .inl (fun _ => 0))), (b14, .inl ((zk z).2.1, 60, .inl (fun _ => 0))), (b15, .inl ((zk z).2.1, 60, .inl (fun _ => 0))), (b16, .inl ((zk z).2.2, 60, .inl (fun _ => 0))), (b17, .inl ((zk z).2.1, 40, .inl (fun _ => 0))), (b18, .inl ((zk z).2.1, 40, .inl (fun _ => 0))), (b19, .inl ((zk z).2.1, 40, .inl (fun _ => 0)))]) rfl dX6_init_152 rfl ?_
  refine r_aload_n E (q := 156) 0 dX6_init_155 rfl rfl rfl ?_
  refine r_ldc E (q := 158) kX6_68 dX6_init_156 rfl ?_
  refine r_newi E (q := 160) T.rr (N := 36000) (by decide) (by decide) (Nat.le_of_ble_eq_true rfl) (Nat.le_of_ble_eq_true rfl) dX6_init_158 rfl (fun b20 => ?_)
  refine r_putF E (q := 163) pX6_69 rfl (hin rfl) rfl 0 rfl rfl rfl (Nat.le_of_ble_eq_true rfl) (w' := [(a, .inr (6, [.ref b1, .ref b2, .ref b3, .int 0, .ref b4, .ref b5, .ref b6, .ref b7, .ref b8, .ref b9, .int 0, .ref b10, .ref b11, .ref b12, .ref b13, .ref b14, .int 0, .ref b15, .ref b16, .ref b17, .ref b18, .int 0, .int 0, .int 0, .int 0, .ref b19, .ref b20, .null, .null, .null, .null, .int 0, .int 0, .int 0, .int 0, .int 0])), (b1, .inl ((zk z).2.1, 4, .inl (fun _ => 0))), (b2, .inl ((zk z).2.1, 72, .inl (fun _ => 0))), (b3, .inl ((zk z).2.1, 8, .inl (fun _ => 0))), (b4, .inl ((zk z).2.1, 40, .inl (fun _ => 0))), (b5, .inl ((zk z).2.1, 40, .inl (fun _ => 0))), (b6, .inl ((zk z).2.1, 40, .inl (fun _ => 0))), (b7, .inl ((zk z).2.1, 40, .inl (fun _ => 0))), (b8, .inl ((zk z).2.2, 40, .inl (fun _ => 0))), (b9, .inl ((zk z).2.1, 40, .inl (fun _ => 0))), (b10, .inl ((zk z).2.1, 60, .inl (fun _ => 0))), (b11, .inl ((zk z).2.1, 60, .inl (fun _ => 0))), (b12, .inl ((zk z).2.1, 60, .inl (fun _ => 0))), (b13, .inl ((zk z).2.1, 60, .inl (fun _ => 0))), (b14, .inl ((zk z).2.1, 60, .inl (fun _ => 0))), (b15, .inl ((zk z).2.1, 60, .inl (fun _ => 0))), (b16, .inl ((zk z).2.2, 60, .inl (fun _ => 0))), (b17, .inl ((zk z).2.1, 40, .inl (fun _ => 0))), (b18, .inl ((zk z).2.1, 40, .inl (fun _ => 0))), (b19, .inl ((zk z).2.1, 40, .inl (fun _ => 0))), (b20, .inl ((zk z).2.1, 36000, .inl (fun _ => 0)))]) rfl dX6_init_160 rfl ?_
  refine r_aload_n E (q := 164) 0 dX6_init_163 rfl rfl rfl ?_
  refine r_bipush E (q := 166) (v := 60) dX6_init_164 (by decide) rfl ?_
  refine r_newi E (q := 168) T.rr (N := 60) (by decide) (by decide) (Nat.le_of_ble_eq_true rfl) (Nat.le_of_ble_eq_true rfl) dX6_init_166 rfl (fun b21 => ?_)
  refine r_putF E (q := 171) pX6_72 rfl (hin rfl) rfl 0 rfl rfl rfl (Nat.le_of_ble_eq_true rfl) (w' := [(a, .inr (6, [.ref b1, .ref b2, .ref b3, .int 0, .ref b4, .ref b5, .ref b6, .ref b7, .ref b8, .ref b9, .int 0, .ref b10, .ref b11, .ref b12, .ref b13, .ref b14, .int 0, .ref b15, .ref b16, .ref b17, .ref b18, .int 0, .int 0, .int 0, .int 0, .ref b19, .ref b20, .ref b21, .null, .null, .null, .int 0, .int 0, .int 0, .int 0, .int 0])), (b1, .inl ((zk z).2.1, 4, .inl (fun _ => 0))), (b2, .inl ((zk z).2.1, 72, .inl (fun _ => 0))), (b3, .inl ((zk z).2.1, 8, .inl (fun _ => 0))), (b4, .inl ((zk z).2.1, 40, .inl (fun _ => 0))), (b5, .inl ((zk z).2.1, 40, .inl (fun _ => 0))), (b6, .inl ((zk z).2.1, 40, .inl (fun _ => 0))), (b7, .inl ((zk z).2.1, 40, .inl (fun _ => 0))), (b8, .inl ((zk z).2.2, 40, .inl (fun _ => 0))), (b9, .inl ((zk z).2.1, 40, .inl (fun _ => 0))), (b10, .inl ((zk z).2.1, 60, .inl (fun _ => 0))), (b11, .inl ((zk z).2.1, 60, .inl (fun _ => 0))), (b12, .inl ((zk z).2.1, 60, .inl (fun _ => 0))), (b13, .inl ((zk z).2.1, 60, .inl (fun _ => 0))), (b14, .inl ((zk z).2.1, 60, .inl (fun _ => 0))), (b15, .inl ((zk z).2.1, 60, .inl (fun _ => 0))), (b16, .inl ((zk z).2.2, 60, .inl (fun _ => 0))), (b17, .inl ((zk z).2.1, 40, .inl (fun _ => 0))), (b18, .inl ((zk z).2.1, 40, .inl (fun _ => 0))), (b19, .inl ((zk z).2.1, 40, .inl (fun _ => 0))), (b20, .inl ((zk z).2.1, 36000, .inl (fun _ => 0))), (b21, .inl ((zk z).2.1, 60, .inl (fun _ => 0)))]) rfl dX6_init_168 rfl ?_
  refine r_aload_n E (q := 172) 0 dX6_init_171 rfl rfl rfl ?_
  refine r_bipush E (q := 174) (v := 60) dX6_init_172 (by decide) rfl ?_
  refine r_newz E (q := 176) T.rr (N := 60) (by decide) (by decide) (Nat.le_of_ble_eq_true rfl) (Nat.le_of_ble_eq_true rfl) dX6_init_174 rfl (fun b22 => ?_)
  refine r_putF E (q := 179) pX6_75 rfl (hin rfl) rfl 0 rfl rfl rfl (Nat.le_of_ble_eq_true rfl) (w' := [(a, .inr (6, [.ref b1, .ref b2, .ref b3, .int 0, .ref b4, .ref b5, .ref b6, .ref b7, .ref b8, .ref b9, .int 0, .ref b10, .ref b11, .ref b12, .ref b13, .ref b14, .int 0, .ref b15, .ref b16, .ref b17, .ref b18, .int 0, .int 0, .int 0, .int 0, .ref b19, .ref b20, .ref b21, .ref b22, .null, .null, .int 0, .int 0, .int 0, .int 0, .int 0])), (b1, .inl ((zk z).2.1, 4, .inl (fun _ => 0))), (b2, .inl ((zk z).2.1, 72, .inl (fun _ => 0))), (b3, .inl ((zk z).2.1, 8, .inl (fun _ => 0))), (b4, .inl ((zk z).2.1, 40, .inl (fun _ => 0))), (b5, .inl ((zk z).2.1, 40, .inl (fun _ => 0))), (b6, .inl ((zk z).2.1, 40, .inl (fun _ => 0))), (b7, .inl ((zk z).2.1, 40, .inl (fun _ => 0))), (b8, .inl ((zk z).2.2, 40, .inl (fun _ => 0))), (b9, .inl ((zk z).2.1, 40, .inl (fun _ => 0))), (b10, .inl ((zk z).2.1, 60, .inl (fun _ => 0))), (b11, .inl ((zk z).2.1, 60, .inl (fun _ => 0))), (b12, .inl ((zk z).2.1, 60, .inl (fun _ => 0))), (b13, .inl ((zk z).2.1, 60, .inl (fun _ => 0))), (b14, .inl ((zk z).2.1, 60, .inl (fun _ => 0))), (b15, .inl ((zk z).2.1, 60, .inl (fun _ => 0))), (b16, .inl ((zk z).2.2, 60, .inl (fun _ => 0))), (b17, .inl ((zk z).2.1, 40, .inl (fun _ => 0))), (b18, .inl ((zk z).2.1, 40, .inl (fun _ => 0))), (b19, .inl ((zk z).2.1, 40, .inl (fun _ => 0))), (b20, .inl ((zk z).2.1, 36000, .inl (fun _ => 0))), (b21, .inl ((zk z).2.1, 60, .inl (fun _ => 0))), (b22, .inl ((zk z).2.2, 60, .inl (fun _ => 0)))]) rfl dX6_init_176 rfl ?_
  refine r_aload_n E (q := 180) 0 dX6_init_179 rfl rfl rfl ?_
  refine r_bipush E (q := 182) (v := 60) dX6_init_180 (by decide) rfl ?_
  refine r_newi E (q := 184) T.rr (N := 60) (by decide) (by decide) (Nat.le_of_ble_eq_true rfl) (Nat.le_of_ble_eq_true rfl) dX6_init_182 rfl (fun b23 => ?_)
  refine r_putF E (q := 187) pX6_78 rfl (hin rfl) rfl 0 rfl rfl rfl (Nat.le_of_ble_eq_true rfl) (w' := [(a, .inr (6, [.ref b1, .ref b2, .ref b3, .int 0, .ref b4, .ref b5, .ref b6, .ref b7, .ref b8, .ref b9, .int 0, .ref b10, .ref b11, .ref b12, .ref b13, .ref b14, .int 0, .ref b15, .ref b16, .ref b17, .ref b18, .int 0, .int 0, .int 0, .int 0, .ref b19, .ref b20, .ref b21, .ref b22, .ref b23, .null, .int 0, .int 0, .int 0, .int 0, .int 0])), (b1, .inl ((zk z).2.1, 4, .inl (fun _ => 0))), (b2, .inl ((zk z).2.1, 72, .inl (fun _ => 0))), (b3, .inl ((zk z).2.1, 8, .inl (fun _ => 0))), (b4, .inl ((zk z).2.1, 40, .inl (fun _ => 0))), (b5, .inl ((zk z).2.1, 40, .inl (fun _ => 0))), (b6, .inl ((zk z).2.1, 40, .inl (fun _ => 0))), (b7, .inl ((zk z).2.1, 40, .inl (fun _ => 0))), (b8, .inl ((zk z).2.2, 40, .inl (fun _ => 0))), (b9, .inl ((zk z).2.1, 40, .inl (fun _ => 0))), (b10, .inl ((zk z).2.1, 60, .inl (fun _ => 0))), (b11, .inl ((zk z).2.1, 60, .inl (fun _ => 0))), (b12, .inl ((zk z).2.1, 60, .inl (fun _ => 0))), (b13, .inl ((zk z).2.1, 60, .inl (fun _ => 0))), (b14, .inl ((zk z).2.1, 60, .inl (fun _ => 0))), (b15, .inl ((zk z).2.1, 60, .inl (fun _ => 0))), (b16, .inl ((zk z).2.2, 60, .inl (fun _ => 0))), (b17, .inl ((zk z).2.1, 40, .inl (fun _ => 0))), (b18, .inl ((zk z).2.1, 40, .inl (fun _ => 0))), (b19, .inl ((zk z).2.1, 40, .inl (fun _ => 0))), (b20, .inl ((zk z).2.1, 36000, .inl (fun _ => 0))), (b21, .inl ((zk z).2.1, 60, .inl (fun _ => 0))), (b22, .inl ((zk z).2.2, 60, .inl (fun _ => 0))), (b23, .inl ((zk z).2.1, 60, .inl (fun _ => 0)))]) rfl dX6_init_184 rfl ?_
  refine r_aload_n E (q := 188) 0 dX6_init_187 rfl rfl rfl ?_
  refine r_sipush E (q := 191) (v := 600) dX6_init_188 (by decide) rfl ?_
  refine r_newi E (q := 193) T.rr (N := 600) (by decide) (by decide) (Nat.le_of_ble_eq_true rfl) (Nat.le_of_ble_eq_true rfl) dX6_init_191 rfl (fun b24 => ?_)
  refine r_putF E (q := 196) pX6_81 rfl (hin rfl) rfl 0 rfl rfl rfl (Nat.le_of_ble_eq_true rfl) (w' := [(a, .inr (6, [.ref b1, .ref b2, .ref b3, .int 0, .ref b4, .ref b5, .ref b6, .ref b7, .ref b8, .ref b9, .int 0, .ref b10, .ref b11, .ref b12, .ref b13, .ref b14, .int 0, .ref b15, .ref b16, .ref b17, .ref b18, .int 0, .int 0, .int 0, .int 0, .ref b19, .ref b20, .ref b21, .ref b22, .ref b23, .ref b24, .int 0, .int 0, .int 0, .int 0, .int 0])), (b1, .inl ((zk z).2.1, 4, .inl (fun _ => 0))), (b2, .inl ((zk z).2.1, 72, .inl (fun _ => 0))), (b3, .inl ((zk z).2.1, 8, .inl (fun _ => 0))), (b4, .inl ((zk z).2.1, 40, .inl (fun _ => 0))), (b5, .inl ((zk z).2.1, 40, .inl (fun _ => 0))), (b6, .inl ((zk z).2.1, 40, .inl (fun _ => 0))), (b7, .inl ((zk z).2.1, 40, .inl (fun _ => 0))), (b8, .inl ((zk z).2.2, 40, .inl (fun _ => 0))), (b9, .inl ((zk z).2.1, 40, .inl (fun _ => 0))), (b10, .inl ((zk z).2.1, 60, .inl (fun _ => 0))), (b11, .inl ((zk z).2.1, 60, .inl (fun _ => 0))), (b12, .inl ((zk z).2.1, 60, .inl (fun _ => 0))), (b13, .inl ((zk z).2.1, 60, .inl (fun _ => 0))), (b14, .inl ((zk z).2.1, 60, .inl (fun _ => 0))), (b15, .inl ((zk z).2.1, 60, .inl (fun _ => 0))), (b16, .inl ((zk z).2.2, 60, .inl (fun _ => 0))), (b17, .inl ((zk z).2.1, 40, .inl (fun _ => 0))), (b18, .inl ((zk z).2.1, 40, .inl (fun _ => 0))), (b19, .inl ((zk z).2.1, 40, .inl (fun _ => 0))), (b20, .inl ((zk z).2.1, 36000, .inl (fun _ => 0))), (b21, .inl ((zk z).2.1, 60, .inl (fun _ => 0))), (b22, .inl ((zk z).2.2, 60, .inl (fun _ => 0))), (b23, .inl ((zk z).2.1, 60, .inl (fun _ => 0))), (b24, .inl ((zk z).2.1, 600, .inl (fun _ => 0)))]) rfl dX6_init_193 rfl ?_
  refine r_aload_n E (q := 197) 0 dX6_init_196 rfl rfl rfl ?_
  refine r_iconst E (q := 198) (v := (-1)) dX6_init_197 (by decide) rfl ?_
  refine r_put E (q := 201) pX6_84 rfl 0 rfl rfl rfl (Nat.le_of_ble_eq_true rfl) (w' := [(a, .inr (6, [.ref b1, .ref b2, .ref b3, .int 0, .ref b4, .ref b5, .ref b6, .ref b7, .ref b8, .ref b9, .int 0, .ref b10, .ref b11, .ref b12, .ref b13, .ref b14, .int 0, .ref b15, .ref b16, .ref b17, .ref b18, .int 0, .int 0, .int 0, .int 0, .ref b19, .ref b20, .ref b21, .ref b22, .ref b23, .ref b24, .int 0, .int 0, .int 0, .int 0, .int (-1)])), (b1, .inl ((zk z).2.1, 4, .inl (fun _ => 0))), (b2, .inl ((zk z).2.1, 72, .inl (fun _ => 0))), (b3, .inl ((zk z).2.1, 8, .inl (fun _ => 0))), (b4, .inl ((zk z).2.1, 40, .inl (fun _ => 0))), (b5, .inl ((zk z).2.1, 40, .inl (fun _ => 0))), (b6, .inl ((zk z).2.1, 40, .inl (fun _ => 0))), (b7, .inl ((zk z).2.1, 40, .inl (fun _ => 0))), (b8, .inl ((zk z).2.2, 40, .inl (fun _ => 0))), (b9, .inl ((zk z).2.1, 40, .inl (fun _ => 0))), (b10, .inl ((zk z).2.1, 60, .inl (fun _ => 0))), (b11, .inl ((zk z).2.1, 60, .inl (fun _ => 0))), (b12, .inl ((zk z).2.1, 60, .inl (fun _ => 0))), (b13, .inl ((zk z).2.1, 60, .inl (fun _ => 0))), (b14, .inl ((zk z).2.1, 60, .inl (fun _ => 0))), (b15, .inl ((zk z).2.1, 60, .inl (fun _ => 0))), (b16, .inl ((zk z).2.2, 60, .inl (fun _ => 0))), (b17, .inl ((zk z).2.1, 40, .inl (fun _ => 0))), (b18, .inl ((zk z).2.1, 40, .inl (fun _ => 0))), (b19, .inl ((zk z).2.1, 40, .inl (fun _ => 0))), (b20, .inl ((zk z).2.1, 36000, .inl (fun _ => 0))), (b21, .inl ((zk z).2.1, 60, .inl (fun _ => 0))), (b22, .inl ((zk z).2.2, 60, .inl (fun _ => 0))), (b23, .inl ((zk z).2.1, 60, .inl (fun _ => 0))), (b24, .inl ((zk z).2.1, 600, .inl (fun _ => 0)))]) rfl dX6_init_198 rfl ?_
  refine r_widen (c2 := 24) (s2 := 37644) (Nat.le_of_ble_eq_true rfl) (Nat.le_of_ble_eq_true rfl) ?_
  exact r_vret E T dX6_init_201 ⟨rfl, (fun i => ([a, b1, b2, b3, b4, b5, b6, b7, b8, b9, b10, b11, b12, b13, b14, b15, b16, b17, b18, b19, b20, b21, b22, b23, b24] : List Nat).getD i 0), rfl, rfl⟩
