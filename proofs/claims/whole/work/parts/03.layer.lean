/-! THE LAYER: a judgement over worlds (heap, frame and locals hidden), and a row an instruction over it -/
abbrev Kt : Type := va_G × ClassId × ClassId
def kT (k : Kt) : List (ClassId × FieldType) := [(k.2.1, .int), (k.2.2, .boolean)]
abbrev Zt : Type := Program × Launch × Env × Room × State × MethodId × Array Value × List Frame × Method × Code × Kt × (Nat → Prop) × Nat × (State → Prop)
def zp (z : Zt) : Program := z.1
def zl (z : Zt) : Launch := z.2.1
def ze (z : Zt) : Env := z.2.2.1
def zR (z : Zt) : Room := z.2.2.2.1
def zs (z : Zt) : State := z.2.2.2.2.1
def zm (z : Zt) : MethodId := z.2.2.2.2.2.1
def za (z : Zt) : Array Value := z.2.2.2.2.2.2.1
def zb (z : Zt) : List Frame := z.2.2.2.2.2.2.2.1
def zM (z : Zt) : Method := z.2.2.2.2.2.2.2.2.1
def zc (z : Zt) : Code := z.2.2.2.2.2.2.2.2.2.1
def zk (z : Zt) : Kt := z.2.2.2.2.2.2.2.2.2.2.1
def zA (z : Zt) : Nat → Prop := z.2.2.2.2.2.2.2.2.2.2.2.1
def zn (z : Zt) : Nat := z.2.2.2.2.2.2.2.2.2.2.2.2.1
def zQ (z : Zt) : State → Prop := z.2.2.2.2.2.2.2.2.2.2.2.2.2
abbrev Lv : Type := List (Nat × Value)
def WW (z : Zt) (cells slots : Nat) (w : va_W) (pc : Nat) (lv : Lv) (st : List Value) : Prop :=
  ∀ (H : Heap) (locs : List Loc) (ls : Array Slot), va_P (zk z).1 vwCl w H → va_D (zA z) w → va_S (zA z) (zs z).heap H locs → lv_has ls (zn z) lv →
    W (zp z) (zl z) (ze z) (zR z) (zs z) (zm z) (za z) (zb z) (zM z) (zc z) H locs cells slots (zQ z) (F0 (zm z) pc ls st)
/-- the three tables of the rules, in statics -/
def uT (j : Nat) : Int32 := ([1, 1, 1, 1, 1, 1, 1, 1, 2, 3, 3, 3, 6, 6, 7, 8, 7, 8] : List Int32).getD j 0
def lT (j : Nat) : Int32 := ([2, 3, 4, 4, 5, 6, 7, 1, 2, 3, 2, 5, 5, 3, 7, 8, 5, 2] : List Int32).getD j 0
def nT (j : Nat) : Int32 := ([1, 1, 1, 1, 2, 1, 1, 0, 0, 0, 0, 2, 3, 0, 0, 0, 3, 1] : List Int32).getD j 0
def SX1 (n : String) (f : Nat → Int32) (A : Nat → Prop) (U : State) (H : Heap) : Prop := ∃ t : Nat, va_Z RX2 n "[I" (.ref t) A U H ∧ va_T .int t 18 (fun j => .int (f j)) A U H
def SX (A : Nat → Prop) (U : State) (H : Heap) : Prop := SX1 "UPPER" uT A U H ∧ SX1 "LOWER" lT A U H ∧ SX1 "NEW_NODES" nT A U H
theorem SX1.to {n : String} {f : Nat → Int32} {A B : Nat → Prop} {s U : State} {H0 H : Heap} (h : SX1 n f A s H0) (hvm : s.vm.Alike U.vm) (hq : ∀ a : Nat, a < H0.size → ¬ A a → H[a]? = H0[a]?) (hAB : ∀ q, B q → A q) : SX1 n f B U H := by
  obtain ⟨t, h1, h2⟩ := h
  exact ⟨t, ((h1.kept hq).narrow hAB).moved hvm, ((h2.kept hq).narrow hAB).moved hvm⟩
theorem SX.to {A B : Nat → Prop} {s U : State} {H0 H : Heap} (h : SX A s H0) (hvm : s.vm.Alike U.vm) (hq : ∀ a : Nat, a < H0.size → ¬ A a → H[a]? = H0[a]?) (hAB : ∀ q, B q → A q) : SX B U H :=
  ⟨h.1.to hvm hq hAB, h.2.1.to hvm hq hAB, h.2.2.to hvm hq hAB⟩
/-- the links between nest mates -/
def NXl : List (String × Nat × MethodName) := [(RX5, 11, yX4_init), (RX5, 18, yX0_init), (RX0, 35, yX5_isMember), (RX1, 61, yX5_isMember), (RX1, 73, yX5_isSet), (RX3, 155, yX5_isIn), (RX2, 54, yX5_isIn), (RX2, 60, yX5_isWithin)]
def NX (U : State) : Prop := ∀ q ∈ NXl, va_Nw (.methodLinkNest q.1 q.2.1 q.2.2 RX5) U
theorem NX.to {s U : State} (h : NX s) (hW : s.WarmedH U.vm) : NX U := fun q hq => va_Nw.warmM hW (h q hq)
def EN (z : Zt) (cc : ByteArray) (own : String) : Prop :=
  (zp z).tables.exec = Jvm.exec ∧ (zc z).code = cc ∧ (zc z).maxLocals = zn z ∧ (zs z).vm.findClass own = some (zm z).cls ∧ (∀ w ∈ TB, w.before (za z) (zs z) = true) ∧ va_K (zk z).1 vwCl (kT (zk z)) (zs z) ∧
  (∀ q, (zs z).heap.size ≤ q → zA z q) ∧ SX (zA z) (zs z) (zs z).heap ∧ NX (zs z)
def rmL (d mc ms : Nat) : Room := { frames := d, cells := mc, slots := ms, locals := 40 * d }
def ctP (k : Kt) (av : List Value) (w : va_W) (sz : Nat) : Array Value → State → Prop := va_Pc av (fun U => U.heap.size = sz ∧ va_P k.1 vwCl w U.heap ∧ va_K k.1 vwCl (kT k) U ∧ va_D (fun _ => True) w ∧ SX (va_A w sz) U U.heap ∧ NX U)
def ctQ (k : Kt) (w : va_W) (P : Option Value → va_W → Prop) (sz : Nat) : Array Value → State → Outcome → State → Prop := fun _ st oc t => (∃ (v : Option Value) (w' : va_W), oc = .returned v ∧ P v w' ∧ va_P k.1 vwCl w' t.heap ∧ va_D (va_A w sz) w') ∧ va_F (va_A w sz) st t
/-- a method's contract: from the world w it returns, and answer and world are as P says -/
def CT (l : Launch) (k : Kt) (y : MethodName) (cc : ByteArray) (maxL : Nat) (ret : Option FieldType) (d : Nat) (av : List Value) (w : va_W) (P : Option Value → va_W → Prop) (mc ms : Nat) : Prop :=
  ∀ sz : Nat, Met l y (.code y cc maxL ret :: TB) (rmL d mc ms) (ctP k av w sz) (ctQ k w P sz) mc ms (va_A w sz)
def RT (z : Zt) (ret : Option FieldType) (d : Nat) (w0 : va_W) (P : Option Value → va_W → Prop) (mc ms : Nat) : Prop :=
  zR z = rmL d mc ms ∧ (zM z).sig.returnType = ret ∧ (zM z).locks = false ∧ zA z = va_A w0 (zs z).heap.size ∧ zQ z = MQ (zb z) (ctQ (zk z) w0 P (zs z).heap.size) (za z) (zs z) mc ms (va_A w0 (zs z).heap.size)
theorem ct_of {l : Launch} {k : Kt} {y : MethodName} {cc : ByteArray} {maxL : Nat} {ret : Option FieldType} {d : Nat} {av : List Value} {w : va_W} {P : Option Value → va_W → Prop} {mc ms : Nat} {own : String} {lv0 : Lv}
    (hy : plainName y.cls = true) (ho : y.cls = own) (hlen : (lg_sl av).length ≤ maxL) (hlv : lv_args 0 av = lv0)
    (h : ∀ z : Zt, l = zl z → k = zk z → zn z = maxL → (y.name = "<init>" → (zM z).name = "<init>") → EN z cc own → RT z ret d w P mc ms → WW z 0 0 w 0 lv0 []) : CT l k y cc maxL ret d av w P mc ms := by
  intro sz
  refine Met.ofW (cc := cc) (maxL := maxL) (ret := ret) hy rfl ?_
  intro p e s m args below meth c s₁ B hml hv
  obtain ⟨rfl, hsz, hP, hK, hD0, hX, hN⟩ := hv
  have hts := atoms_spec (ws := Cond.code y cc maxL ret :: TB) B.pre
  have hown : s.vm.findClass own = some m.cls := by rw [← ho]; exact findClass_of_methodNamed B.named
  subst hsz
  subst hlv
  have h1 := h (p, l, e, (headSpec (Cond.code y cc maxL ret :: TB) (rmL d mc ms)).room, s, m, av.toArray, below, meth, c, k, va_A w s.heap.size, maxL, MQ below (ctQ k w P s.heap.size) av.toArray s mc ms (va_A w s.heap.size)) rfl rfl rfl (fun hn => (name_of_methodNamed B.named B.method).1.trans hn)
    ⟨B.exec, B.bytes, hml, hown, fun w hw => hts w (List.mem_cons_of_mem _ hw), hK, fun q hq => Or.inr hq, hX, hN⟩ ⟨rfl, B.returns, B.notSynchronized, rfl, rfl⟩
  rw [lg_entry_eq]
  exact h1 s.heap [] _ hP hD0.self va_S.rf (lv_entry av hlen)
section ROWS
variable {z : Zt} {cc : ByteArray} {own : String} {cells slots : Nat} {w : va_W} {pc q : Nat} {lv : Lv} {rest : List Value}
theorem r_sub (ks : List Nat) {lv' : Lv} (h : lv_pick lv ks = lv') (k : WW z cells slots w pc lv' rest) : WW z cells slots w pc lv rest := fun H locs ls hP hD hS hl => k H locs ls hP hD hS (lv_sub hl ks h)
theorem r_widen {c2 s2 : Nat} (h1 : cells ≤ c2) (h2 : slots ≤ s2) (k : WW z c2 s2 w pc lv rest) : WW z cells slots w pc lv rest := fun H locs ls hP hD hS hl => W.widen h1 h2 (k H locs ls hP hD hS hl)
theorem r_w {w' : va_W} (e : w = w') (k : WW z cells slots w' pc lv rest) : WW z cells slots w pc lv rest := e ▸ k
theorem r_v {x y : Int32} (e : x = y) (k : WW z cells slots w pc lv (.int y :: rest)) : WW z cells slots w pc lv (.int x :: rest) := e ▸ k
theorem r_iconst (E : EN z cc own) {n : Int} {v : Int32} (hd : decode cc pc = .ok (.iconst n, 1)) (hv : Int32.ofInt n = v) (hq : pc + 1 = q) (k : WW z cells slots w q lv (.int v :: rest)) : WW z cells slots w pc lv rest := by
  subst hq; exact fun H locs ls hP hD hS hl => lv_iconst E.1 E.2.1 hd hv (k H locs ls hP hD hS hl)
theorem r_bipush (E : EN z cc own) {n : Int} {v : Int32} (hd : decode cc pc = .ok (.bipush n, 2)) (hv : (Int8.ofInt n).toInt32 = v) (hq : pc + 2 = q) (k : WW z cells slots w q lv (.int v :: rest)) : WW z cells slots w pc lv rest := by
  subst hq; exact fun H locs ls hP hD hS hl => lv_bipush E.1 E.2.1 hd hv (k H locs ls hP hD hS hl)
theorem r_sipush (E : EN z cc own) {n : Int} {v : Int32} (hd : decode cc pc = .ok (.sipush n, 3)) (hv : (Int16.ofInt n).toInt32 = v) (hq : pc + 3 = q) (k : WW z cells slots w q lv (.int v :: rest)) : WW z cells slots w pc lv rest := by
  subst hq; exact fun H locs ls hP hD hS hl => lv_sipush E.1 E.2.1 hd hv (k H locs ls hP hD hS hl)
theorem r_ldc (E : EN z cc own) {i : Nat} {v : Int32} (hc : Cond.constant own i v ∈ TB) (hd : decode cc pc = .ok (.ldc i, 2)) (hq : pc + 2 = q) (k : WW z cells slots w q lv (.int v :: rest)) : WW z cells slots w pc lv rest := by
  subst hq; exact fun H locs ls hP hD hS hl => lv_ldc E.1 E.2.1 E.2.2.2.1 (E.2.2.2.2.1 _ hc) hd (k H locs ls hP hD hS hl)
theorem r_ldc2 (E : EN z cc own) {i : Nat} {v : Int64} (hc : Cond.constantLong own i v ∈ TB) (hd : decode cc pc = .ok (.ldc2_w i, 3)) (hq : pc + 3 = q) (k : WW z cells slots w q lv (.long v :: rest)) : WW z cells slots w pc lv rest := by
  subst hq; exact fun H locs ls hP hD hS hl => lv_ldc2 E.1 E.2.1 E.2.2.2.1 (E.2.2.2.2.1 _ hc) hd (k H locs ls hP hD hS hl)
theorem r_lconst (E : EN z cc own) {n : Fin 2} {v : Int64} (hd : decode cc pc = .ok (.lconst n, 1)) (hv : Int64.ofNat (n : Nat) = v) (hq : pc + 1 = q) (k : WW z cells slots w q lv (.long v :: rest)) : WW z cells slots w pc lv rest := by
  subst hq; exact fun H locs ls hP hD hS hl => lv_lconst E.1 E.2.1 hd hv (k H locs ls hP hD hS hl)
theorem r_iload_n (E : EN z cc own) {j : Fin 4} (i : Nat) {n : Nat} {x : Int32} (hd : decode cc pc = .ok (.iload_n j, 1)) (hk : lv[i]? = some (n, .int x)) (hi : (j : Nat) = n) (hq : pc + 1 = q) (k : WW z cells slots w q lv (.int x :: rest)) : WW z cells slots w pc lv rest := by
  subst hq; exact fun H locs ls hP hD hS hl => lv_iload_n E.1 E.2.1 hd hi (lv_at hl i hk) (k H locs ls hP hD hS hl)
theorem r_iload (E : EN z cc own) (i : Nat) {n : Nat} {x : Int32} (hd : decode cc pc = .ok (.iload n, 2)) (hk : lv[i]? = some (n, .int x)) (hq : pc + 2 = q) (k : WW z cells slots w q lv (.int x :: rest)) : WW z cells slots w pc lv rest := by
  subst hq; exact fun H locs ls hP hD hS hl => lv_iload E.1 E.2.1 hd (lv_at hl i hk) (k H locs ls hP hD hS hl)
theorem r_lload_n (E : EN z cc own) {j : Fin 4} (i : Nat) {n : Nat} {x : Int64} (hd : decode cc pc = .ok (.lload_n j, 1)) (hk : lv[i]? = some (n, .long x)) (hi : (j : Nat) = n) (hq : pc + 1 = q) (k : WW z cells slots w q lv (.long x :: rest)) : WW z cells slots w pc lv rest := by
  subst hq; exact fun H locs ls hP hD hS hl => lv_lload_n E.1 E.2.1 hd hi (lv_at hl i hk) (k H locs ls hP hD hS hl)
theorem r_lload (E : EN z cc own) (i : Nat) {n : Nat} {x : Int64} (hd : decode cc pc = .ok (.lload n, 2)) (hk : lv[i]? = some (n, .long x)) (hq : pc + 2 = q) (k : WW z cells slots w q lv (.long x :: rest)) : WW z cells slots w pc lv rest := by
  subst hq; exact fun H locs ls hP hD hS hl => lv_lload E.1 E.2.1 hd (lv_at hl i hk) (k H locs ls hP hD hS hl)
theorem r_aload_n (E : EN z cc own) {j : Fin 4} (i : Nat) {n : Nat} {x : Nat} (hd : decode cc pc = .ok (.aload_n j, 1)) (hk : lv[i]? = some (n, .ref x)) (hi : (j : Nat) = n) (hq : pc + 1 = q) (k : WW z cells slots w q lv (.ref x :: rest)) : WW z cells slots w pc lv rest := by
  subst hq; exact fun H locs ls hP hD hS hl => lv_aload_n E.1 E.2.1 hd hi (lv_at hl i hk) (k H locs ls hP hD hS hl)
theorem r_istore_n (E : EN z cc own) {j : Fin 4} (ks : List Nat) {n : Nat} {x : Int32} {lv' : Lv} (hd : decode cc pc = .ok (.istore_n j, 1)) (hi : (j : Nat) = n) (hn : n < zn z) (hl' : lv_pick ((n, Value.int x) :: lv.filter (fun q => !(q.1 == n) && !(q.1 + 1 == n && q.2.category == 2))) ks = lv') (hq : pc + 1 = q) (k : WW z cells slots w q lv' rest) : WW z cells slots w pc lv (.int x :: rest) := by
  subst hq; exact fun H locs ls hP hD hS hl => lv_istore_n E.1 E.2.1 hd hi hl hn rfl (fun ls' h' => k H locs ls' hP hD hS (lv_sub h' ks hl'))
theorem r_istore (E : EN z cc own) (ks : List Nat) {n : Nat} {x : Int32} {lv' : Lv} (hd : decode cc pc = .ok (.istore n, 2)) (hn : n < zn z) (hl' : lv_pick ((n, Value.int x) :: lv.filter (fun q => !(q.1 == n) && !(q.1 + 1 == n && q.2.category == 2))) ks = lv') (hq : pc + 2 = q) (k : WW z cells slots w q lv' rest) : WW z cells slots w pc lv (.int x :: rest) := by
  subst hq; exact fun H locs ls hP hD hS hl => lv_istore E.1 E.2.1 hd hl hn rfl (fun ls' h' => k H locs ls' hP hD hS (lv_sub h' ks hl'))
theorem r_lstore_n (E : EN z cc own) {j : Fin 4} (ks : List Nat) {n : Nat} {x : Int64} {lv' : Lv} (hd : decode cc pc = .ok (.lstore_n j, 1)) (hi : (j : Nat) = n) (hn : n + 1 < zn z) (hl' : lv_pick ((n, Value.long x) :: lv.filter (fun q => !(q.1 == n) && (!(q.1 == n + 1) && !(q.1 + 1 == n && q.2.category == 2)))) ks = lv') (hq : pc + 1 = q) (k : WW z cells slots w q lv' rest) : WW z cells slots w pc lv (.long x :: rest) := by
  subst hq; exact fun H locs ls hP hD hS hl => lv_lstore_n E.1 E.2.1 hd hi hl hn rfl (fun ls' h' => k H locs ls' hP hD hS (lv_sub h' ks hl'))
theorem r_lstore (E : EN z cc own) (ks : List Nat) {n : Nat} {x : Int64} {lv' : Lv} (hd : decode cc pc = .ok (.lstore n, 2)) (hn : n + 1 < zn z) (hl' : lv_pick ((n, Value.long x) :: lv.filter (fun q => !(q.1 == n) && (!(q.1 == n + 1) && !(q.1 + 1 == n && q.2.category == 2)))) ks = lv') (hq : pc + 2 = q) (k : WW z cells slots w q lv' rest) : WW z cells slots w pc lv (.long x :: rest) := by
  subst hq; exact fun H locs ls hP hD hS hl => lv_lstore E.1 E.2.1 hd hl hn rfl (fun ls' h' => k H locs ls' hP hD hS (lv_sub h' ks hl'))
theorem r_astore_n (E : EN z cc own) {j : Fin 4} (ks : List Nat) {n : Nat} {x : Nat} {lv' : Lv} (hd : decode cc pc = .ok (.astore_n j, 1)) (hi : (j : Nat) = n) (hn : n < zn z) (hl' : lv_pick ((n, Value.ref x) :: lv.filter (fun q => !(q.1 == n) && !(q.1 + 1 == n && q.2.category == 2))) ks = lv') (hq : pc + 1 = q) (k : WW z cells slots w q lv' rest) : WW z cells slots w pc lv (.ref x :: rest) := by
  subst hq; exact fun H locs ls hP hD hS hl => lv_astore_n E.1 E.2.1 hd hi hl hn rfl (fun ls' h' => k H locs ls' hP hD hS (lv_sub h' ks hl'))
theorem r_iinc (E : EN z cc own) (i : Nat) (ks : List Nat) {n : Nat} {a : Int} {x v : Int32} {lv' : Lv} (hd : decode cc pc = .ok (.iinc n a, 3)) (hk : lv[i]? = some (n, .int x)) (hv : x + Int32.ofInt a = v) (hn : n < zn z) (hl' : lv_pick ((n, Value.int v) :: lv.filter (fun q => !(q.1 == n) && !(q.1 + 1 == n && q.2.category == 2))) ks = lv') (hq : pc + 3 = q) (k : WW z cells slots w q lv' rest) : WW z cells slots w pc lv rest := by
  subst hq; exact fun H locs ls hP hD hS hl => lv_iinc E.1 E.2.1 hd hl hk hv hn rfl (fun ls' h' => k H locs ls' hP hD hS (lv_sub h' ks hl'))
theorem r_iadd (E : EN z cc own) {x y : Int32} (hd : decode cc pc = .ok (.iadd, 1)) (hq : pc + 1 = q) (k : WW z cells slots w q lv (.int (x + y) :: rest)) : WW z cells slots w pc lv (.int y :: .int x :: rest) := by
  subst hq; exact fun H locs ls hP hD hS hl => lv_iadd E.1 E.2.1 hd (k H locs ls hP hD hS hl)
theorem r_isub (E : EN z cc own) {x y : Int32} (hd : decode cc pc = .ok (.isub, 1)) (hq : pc + 1 = q) (k : WW z cells slots w q lv (.int (x - y) :: rest)) : WW z cells slots w pc lv (.int y :: .int x :: rest) := by
  subst hq; exact fun H locs ls hP hD hS hl => lv_isub E.1 E.2.1 hd (k H locs ls hP hD hS hl)
theorem r_imul (E : EN z cc own) {x y : Int32} (hd : decode cc pc = .ok (.imul, 1)) (hq : pc + 1 = q) (k : WW z cells slots w q lv (.int (x * y) :: rest)) : WW z cells slots w pc lv (.int y :: .int x :: rest) := by
  subst hq; exact fun H locs ls hP hD hS hl => lv_imul E.1 E.2.1 hd (k H locs ls hP hD hS hl)
theorem r_iand (E : EN z cc own) {x y : Int32} (hd : decode cc pc = .ok (.iand, 1)) (hq : pc + 1 = q) (k : WW z cells slots w q lv (.int (x &&& y) :: rest)) : WW z cells slots w pc lv (.int y :: .int x :: rest) := by
  subst hq; exact fun H locs ls hP hD hS hl => lv_iand E.1 E.2.1 hd (k H locs ls hP hD hS hl)
theorem r_ior (E : EN z cc own) {x y : Int32} (hd : decode cc pc = .ok (.ior, 1)) (hq : pc + 1 = q) (k : WW z cells slots w q lv (.int (x ||| y) :: rest)) : WW z cells slots w pc lv (.int y :: .int x :: rest) := by
  subst hq; exact fun H locs ls hP hD hS hl => lv_ior E.1 E.2.1 hd (k H locs ls hP hD hS hl)
theorem r_ixor (E : EN z cc own) {x y : Int32} (hd : decode cc pc = .ok (.ixor, 1)) (hq : pc + 1 = q) (k : WW z cells slots w q lv (.int (x ^^^ y) :: rest)) : WW z cells slots w pc lv (.int y :: .int x :: rest) := by
  subst hq; exact fun H locs ls hP hD hS hl => lv_ixor E.1 E.2.1 hd (k H locs ls hP hD hS hl)
theorem r_ishl (E : EN z cc own) {x y : Int32} (hd : decode cc pc = .ok (.ishl, 1)) (hq : pc + 1 = q) (k : WW z cells slots w q lv (.int (x <<< (y &&& 31)) :: rest)) : WW z cells slots w pc lv (.int y :: .int x :: rest) := by
  subst hq; exact fun H locs ls hP hD hS hl => lv_ishl E.1 E.2.1 hd (k H locs ls hP hD hS hl)
theorem r_ishr (E : EN z cc own) {x y : Int32} (hd : decode cc pc = .ok (.ishr, 1)) (hq : pc + 1 = q) (k : WW z cells slots w q lv (.int (x >>> (y &&& 31)) :: rest)) : WW z cells slots w pc lv (.int y :: .int x :: rest) := by
  subst hq; exact fun H locs ls hP hD hS hl => lv_ishr E.1 E.2.1 hd (k H locs ls hP hD hS hl)
theorem r_idiv (E : EN z cc own) {x y : Int32} (hd : decode cc pc = .ok (.idiv, 1)) (hne : ¬ y = 0) (hq : pc + 1 = q) (k : WW z cells slots w q lv (.int (x / y) :: rest)) : WW z cells slots w pc lv (.int y :: .int x :: rest) := by
  subst hq; exact fun H locs ls hP hD hS hl => lv_idiv E.1 E.2.1 hd hne (k H locs ls hP hD hS hl)
theorem r_land (E : EN z cc own) {x y : Int64} (hd : decode cc pc = .ok (.land, 1)) (hq : pc + 1 = q) (k : WW z cells slots w q lv (.long (x &&& y) :: rest)) : WW z cells slots w pc lv (.long y :: .long x :: rest) := by
  subst hq; exact fun H locs ls hP hD hS hl => lv_land E.1 E.2.1 hd (k H locs ls hP hD hS hl)
theorem r_lor (E : EN z cc own) {x y : Int64} (hd : decode cc pc = .ok (.lor, 1)) (hq : pc + 1 = q) (k : WW z cells slots w q lv (.long (x ||| y) :: rest)) : WW z cells slots w pc lv (.long y :: .long x :: rest) := by
  subst hq; exact fun H locs ls hP hD hS hl => lv_lor E.1 E.2.1 hd (k H locs ls hP hD hS hl)
theorem r_ldiv (E : EN z cc own) {x y : Int64} (hd : decode cc pc = .ok (.ldiv, 1)) (hne : ¬ y = 0) (hq : pc + 1 = q) (k : WW z cells slots w q lv (.long (x / y) :: rest)) : WW z cells slots w pc lv (.long y :: .long x :: rest) := by
  subst hq; exact fun H locs ls hP hD hS hl => lv_ldiv E.1 E.2.1 hd hne (k H locs ls hP hD hS hl)
theorem r_lshl (E : EN z cc own) {x : Int64} {y : Int32} (hd : decode cc pc = .ok (.lshl, 1)) (hq : pc + 1 = q) (k : WW z cells slots w q lv (.long (x <<< (y.toInt64 &&& 63)) :: rest)) : WW z cells slots w pc lv (.int y :: .long x :: rest) := by
  subst hq; exact fun H locs ls hP hD hS hl => lv_lshl E.1 E.2.1 hd rfl (k H locs ls hP hD hS hl)
theorem r_lshr (E : EN z cc own) {x : Int64} {y : Int32} (hd : decode cc pc = .ok (.lshr, 1)) (hq : pc + 1 = q) (k : WW z cells slots w q lv (.long (x >>> (y.toInt64 &&& 63)) :: rest)) : WW z cells slots w pc lv (.int y :: .long x :: rest) := by
  subst hq; exact fun H locs ls hP hD hS hl => lv_lshr E.1 E.2.1 hd rfl (k H locs ls hP hD hS hl)
theorem r_i2l (E : EN z cc own) {x : Int32} (hd : decode cc pc = .ok (.i2l, 1)) (hq : pc + 1 = q) (k : WW z cells slots w q lv (.long x.toInt64 :: rest)) : WW z cells slots w pc lv (.int x :: rest) := by
  subst hq; exact fun H locs ls hP hD hS hl => lv_i2l E.1 E.2.1 hd rfl (k H locs ls hP hD hS hl)
theorem r_l2i (E : EN z cc own) {x : Int64} (hd : decode cc pc = .ok (.l2i, 1)) (hq : pc + 1 = q) (k : WW z cells slots w q lv (.int x.toInt32 :: rest)) : WW z cells slots w pc lv (.long x :: rest) := by
  subst hq; exact fun H locs ls hP hD hS hl => lv_l2i E.1 E.2.1 hd rfl (k H locs ls hP hD hS hl)
theorem r_lcmp (E : EN z cc own) {x y : Int64} (hd : decode cc pc = .ok (.lcmp, 1)) (hq : pc + 1 = q) (k : WW z cells slots w q lv (.int (lg_cmp x y) :: rest)) : WW z cells slots w pc lv (.long y :: .long x :: rest) := by
  subst hq; exact fun H locs ls hP hD hS hl => W.lcmp E.1 E.2.1 hd (k H locs ls hP hD hS hl)
theorem r_dup (E : EN z cc own) {v : Value} (hd : decode cc pc = .ok (.dup, 1)) (hv : v.category = 1) (hq : pc + 1 = q) (k : WW z cells slots w q lv (v :: v :: rest)) : WW z cells slots w pc lv (v :: rest) := by
  subst hq; exact fun H locs ls hP hD hS hl => lv_dup E.1 E.2.1 hd hv (k H locs ls hP hD hS hl)
theorem r_pop (E : EN z cc own) {v : Value} (hd : decode cc pc = .ok (.pop, 1)) (hv : v.category = 1) (hq : pc + 1 = q) (k : WW z cells slots w q lv rest) : WW z cells slots w pc lv (v :: rest) := by
  subst hq; exact fun H locs ls hP hD hS hl => lv_pop E.1 E.2.1 hd hv (k H locs ls hP hD hS hl)
theorem r_dup2 (E : EN z cc own) {u v : Value} (hd : decode cc pc = .ok (.dup2, 1)) (hu : u.category = 1) (hv : v.category = 1) (hq : pc + 1 = q) (k : WW z cells slots w q lv (u :: v :: u :: v :: rest)) : WW z cells slots w pc lv (u :: v :: rest) := by
  subst hq; exact fun H locs ls hP hD hS hl => lv_dup2_11 E.1 E.2.1 hd hu hv (k H locs ls hP hD hS hl)
theorem r_goto (E : EN z cc own) {off : Int} (tgt : Nat) (hd : decode cc pc = .ok (.goto off, 3)) (ht : (pc : Int) + off = (tgt : Int)) (k : WW z cells slots w tgt lv rest) : WW z cells slots w pc lv rest :=
  fun H locs ls hP hD hS hl => lv_goto E.1 E.2.1 hd ht (k H locs ls hP hD hS hl)
theorem r_if_eq (E : EN z cc own) {x : Int32} {off : Int} (tgt : Nat) (hd : decode cc pc = .ok (.ifCond .eq off, 3)) (ht : (pc : Int) + off = (tgt : Int)) (hq : pc + 3 = q) (kt : x = 0 → WW z cells slots w tgt lv rest) (kf : ¬ x = 0 → WW z cells slots w q lv rest) : WW z cells slots w pc lv (.int x :: rest) := by
  subst hq; exact fun H locs ls hP hD hS hl => lv_if_eq E.1 E.2.1 hd ht (fun c => kt c H locs ls hP hD hS hl) (fun c => kf c H locs ls hP hD hS hl)
theorem r_icmp_eq (E : EN z cc own) {x y : Int32} {off : Int} (tgt : Nat) (hd : decode cc pc = .ok (.if_icmp .eq off, 3)) (ht : (pc : Int) + off = (tgt : Int)) (hq : pc + 3 = q) (kt : x = y → WW z cells slots w tgt lv rest) (kf : ¬ x = y → WW z cells slots w q lv rest) : WW z cells slots w pc lv (.int y :: .int x :: rest) := by
  subst hq; exact fun H locs ls hP hD hS hl => lv_icmp_eq E.1 E.2.1 hd ht (fun c => kt c H locs ls hP hD hS hl) (fun c => kf c H locs ls hP hD hS hl)
theorem r_if_ne (E : EN z cc own) {x : Int32} {off : Int} (tgt : Nat) (hd : decode cc pc = .ok (.ifCond .ne off, 3)) (ht : (pc : Int) + off = (tgt : Int)) (hq : pc + 3 = q) (kt : ¬ x = 0 → WW z cells slots w tgt lv rest) (kf : x = 0 → WW z cells slots w q lv rest) : WW z cells slots w pc lv (.int x :: rest) := by
  subst hq; exact fun H locs ls hP hD hS hl => lv_if_ne E.1 E.2.1 hd ht (fun c => kt c H locs ls hP hD hS hl) (fun c => kf c H locs ls hP hD hS hl)
theorem r_icmp_ne (E : EN z cc own) {x y : Int32} {off : Int} (tgt : Nat) (hd : decode cc pc = .ok (.if_icmp .ne off, 3)) (ht : (pc : Int) + off = (tgt : Int)) (hq : pc + 3 = q) (kt : ¬ x = y → WW z cells slots w tgt lv rest) (kf : x = y → WW z cells slots w q lv rest) : WW z cells slots w pc lv (.int y :: .int x :: rest) := by
  subst hq; exact fun H locs ls hP hD hS hl => lv_icmp_ne E.1 E.2.1 hd ht (fun c => kt c H locs ls hP hD hS hl) (fun c => kf c H locs ls hP hD hS hl)
theorem r_if_lt (E : EN z cc own) {x : Int32} {off : Int} (tgt : Nat) (hd : decode cc pc = .ok (.ifCond .lt off, 3)) (ht : (pc : Int) + off = (tgt : Int)) (hq : pc + 3 = q) (kt : x < 0 → WW z cells slots w tgt lv rest) (kf : ¬ x < 0 → WW z cells slots w q lv rest) : WW z cells slots w pc lv (.int x :: rest) := by
  subst hq; exact fun H locs ls hP hD hS hl => lv_if_lt E.1 E.2.1 hd ht (fun c => kt c H locs ls hP hD hS hl) (fun c => kf c H locs ls hP hD hS hl)
theorem r_icmp_lt (E : EN z cc own) {x y : Int32} {off : Int} (tgt : Nat) (hd : decode cc pc = .ok (.if_icmp .lt off, 3)) (ht : (pc : Int) + off = (tgt : Int)) (hq : pc + 3 = q) (kt : x < y → WW z cells slots w tgt lv rest) (kf : ¬ x < y → WW z cells slots w q lv rest) : WW z cells slots w pc lv (.int y :: .int x :: rest) := by
  subst hq; exact fun H locs ls hP hD hS hl => lv_icmp_lt E.1 E.2.1 hd ht (fun c => kt c H locs ls hP hD hS hl) (fun c => kf c H locs ls hP hD hS hl)
theorem r_if_ge (E : EN z cc own) {x : Int32} {off : Int} (tgt : Nat) (hd : decode cc pc = .ok (.ifCond .ge off, 3)) (ht : (pc : Int) + off = (tgt : Int)) (hq : pc + 3 = q) (kt : 0 ≤ x → WW z cells slots w tgt lv rest) (kf : ¬ 0 ≤ x → WW z cells slots w q lv rest) : WW z cells slots w pc lv (.int x :: rest) := by
  subst hq; exact fun H locs ls hP hD hS hl => lv_if_ge E.1 E.2.1 hd ht (fun c => kt c H locs ls hP hD hS hl) (fun c => kf c H locs ls hP hD hS hl)
theorem r_icmp_ge (E : EN z cc own) {x y : Int32} {off : Int} (tgt : Nat) (hd : decode cc pc = .ok (.if_icmp .ge off, 3)) (ht : (pc : Int) + off = (tgt : Int)) (hq : pc + 3 = q) (kt : y ≤ x → WW z cells slots w tgt lv rest) (kf : ¬ y ≤ x → WW z cells slots w q lv rest) : WW z cells slots w pc lv (.int y :: .int x :: rest) := by
  subst hq; exact fun H locs ls hP hD hS hl => lv_icmp_ge E.1 E.2.1 hd ht (fun c => kt c H locs ls hP hD hS hl) (fun c => kf c H locs ls hP hD hS hl)
theorem r_if_gt (E : EN z cc own) {x : Int32} {off : Int} (tgt : Nat) (hd : decode cc pc = .ok (.ifCond .gt off, 3)) (ht : (pc : Int) + off = (tgt : Int)) (hq : pc + 3 = q) (kt : 0 < x → WW z cells slots w tgt lv rest) (kf : ¬ 0 < x → WW z cells slots w q lv rest) : WW z cells slots w pc lv (.int x :: rest) := by
  subst hq; exact fun H locs ls hP hD hS hl => lv_if_gt E.1 E.2.1 hd ht (fun c => kt c H locs ls hP hD hS hl) (fun c => kf c H locs ls hP hD hS hl)
theorem r_icmp_gt (E : EN z cc own) {x y : Int32} {off : Int} (tgt : Nat) (hd : decode cc pc = .ok (.if_icmp .gt off, 3)) (ht : (pc : Int) + off = (tgt : Int)) (hq : pc + 3 = q) (kt : y < x → WW z cells slots w tgt lv rest) (kf : ¬ y < x → WW z cells slots w q lv rest) : WW z cells slots w pc lv (.int y :: .int x :: rest) := by
  subst hq; exact fun H locs ls hP hD hS hl => lv_icmp_gt E.1 E.2.1 hd ht (fun c => kt c H locs ls hP hD hS hl) (fun c => kf c H locs ls hP hD hS hl)
theorem r_if_le (E : EN z cc own) {x : Int32} {off : Int} (tgt : Nat) (hd : decode cc pc = .ok (.ifCond .le off, 3)) (ht : (pc : Int) + off = (tgt : Int)) (hq : pc + 3 = q) (kt : x ≤ 0 → WW z cells slots w tgt lv rest) (kf : ¬ x ≤ 0 → WW z cells slots w q lv rest) : WW z cells slots w pc lv (.int x :: rest) := by
  subst hq; exact fun H locs ls hP hD hS hl => lv_if_le E.1 E.2.1 hd ht (fun c => kt c H locs ls hP hD hS hl) (fun c => kf c H locs ls hP hD hS hl)
theorem r_icmp_le (E : EN z cc own) {x y : Int32} {off : Int} (tgt : Nat) (hd : decode cc pc = .ok (.if_icmp .le off, 3)) (ht : (pc : Int) + off = (tgt : Int)) (hq : pc + 3 = q) (kt : x ≤ y → WW z cells slots w tgt lv rest) (kf : ¬ x ≤ y → WW z cells slots w q lv rest) : WW z cells slots w pc lv (.int y :: .int x :: rest) := by
  subst hq; exact fun H locs ls hP hD hS hl => lv_icmp_le E.1 E.2.1 hd ht (fun c => kt c H locs ls hP hD hS hl) (fun c => kf c H locs ls hP hD hS hl)
theorem r_tabIn (E : EN z cc own) {x : Int32} (c : Int32) (hx : x = c) {dflt lo hi : Int} {offs : Array Int} {len : Nat} {off : Int} (tgt : Nat) (hd : decode cc pc = .ok (.tableswitch dflt lo hi offs, len)) (h : ¬ c.toInt < lo ∧ ¬ hi < c.toInt) (ho : offs[(c.toInt - lo).toNat]? = some off) (ht : (pc : Int) + off = (tgt : Int)) (k : WW z cells slots w tgt lv rest) : WW z cells slots w pc lv (.int x :: rest) := by
  subst hx; exact fun H locs ls hP hD hS hl => lv_tableIn E.1 E.2.1 hd h.1 h.2 ho ht (k H locs ls hP hD hS hl)
theorem r_tabOut (E : EN z cc own) {x : Int32} {dflt lo hi : Int} {offs : Array Int} {len : Nat} (tgt : Nat) (hd : decode cc pc = .ok (.tableswitch dflt lo hi offs, len)) (h : x.toInt < lo ∨ hi < x.toInt) (ht : (pc : Int) + dflt = (tgt : Int)) (k : WW z cells slots w tgt lv rest) : WW z cells slots w pc lv (.int x :: rest) :=
  fun H locs ls hP hD hS hl => lv_tableOut E.1 E.2.1 hd h ht (k H locs ls hP hD hS hl)
theorem r_look (E : EN z cc own) {x : Int32} {dflt : Int} {ps : Array (Int × Int)} {len : Nat} {off : Int} (tgt : Nat) (hd : decode cc pc = .ok (.lookupswitch dflt ps, len)) (hp : (ps.toList.zip (ps.toList.drop 1)).all (fun (a, next) => a.1 < next.1) = true) (ho : Op.lookupswitch.offset ps.toList dflt x.toInt = off) (ht : (pc : Int) + off = (tgt : Int)) (k : WW z cells slots w tgt lv rest) : WW z cells slots w pc lv (.int x :: rest) :=
  fun H locs ls hP hD hS hl => lv_lookup E.1 E.2.1 hd hp ho ht (k H locs ls hP hD hS hl)
/-- a switch's number is one of its places, or outside -/
theorem sw_out {x : Int32} {lo hi : Int} (h : ∀ j : Nat, (j : Int) ≤ hi - lo → ¬ x = Int32.ofInt (lo + j)) : x.toInt < lo ∨ hi < x.toInt := by
  rcases Int.lt_or_le x.toInt lo with g | g
  · exact Or.inl g
  · rcases Int.lt_or_le hi x.toInt with g2 | g2
    · exact Or.inr g2
    · exfalso
      refine h (x.toInt - lo).toNat (by omega) ?_
      have e : lo + ((x.toInt - lo).toNat : Int) = x.toInt := by omega
      rw [e, Int32.ofInt_toInt]
/-- a field by its link -/
def FL (own : String) (idx ci j : Nat) (C : String) (T : u_T) (N : Nat) : Prop := (∀ w ∈ u_ws C T N, w ∈ TB) ∧ Cond.fieldLink own idx (T j).1 (T j).2.1 (T j).2.2.1 ∈ TB ∧ vwCl[ci]? = some (C, T, N) ∧ j < N
theorem r_get (E : EN z cc own) {idx ci j : Nat} {C : String} {T : u_T} {N : Nat} (fl : FL own idx ci j C T N) (q0 : Nat) {a : Nat} {fs : List Value} {v : Value} (he : w[q0]? = some (a, .inr (ci, fs))) (hv : fs[j]? = some v) (hd : decode cc pc = .ok (.getfield idx, 3)) (hq : pc + 3 = q) (k : WW z cells slots w q lv (v :: rest)) : WW z cells slots w pc lv (.ref a :: rest) := by
  subst hq; exact fun H locs ls hP hD hS hl => va_get E.1 E.2.1 E.2.2.2.2.1 fl.1 E.2.2.2.1 E.2.2.2.2.2.1 hP q0 he fl.2.2.1 j fl.2.2.2 (E.2.2.2.2.1 _ fl.2.1) (fun _ h9 => h9) hv hd (k H locs ls hP hD hS hl)
/-- a field that may be written -/
def FP (own : String) (idx ci j : Nat) (C : String) (T : u_T) (N : Nat) (ty : FieldType) : Prop := FL own idx ci j C T N ∧ (∃ ty0 : Nat → FieldType, ∀ k, k < N → parseFieldDescriptor (T k).2.2.1 = some (ty0 k)) ∧ (∀ a, a < N → ∀ b, b < N → a ≠ b → (T a).2.1 ≠ (T b).2.1) ∧ parseFieldDescriptor (T j).2.2.1 = some ty
theorem r_put (E : EN z cc own) {idx ci j : Nat} {C : String} {T : u_T} {N : Nat} {ty : FieldType} (fp : FP own idx ci j C T N ty) (hfin : (T j).2.2.2 = false) (q0 : Nat) {a : Nat} {fs : List Value} {v : Value} (he : w[q0]? = some (a, .inr (ci, fs))) (hn : narrow ty v = v) (hfit : fits ty v = true) (hl0 : j < fs.length) {w' : va_W} (hw : w.set q0 (a, .inr (ci, fs.set j v)) = w') (hd : decode cc pc = .ok (.putfield idx, 3)) (hq : pc + 3 = q) (k : WW z cells slots w' q lv rest) : WW z cells slots w pc lv (v :: .ref a :: rest) := by
  subst hq; subst hw
  obtain ⟨fl, ⟨ty0, hty⟩, hnm, hdp⟩ := fp
  exact fun H locs ls hP hD hS hl => va_put E.1 E.2.1 E.2.2.2.2.1 fl.1 ty0 hty hnm E.2.2.2.1 E.2.2.2.2.2.1 hP hD hS q0 he fl.2.2.1 j fl.2.2.2 (E.2.2.2.2.1 _ fl.2.1) (fun _ h9 => h9) hfin hdp hn hfit hl0 hd (fun H1 locs1 hP1 hD1 hS1 => k H1 locs1 ls hP1 hD1 hS1 hl)
theorem r_putF (E : EN z cc own) {idx ci j : Nat} {C : String} {T : u_T} {N : Nat} {ty : FieldType} (fp : FP own idx ci j C T N ty) (hfin : (T j).2.2.2 = true) (hin : (zM z).name = "<init>") (hdc : (T j).1 = own) (q0 : Nat) {a : Nat} {fs : List Value} {v : Value} (he : w[q0]? = some (a, .inr (ci, fs))) (hn : narrow ty v = v) (hfit : fits ty v = true) (hl0 : j < fs.length) {w' : va_W} (hw : w.set q0 (a, .inr (ci, fs.set j v)) = w') (hd : decode cc pc = .ok (.putfield idx, 3)) (hq : pc + 3 = q) (k : WW z cells slots w' q lv rest) : WW z cells slots w pc lv (v :: .ref a :: rest) := by
  subst hq; subst hw
  obtain ⟨fl, ⟨ty0, hty⟩, hnm, hdp⟩ := fp
  exact fun H locs ls hP hD hS hl => va_putF E.1 E.2.1 E.2.2.2.2.1 fl.1 ty0 hty hnm E.2.2.2.1 E.2.2.2.2.2.1 hP hD hS q0 he fl.2.2.1 j fl.2.2.2 (E.2.2.2.2.1 _ fl.2.1) (fun _ h9 => h9) hfin hin hdc hdp hn hfit hl0 hd (fun H1 locs1 hP1 hD1 hS1 => k H1 locs1 ls hP1 hD1 hS1 hl)
theorem r_iald (E : EN z cc own) (q0 : Nat) {a n : Nat} {f : Nat → Int32} (ha : w[q0]? = some (a, .inl ((zk z).2.1, n, .inl f))) {i : Int32} (hin : vp_in i n) (hd : decode cc pc = .ok (.iaload, 1)) (hq : pc + 1 = q) (k : WW z cells slots w q lv (.int (f i.toNatClampNeg) :: rest)) : WW z cells slots w pc lv (.int i :: .ref a :: rest) := by
  subst hq; exact fun H locs ls hP hD hS hl => va_iald E.1 E.2.1 E.2.2.2.2.2.1 hP q0 0 ha rfl hin hd (k H locs ls hP hD hS hl)
theorem r_zald (E : EN z cc own) (q0 : Nat) {a n : Nat} {f : Nat → Int32} (ha : w[q0]? = some (a, .inl ((zk z).2.2, n, .inl f))) {i : Int32} (hin : vp_in i n) (hd : decode cc pc = .ok (.baload, 1)) (hq : pc + 1 = q) (k : WW z cells slots w q lv (.int (f i.toNatClampNeg) :: rest)) : WW z cells slots w pc lv (.int i :: .ref a :: rest) := by
  subst hq; exact fun H locs ls hP hD hS hl => va_zald E.1 E.2.1 E.2.2.2.2.2.1 hP q0 1 ha rfl hin hd (k H locs ls hP hD hS hl)
theorem r_iast (E : EN z cc own) (q0 : Nat) {a n : Nat} {f : Nat → Int32} (ha : w[q0]? = some (a, .inl ((zk z).2.1, n, .inl f))) {i x : Int32} (hin : vp_in i n) {w' : va_W} (hw : w.set q0 (a, .inl ((zk z).2.1, n, .inl (upd f i.toNatClampNeg x))) = w') (hd : decode cc pc = .ok (.iastore, 1)) (hq : pc + 1 = q) (k : WW z cells slots w' q lv rest) : WW z cells slots w pc lv (.int x :: .int i :: .ref a :: rest) := by
  subst hq; subst hw; exact fun H locs ls hP hD hS hl => va_iast E.1 E.2.1 E.2.2.2.2.2.1 hP hD hS q0 0 ha rfl hin hd (fun H1 locs1 hP1 hD1 hS1 => k H1 locs1 ls hP1 hD1 hS1 hl)
theorem r_zast (E : EN z cc own) (q0 : Nat) {a n : Nat} {f : Nat → Int32} (ha : w[q0]? = some (a, .inl ((zk z).2.2, n, .inl f))) {i x x' : Int32} (hin : vp_in i n) (hx : vp_nar .boolean x = x') {w' : va_W} (hw : w.set q0 (a, .inl ((zk z).2.2, n, .inl (upd f i.toNatClampNeg x'))) = w') (hd : decode cc pc = .ok (.bastore, 1)) (hq : pc + 1 = q) (k : WW z cells slots w' q lv rest) : WW z cells slots w pc lv (.int x :: .int i :: .ref a :: rest) := by
  subst hq; subst hx; subst hw; exact fun H locs ls hP hD hS hl => va_zast E.1 E.2.1 E.2.2.2.2.2.1 hP hD hS q0 1 ha rfl hin hd (fun H1 locs1 hP1 hD1 hS1 => k H1 locs1 ls hP1 hD1 hS1 hl)
theorem r_alen (E : EN z cc own) (q0 : Nat) {a n : Nat} {f : Nat → Int32} (ha : w[q0]? = some (a, .inl ((zk z).2.1, n, .inl f))) (hd : decode cc pc = .ok (.arraylength, 1)) (hq : pc + 1 = q) (k : WW z cells slots w q lv (.int (nI n) :: rest)) : WW z cells slots w pc lv (.ref a :: rest) := by
  subst hq; exact fun H locs ls hP hD hS hl => va_alen E.1 E.2.1 E.2.2.2.2.2.1 hP q0 0 ha rfl rfl hd (k H locs ls hP hD hS hl)
theorem r_gets (E : EN z cc own) {n : String} {f : Nat → Int32} {idx : Nat} (h : SX1 n f (zA z) (zs z) (zs z).heap) (hL : Cond.fieldLink own idx RX2 n "[I" ∈ TB) (hd : decode cc pc = .ok (.getstatic idx, 3)) (hq : pc + 3 = q) (k : ∀ t : Nat, va_T .int t 18 (fun j => .int (f j)) (zA z) (zs z) (zs z).heap → WW z cells slots w q lv (.ref t :: rest)) : WW z cells slots w pc lv rest := by
  subst hq
  obtain ⟨t, h1, h2⟩ := h
  exact fun H locs ls hP hD hS hl => va_gets E.1 E.2.1 h1 hS E.2.2.2.1 (E.2.2.2.2.1 _ hL) (fun _ h9 => h9) hd (k t h2 H locs ls hP hD hS hl)
theorem r_ti (E : EN z cc own) {f : Nat → Int32} {t : Nat} (hT : va_T .int t 18 (fun j => .int (f j)) (zA z) (zs z) (zs z).heap) {i : Int32} (hin : vp_in i 18) (hd : decode cc pc = .ok (.iaload, 1)) (hq : pc + 1 = q) (k : WW z cells slots w q lv (.int (f i.toNatClampNeg) :: rest)) : WW z cells slots w pc lv (.int i :: .ref t :: rest) := by
  subst hq; exact fun H locs ls hP hD hS hl => va_ti E.1 E.2.1 hT hS hin rfl hd (k H locs ls hP hD hS hl)
/-- what a room has left for calls: d levels, so many cells and slots -/
def RR (z : Zt) (d mc ms : Nat) : Prop := d ≤ (zR z).frames ∧ 40 * d ≤ (zR z).locals ∧ mc ≤ (zR z).cells ∧ ms ≤ (zR z).slots
theorem RT.rr {ret : Option FieldType} {d mc ms : Nat} {w0 : va_W} {P : Option Value → va_W → Prop} (T : RT z ret d w0 P mc ms) : RR z d mc ms := by
  unfold RR; rw [T.1]; exact ⟨Nat.le_refl _, Nat.le_refl _, Nat.le_refl _, Nat.le_refl _⟩
theorem r_min (E : EN z cc own) {d mc ms idx : Nat} (hR : RR z (d + 1) mc ms) (hL : Cond.methodLink own idx Lib.Math.min.name ∈ TB) (hs : Cond.static Lib.Math.min.name ∈ TB) (hi : Cond.initialized "java/lang/Math" ∈ TB) (hcd : Cond.code Lib.Math.min.name Lib.Math.min.code 2 (some .int) ∈ TB) (hcat : (rest.map fun v => v.category).sum ≤ 8) (hc : cells ≤ mc) (hsl : slots ≤ ms) {x y : Int32} (hd : decode cc pc = .ok (.invokestatic idx, 3)) (hq : pc + 3 = q) (k : WW z cells slots w q lv (.int (if y < x then y else x) :: rest)) : WW z cells slots w pc lv (.int y :: .int x :: rest) := by
  subst hq; exact fun H locs ls hP hD hS hl => va_mmin E.1 E.2.1 (E.2.2.1.trans hl.1.symm) E.2.2.2.1 (E.2.2.2.2.1 _ hL) (E.2.2.2.2.1 _ hs) (E.2.2.2.2.1 _ hi) (E.2.2.2.2.1 _ hcd) (by have := hR.1; omega) (by have := hR.2.1; omega) (Nat.le_trans hc hR.2.2.1) (Nat.le_trans hsl hR.2.2.2) hd (k H locs ls hP hD hS hl)
/-- a world w0 is the cells w and the cells wr -/
def Fr (w0 w wr : va_W) : Prop := (∀ q ∈ w, q ∈ w0) ∧ (∀ q ∈ wr, q ∈ w0) ∧ ∀ A : Nat → Prop, va_D A w0 → va_D A w ∧ va_D A wr ∧ ∀ (i j : Nat) (x y : Nat × va_E), wr[i]? = some x → w[j]? = some y → x.1 ≠ y.1
theorem Fr.all : Fr w w [] := by
  refine ⟨fun _ h => h, fun q h => absurd h List.not_mem_nil, fun A h => ⟨h, ⟨fun i j p q h => ?_, fun k q h => ?_⟩, fun i j x y h => ?_⟩⟩ <;> simp at h
theorem Fr.right {a b : va_W} : Fr (a ++ b) b a := by
  refine ⟨fun _ h => List.mem_append_right _ h, fun _ h => List.mem_append_left _ h, fun A h => ⟨⟨fun i j p q hi hj e => ?_, fun k q hk => ?_⟩, ⟨fun i j p q hi hj e => ?_, fun k q hk => ?_⟩, fun i j x y hx hy e => ?_⟩⟩
  · have := h.1 (a.length + i) (a.length + j) p q (by rw [List.getElem?_append_right (by omega)]; simpa using hi) (by rw [List.getElem?_append_right (by omega)]; simpa using hj) e
    omega
  · exact h.2 (a.length + k) q (by rw [List.getElem?_append_right (by omega)]; simpa using hk)
  · exact h.1 i j p q (by rw [List.getElem?_append_left (List.getElem?_eq_some_iff.mp hi).1]; exact hi) (by rw [List.getElem?_append_left (List.getElem?_eq_some_iff.mp hj).1]; exact hj) e
  · exact h.2 k q (by rw [List.getElem?_append_left (List.getElem?_eq_some_iff.mp hk).1]; exact hk)
  · have hl := (List.getElem?_eq_some_iff.mp hx).1
    have := h.1 i (a.length + j) x y (by rw [List.getElem?_append_left hl]; exact hx) (by rw [List.getElem?_append_right (by omega)]; simpa using hy) e
    omega
theorem Fr.left {a b : va_W} : Fr (a ++ b) a b := by
  obtain ⟨h1, h2, h3⟩ := Fr.right (a := a) (b := b)
  exact ⟨h2, h1, fun A h => ⟨(h3 A h).2.1, (h3 A h).1, fun i j x y hx hy e => (h3 A h).2.2 j i y x hy hx e.symm⟩⟩
theorem Fr.P {w0 wc wr : va_W} (h : Fr w0 wc wr) {D : va_G} {H : Heap} (hP : va_P D vwCl w0 H) : va_P D vwCl wc H ∧ va_P D vwCl wr H := by
  refine ⟨fun k q hk => ?_, fun k q hk => ?_⟩
  · obtain ⟨i, hi⟩ := List.getElem?_of_mem (h.1 q (List.mem_of_getElem? hk))
    exact hP i q hi
  · obtain ⟨i, hi⟩ := List.getElem?_of_mem (h.2.1 q (List.mem_of_getElem? hk))
    exact hP i q hi
theorem core_call (E : EN z cc own) {w0 wc wr : va_W} (hFr : Fr w0 wc wr) {P : Option Value → va_W → Prop} {mc ms : Nat} {ls : Array Slot} {st0 : List Value} {a : Array Value} {H : Heap} {locs : List Loc}
    (hP : va_P (zk z).1 vwCl w0 H) (hD : va_D (zA z) w0) (hS : va_S (zA z) (zs z).heap H locs) (hl : lv_has ls (zn z) lv)
    (hr : va_Run (zp z) (zl z) (ze z) (zR z) (zs z) (zm z) (za z) (zb z) (zM z) (zc z) H locs cells slots mc ms (F0 (zm z) pc ls st0) rest (ctQ (zk z) wc P H.size a) (va_A wc H.size))
    (k : ∀ (v : Option Value) (w' : va_W), P v w' → WW z (cells + mc) (slots + ms) (wr ++ w') (pc + 3) lv (v.toList ++ rest)) :
    W (zp z) (zl z) (ze z) (zR z) (zs z) (zm z) (za z) (zb z) (zM z) (zc z) H locs cells slots (zQ z) (F0 (zm z) pc ls st0) := by
  intro T hT X
  obtain ⟨v, st₀, t, T', L, h0, X', hL, e1, e2, ⟨⟨v', w', hv, hp, hP1, hD1⟩, hz, hk⟩, st⟩ := hr T hT X
  cases hv
  rw [h0] at hz hk
  obtain ⟨hDc, hDr, hap⟩ := hFr.2.2 _ hD
  obtain ⟨hPc, hPr⟩ := hFr.P hP
  have hF : ∀ q, va_A wc H.size q → zA z q := by
    intro q h
    rcases h with ⟨i, e, h⟩ | h
    · exact hDc.2 i (q, e) h
    · exact E.2.2.2.2.2.2.1 q (Nat.le_trans hS.1 h)
  have apart : ∀ (i : Nat) (q : Nat × va_E), wr[i]? = some q → q.1 < H.size ∧ ¬ va_A wc H.size q.1 := by
    intro i q hq
    have hlt := (hPr i q hq).lt
    refine ⟨hlt, fun h => ?_⟩
    rcases h with ⟨j, e, h⟩ | h
    · exact hap i j q (q.1, e) hq h rfl
    · omega
  have hP2 : va_P (zk z).1 vwCl (wr ++ w') T'.heap := by
    rw [e1]
    exact va_P.app (fun i q hq => (hPr i q hq).kept (hk q.1 (apart i q hq).1 (apart i q hq).2)) hP1
  have hD2 : va_D (zA z) (wr ++ w') := va_D.app hDr (hD1.weaken (fun i q _ h => hF q.1 h)) (fun i j x y hx hy hxy => (apart i x hx).2 (by rw [hxy]; exact hD1.2 j y hy))
  have hS2 : va_S (zA z) (zs z).heap T'.heap (locs ++ L) := ⟨Nat.le_trans hS.1 (by rw [e1]; exact hz), fun q h1 h2 => by rw [e1, hk q (Nat.lt_of_lt_of_le h1 hS.1) (fun y => h2 (hF q y))]; exact hS.2.1 q h1 h2, fun q hq => by
      rcases List.mem_append.mp hq with h | h
      · exact hS.2.2 q h
      · exact hF _ (hL q h)⟩
  obtain ⟨t2, a1, b1⟩ := k v w' hp T'.heap (locs ++ L) ls hP2 hD2 hS2 hl T' rfl X'
  exact ⟨t2, st t2 a1, b1⟩
theorem ctP_blind {k : Kt} {av : List Value} {wc : va_W} {sz : Nat} : FrameBlind (ctP k av wc sz) := by
  intro a U g mk hh
  obtain ⟨h0, h1, h2, h3, h4, h5, h6⟩ := hh
  exact ⟨h0, h1, h2, va_K.moved (u := U) (U := U.calling g mk a) (Vm.Alike.refl U.vm) h3, h4, h5.to (U := U.calling g mk a) (Vm.Alike.refl U.vm) (fun _ _ _ => rfl) (fun _ h => h), fun q hq => va_Nw.same rfl rfl (h6 q hq)⟩
theorem ctP_at (E : EN z cc own) {w0 wc wr : va_W} (hFr : Fr w0 wc wr) {av : List Value} {H : Heap} {locs : List Loc} (hP : va_P (zk z).1 vwCl w0 H) (hD : va_D (zA z) w0) (hS : va_S (zA z) (zs z).heap H locs) :
    ∀ U : State, U.heap = H → (zs z).WarmedH U.vm → ctP (zk z) av wc H.size av.toArray U := by
  intro U hU hW
  obtain ⟨hDc, hDr, hap⟩ := hFr.2.2 _ hD
  have hF : ∀ q, va_A wc H.size q → zA z q := by
    intro q h
    rcases h with ⟨i, e, h⟩ | h
    · exact hDc.2 i (q, e) h
    · exact E.2.2.2.2.2.2.1 q (Nat.le_trans hS.1 h)
  exact ⟨rfl, by rw [hU], by rw [hU]; exact (hFr.P hP).1, va_K.moved hW.alike E.2.2.2.2.2.1, hDc.weaken (fun _ _ _ _ => trivial), by rw [hU]; exact E.2.2.2.2.2.2.2.1.to hW.alike (fun a h1 h2 => hS.2.1 a h1 h2) hF, E.2.2.2.2.2.2.2.2.to hW⟩
theorem good_cons {y : MethodName} {bytes : ByteArray} {maxL : Nat} {ret : Option FieldType} (h : Cond.code y bytes maxL ret ∈ TB) : GoodIn TB (.code y bytes maxL ret :: TB) := fun w hw => (List.mem_cons.mp hw).elim (fun e => by rw [e]; exact TB_good _ h) (TB_good w)
def CV (own C : String) (idx : Nat) (y : MethodName) (bytes : ByteArray) (maxL : Nat) (ret : Option FieldType) (n : Nat) : Prop := (∀ w ∈ [Cond.methodLink own idx y, Cond.instanceMethod y, Cond.selects C y y, Cond.initialized C, Cond.code y bytes maxL ret], w ∈ TB) ∧ (y.cls = C ∧ y.cls ≠ "java/lang/invoke/MethodHandle" ∧ y.cls ≠ "java/lang/invoke/VarHandle" ∧ (parseMethodDescriptor y.desc).map (fun d => d.parameters.length) = some n) ∧ maxL ≤ 20
def CS (own : String) (idx : Nat) (y : MethodName) (bytes : ByteArray) (maxL : Nat) (ret : Option FieldType) (n : Nat) : Prop := (∀ w ∈ [Cond.methodLink own idx y, Cond.static y, Cond.initialized y.cls, Cond.code y bytes maxL ret], w ∈ TB) ∧ (y.cls ≠ "java/lang/invoke/MethodHandle" ∧ y.cls ≠ "java/lang/invoke/VarHandle" ∧ (parseMethodDescriptor y.desc).map (fun d => d.parameters.length) = some n) ∧ maxL ≤ 20
def CSN (own : String) (idx : Nat) (y : MethodName) (bytes : ByteArray) (maxL : Nat) (ret : Option FieldType) (n : Nat) : Prop := (∀ w ∈ [Cond.static y, Cond.initialized y.cls, Cond.code y bytes maxL ret], w ∈ TB) ∧ (y.cls ≠ "java/lang/invoke/MethodHandle" ∧ y.cls ≠ "java/lang/invoke/VarHandle" ∧ (parseMethodDescriptor y.desc).map (fun d => d.parameters.length) = some n) ∧ maxL ≤ 20 ∧ (own, idx, y) ∈ NXl
theorem rV (E : EN z cc own) {C : String} {idx maxL n d d' mc ms mx sx : Nat} {y : MethodName} {bytes : ByteArray} {ret : Option FieldType} (cw : CV own C idx y bytes maxL ret n) (hR : RR z d mx sx) {w0 wr : va_W} (hFr : Fr w0 w wr) (q0 : Nat) {ci b : Nat} {fs : List Value} {T : u_T} {N : Nat} (he : w[q0]? = some (b, .inr (ci, fs))) (hc : vwCl[ci]? = some (C, T, N)) (As : List Value) {P : Option Value → va_W → Prop} (hC : CT (zl z) (zk z) y bytes maxL ret d' (.ref b :: As) w P mc ms)
    (hdl : d' < d) (hn : As.length = n) {st : List Value} (hst : st = As.reverse ++ .ref b :: rest) (hcat : (rest.map fun v => v.category).sum ≤ 8) (hf : cells + mc ≤ mx ∧ slots + ms ≤ sx) (hd : decode cc pc = .ok (.invokevirtual idx, 3)) (k : ∀ (v : Option Value) (w' : va_W), P v w' → WW z (cells + mc) (slots + ms) (wr ++ w') (pc + 3) lv (v.toList ++ rest)) : WW z cells slots w0 pc lv st := by
  intro H locs ls hP hD hS hl
  obtain ⟨hw, hdd, hmx⟩ := cw
  refine core_call E hFr hP hD hS hl (va_runV (As := As) (rest := rest) ⟨E.1, E.2.1, E.2.2.1, E.2.2.2.1, E.2.2.2.2.1⟩ (hC H.size) (cwV n E.2.2.2.2.1 (fun x hx => ?_) rfl rfl rfl hdd ⟨?_, ?_⟩) ⟨ctP_blind, va_recv E.2.2.2.2.2.1 (hFr.P hP).1 hc he, ctP_at E hFr hP hD hS⟩ rfl hn hl.1 hst (lv_room hcat) hd ⟨Nat.le_trans hf.1 hR.2.2.1, Nat.le_trans hf.2 hR.2.2.2⟩) k
  · rcases List.mem_append.mp hx with h | h
    · refine TB_good x (hw x ?_)
      simp only [List.mem_cons, List.not_mem_nil, or_false] at h ⊢
      rcases h with h | h | h | h <;> simp [h]
    · exact good_cons (hw _ (by simp)) x h
  · show d' + 1 ≤ _
    have := hR.1; omega
  · show 8 + (maxL + 11) + 40 * d' ≤ _
    have := hR.2.1; omega
theorem rS (E : EN z cc own) {idx maxL n d d' mc ms mx sx : Nat} {y : MethodName} {bytes : ByteArray} {ret : Option FieldType} (cw : CS own idx y bytes maxL ret n) (hR : RR z d mx sx) {w0 wr : va_W} (hFr : Fr w0 w wr) (As : List Value) {P : Option Value → va_W → Prop} (hC : CT (zl z) (zk z) y bytes maxL ret d' As w P mc ms)
    (hdl : d' < d) (hn : As.length = n) {st : List Value} (hst : st = As.reverse ++ rest) (hcat : (rest.map fun v => v.category).sum ≤ 8) (hf : cells + mc ≤ mx ∧ slots + ms ≤ sx) (hd : decode cc pc = .ok (.invokestatic idx, 3)) (k : ∀ (v : Option Value) (w' : va_W), P v w' → WW z (cells + mc) (slots + ms) (wr ++ w') (pc + 3) lv (v.toList ++ rest)) : WW z cells slots w0 pc lv st := by
  intro H locs ls hP hD hS hl
  obtain ⟨hw, hdd, hmx⟩ := cw
  refine core_call E hFr hP hD hS hl (va_runS (As := As) (rest := rest) ⟨E.1, E.2.1, E.2.2.1, E.2.2.2.1, E.2.2.2.2.1⟩ (hC H.size) (va_cwS n E.2.2.2.2.1 (fun x hx => ?_) rfl rfl rfl hdd ⟨?_, ?_⟩) ⟨ctP_blind, ctP_at E hFr hP hD hS⟩ rfl hn hl.1 hst (lv_room hcat) hd ⟨Nat.le_trans hf.1 hR.2.2.1, Nat.le_trans hf.2 hR.2.2.2⟩) k
  · rcases List.mem_append.mp hx with h | h
    · refine TB_good x (hw x ?_)
      simp only [List.mem_cons, List.not_mem_nil, or_false] at h ⊢
      rcases h with h | h | h <;> simp [h]
    · exact good_cons (hw _ (by simp)) x h
  · show d' + 1 ≤ _
    have := hR.1; omega
  · show 8 + (maxL + 11) + 40 * d' ≤ _
    have := hR.2.1; omega
theorem rSN (E : EN z cc own) {idx maxL n d d' mc ms mx sx : Nat} {y : MethodName} {bytes : ByteArray} {ret : Option FieldType} (cw : CSN own idx y bytes maxL ret n) (hR : RR z d mx sx) {w0 wr : va_W} (hFr : Fr w0 w wr) (As : List Value) {P : Option Value → va_W → Prop} (hC : CT (zl z) (zk z) y bytes maxL ret d' As w P mc ms)
    (hdl : d' < d) (hn : As.length = n) {st : List Value} (hst : st = As.reverse ++ rest) (hcat : (rest.map fun v => v.category).sum ≤ 8) (hf : cells + mc ≤ mx ∧ slots + ms ≤ sx) (hd : decode cc pc = .ok (.invokestatic idx, 3)) (k : ∀ (v : Option Value) (w' : va_W), P v w' → WW z (cells + mc) (slots + ms) (wr ++ w') (pc + 3) lv (v.toList ++ rest)) : WW z cells slots w0 pc lv st := by
  intro H locs ls hP hD hS hl
  obtain ⟨hw, hdd, hmx, hN⟩ := cw
  refine core_call E hFr hP hD hS hl (va_runSN (As := As) (rest := rest) (host := RX5) ⟨E.1, E.2.1, E.2.2.1, E.2.2.2.1, E.2.2.2.2.1⟩ (hC H.size) ⟨va_cnB n E.2.2.2.2.1 (good_cons (hw _ (by simp))) rfl rfl rfl (E.2.2.2.2.2.2.2.2 _ hN) (E.2.2.2.2.1 _ (hw _ (by simp))) hdd ⟨?_, ?_⟩, E.2.2.2.2.1 _ (hw _ (by simp)), trivial⟩ ⟨ctP_blind, ctP_at E hFr hP hD hS⟩ rfl hn hl.1 hst (lv_room hcat) hd ⟨Nat.le_trans hf.1 hR.2.2.1, Nat.le_trans hf.2 hR.2.2.2⟩) k
  · show d' + 1 ≤ _
    have := hR.1; omega
  · show 8 + (maxL + 11) + 40 * d' ≤ _
    have := hR.2.1; omega
/-- answers that are told whole -/
def eqI (R : Int32) (W' : va_W) : Option Value → va_W → Prop := fun v w => v = some (.int R) ∧ w = W'
def eqV (W' : va_W) : Option Value → va_W → Prop := fun v w => v = none ∧ w = W'
theorem eqI.k {R : Int32} {W' wr : va_W} (hq : pc + 3 = q) (k : WW z cells slots (wr ++ W') q lv (.int R :: rest)) : ∀ (v : Option Value) (w' : va_W), eqI R W' v w' → WW z (cells + 0) (slots + 0) (wr ++ w') (pc + 3) lv (v.toList ++ rest) := by
  subst hq; rintro _ _ ⟨rfl, rfl⟩; exact k
theorem eqV.k {W' wr : va_W} (hq : pc + 3 = q) (k : WW z cells slots (wr ++ W') q lv rest) : ∀ (v : Option Value) (w' : va_W), eqV W' v w' → WW z (cells + 0) (slots + 0) (wr ++ w') (pc + 3) lv (v.toList ++ rest) := by
  subst hq; rintro _ _ ⟨rfl, rfl⟩; exact k
theorem r_iret (E : EN z cc own) {d mc ms : Nat} {w0 : va_W} {P : Option Value → va_W → Prop} (T : RT z (some .int) d w0 P mc ms) {v : Int32} (hd : decode cc pc = .ok (.ireturn, 1)) (hp : P (some (.int v)) w) : WW z mc ms w pc lv [.int v] := by
  intro H locs ls hP hD hS hl
  rw [T.2.2.2.2]
  exact W.iret E.1 E.2.1 T.2.1 (fun t ht hW => ⟨⟨_, w, rfl, hp, by rw [ht]; exact hP, by rw [← T.2.2.2.1]; exact hD⟩, by rw [← T.2.2.2.1]; exact hS.F ht⟩) (by rw [← T.2.2.2.1]; exact hS.2.2) hd T.2.2.1
theorem r_zret (E : EN z cc own) {d mc ms : Nat} {w0 : va_W} {P : Option Value → va_W → Prop} (T : RT z (some .boolean) d w0 P mc ms) {v : Int32} (hv : v = 0 ∨ v = 1) (hd : decode cc pc = .ok (.ireturn, 1)) (hp : P (some (.int v)) w) : WW z mc ms w pc lv [.int v] := by
  intro H locs ls hP hD hS hl
  rw [T.2.2.2.2]
  exact W.zret E.1 E.2.1 T.2.1 (by rcases hv with rfl | rfl <;> rfl) (fun t ht hW => ⟨⟨_, w, rfl, hp, by rw [ht]; exact hP, by rw [← T.2.2.2.1]; exact hD⟩, by rw [← T.2.2.2.1]; exact hS.F ht⟩) (by rw [← T.2.2.2.1]; exact hS.2.2) hd T.2.2.1
theorem r_lret (E : EN z cc own) {d mc ms : Nat} {w0 : va_W} {P : Option Value → va_W → Prop} (T : RT z (some .long) d w0 P mc ms) {v : Int64} (hd : decode cc pc = .ok (.lreturn, 1)) (hp : P (some (.long v)) w) : WW z mc ms w pc lv [.long v] := by
  intro H locs ls hP hD hS hl
  rw [T.2.2.2.2]
  exact W.lret E.1 E.2.1 T.2.1 (fun t ht hW => ⟨⟨_, w, rfl, hp, by rw [ht]; exact hP, by rw [← T.2.2.2.1]; exact hD⟩, by rw [← T.2.2.2.1]; exact hS.F ht⟩) (by rw [← T.2.2.2.1]; exact hS.2.2) hd T.2.2.1
theorem r_vret (E : EN z cc own) {d mc ms : Nat} {w0 : va_W} {P : Option Value → va_W → Prop} (T : RT z none d w0 P mc ms) (hd : decode cc pc = .ok (.return_, 1)) (hp : P none w) : WW z mc ms w pc lv [] := by
  intro H locs ls hP hD hS hl
  rw [T.2.2.2.2]
  exact W.vret E.1 E.2.1 T.2.1 (fun t ht hW => ⟨⟨_, w, rfl, hp, by rw [ht]; exact hP, by rw [← T.2.2.2.1]; exact hD⟩, by rw [← T.2.2.2.1]; exact hS.F ht⟩) (by rw [← T.2.2.2.1]; exact hS.2.2) hd T.2.2.1
end ROWS
