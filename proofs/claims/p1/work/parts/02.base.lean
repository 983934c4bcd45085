/-! ===== one judgement: J says that from a frame with these listed locals, this stack, at this pc, over every heap that holds the cells ws, the machine comes to Q ===== -/
abbrev tysG (ct : Nat → ClassId) : List (ClassId × FieldType) := [(ct 0, .int), (ct 1, .byte), (ct 2, .boolean), (ct 3, .long), (ct 4, .object "GuardedTree$Request")]
abbrev vwClG : List vw_C := vwCl
/-- the class's tables: static arrays of ints that nobody writes -/
abbrev SXt : Type := String × String × Nat × List Int32
def SX (L : List SXt) (ts : Nat → Nat) (A : Nat → Prop) (U : State) (H : Heap) : Prop := ∀ (k : Nat) (q : SXt), L[k]? = some q → va_Z q.1 q.2.1 "[I" (.ref (ts k)) A U H ∧ va_T .int (ts k) q.2.2.1 (fun j => .int (q.2.2.2.getD j 0)) A U H
theorem SX.moved {L : List SXt} {ts : Nat → Nat} {A : Nat → Prop} {u U : State} {H : Heap} (hvm : u.vm.Alike U.vm) (h : SX L ts A u H) : SX L ts A U H := fun k q hq => ⟨(h k q hq).1.moved hvm, (h k q hq).2.moved hvm⟩
theorem SX.kept {L : List SXt} {ts : Nat → Nat} {A : Nat → Prop} {U : State} {H H1 : Heap} (h : SX L ts A U H) (hq : ∀ a : Nat, a < H.size → ¬ A a → H1[a]? = H[a]?) : SX L ts A U H1 := fun k q hk => ⟨(h k q hk).1.kept hq, (h k q hk).2.kept hq⟩
theorem SX.narrow {L : List SXt} {ts : Nat → Nat} {A B : Nat → Prop} {U : State} {H : Heap} (h : SX L ts A U H) (hAB : ∀ q, B q → A q) : SX L ts B U H := fun k q hk => ⟨(h k q hk).1.narrow hAB, (h k q hk).2.narrow hAB⟩
/-- links to a nest mate's private methods, and the class of rows of requests -/
def NX (U : State) : Prop := (∀ (a : String) (i : Nat) (x : MethodName) (h : String), Cond.methodLinkNest a i x h ∈ lw_tbl → va_Nw (.methodLinkNest a i x h) U) ∧ va_AO "GuardedTree$Request" U
theorem NX.warm {s U : State} (hW : s.WarmedH U.vm) (h : NX s) : NX U := ⟨fun a i x b hm => va_Nw.warmM hW (h.1 a i x b hm), h.2.moved hW.alike⟩
theorem NX.same {s U : State} (hv : s.vm = U.vm) (h : NX s) : NX U := ⟨fun a i x b hm => va_Nw.same rfl hv (h.1 a i x b hm), h.2.moved (by rw [hv]; exact Vm.Alike.refl U.vm)⟩
/-- what holds all along a method's walk -/
def Cx (p : Program) (s : State) (m : MethodId) (args : Array Value) (meth : Method) (c : Code) (D : va_G) (ct : Nat → ClassId) (L : List SXt) (ts : Nat → Nat) (A : Nat → Prop) (cc : ByteArray) (own : String) (nL : Nat) (rt : Option FieldType) : Prop :=
  p.tables.exec = Jvm.exec ∧ c.code = cc ∧ c.maxLocals = nL ∧ s.vm.findClass own = some m.cls ∧ (∀ w ∈ tb, w.before args s = true) ∧ va_K D vwCl (tysG ct) s ∧ (∀ q, s.heap.size ≤ q → A q) ∧ meth.sig.returnType = rt ∧ meth.locks = false ∧ SX L ts A s s.heap ∧ NX s
def J (p : Program) (l : Launch) (e : Env) (R : Room) (s : State) (m : MethodId) (args : Array Value) (below : List Frame) (meth : Method) (c : Code) (D : va_G) (A : Nat → Prop) (nL : Nat) (Q : State → Prop) (cells slots : Nat) (ws : va_W) (lv : List (Nat × Value)) (st : List Value) (pc : Nat) : Prop :=
  ∀ (H : Heap) (locs : List Loc) (ls : Array Slot), va_P D vwCl ws H → va_D A ws → va_S A s.heap H locs → lv_has ls nL lv → W p l e R s m args below meth c H locs cells slots Q (F0 m pc ls st)
/-- a contract's start and its world behind it -/
def PcG (D : va_G) (ct : Nat → ClassId) (L : List SXt) (ts : Nat → Nat) (av : List Value) (ws : va_W) (sz : Nat) : Array Value → State → Prop := va_Pc av (fun U => U.heap.size = sz ∧ va_P D vwCl ws U.heap ∧ va_K D vwCl (tysG ct) U ∧ va_D (fun _ => True) ws ∧ SX L ts (va_A ws sz) U U.heap ∧ NX U)
def BG (D : va_G) (ct : Nat → ClassId) (A : Nat → Prop) (w : va_W) (t : State) : Prop := va_P D vwCl w t.heap ∧ va_K D vwCl (tysG ct) t ∧ va_D A w
theorem PcG.blind (D : va_G) (ct : Nat → ClassId) (L : List SXt) (ts : Nat → Nat) (av : List Value) (ws : va_W) (sz : Nat) : FrameBlind (PcG D ct L ts av ws sz) := fun a U g mk q => by
  obtain ⟨q0, q1, qP, qK, qD, qS, qN⟩ := q
  exact ⟨q0, q1, qP, va_K.moved (u := U) (U := U.calling g mk a) (Vm.Alike.refl U.vm) qK, qD, SX.moved (u := U) (U := U.calling g mk a) (Vm.Alike.refl U.vm) qS, NX.same rfl qN⟩
section CXA
variable {p : Program} {s : State} {m : MethodId} {args : Array Value} {meth : Method} {c : Code} {D : va_G} {ct : Nat → ClassId} {L : List SXt} {ts : Nat → Nat} {A : Nat → Prop} {cc : ByteArray} {own : String} {nL : Nat} {rt : Option FieldType}
theorem Cx.ex (X : Cx p s m args meth c D ct L ts A cc own nL rt) : p.tables.exec = Jvm.exec := X.1
theorem Cx.by (X : Cx p s m args meth c D ct L ts A cc own nL rt) : c.code = cc := X.2.1
theorem Cx.ml (X : Cx p s m args meth c D ct L ts A cc own nL rt) : c.maxLocals = nL := X.2.2.1
theorem Cx.ow (X : Cx p s m args meth c D ct L ts A cc own nL rt) : s.vm.findClass own = some m.cls := X.2.2.2.1
theorem Cx.wd (X : Cx p s m args meth c D ct L ts A cc own nL rt) : ∀ w ∈ tb, w.before args s = true := X.2.2.2.2.1
theorem Cx.kk (X : Cx p s m args meth c D ct L ts A cc own nL rt) : va_K D vwCl (tysG ct) s := X.2.2.2.2.2.1
theorem Cx.ha (X : Cx p s m args meth c D ct L ts A cc own nL rt) : ∀ q, s.heap.size ≤ q → A q := X.2.2.2.2.2.2.1
theorem Cx.ret (X : Cx p s m args meth c D ct L ts A cc own nL rt) : meth.sig.returnType = rt := X.2.2.2.2.2.2.2.1
theorem Cx.lk (X : Cx p s m args meth c D ct L ts A cc own nL rt) : meth.locks = false := X.2.2.2.2.2.2.2.2.1
theorem Cx.sx (X : Cx p s m args meth c D ct L ts A cc own nL rt) : SX L ts A s s.heap := X.2.2.2.2.2.2.2.2.2.1
theorem Cx.nx (X : Cx p s m args meth c D ct L ts A cc own nL rt) : NX s := X.2.2.2.2.2.2.2.2.2.2
end CXA
section JROWS
variable {p : Program} {l : Launch} {e : Env} {R : Room} {s : State} {m : MethodId} {args : Array Value} {below : List Frame} {meth : Method} {c : Code} {D : va_G} {ct : Nat → ClassId} {L : List SXt} {ts : Nat → Nat} {A : Nat → Prop} {cc : ByteArray} {own : String} {nL : Nat} {rt : Option FieldType} {Q : State → Prop} {cells slots : Nat} {ws : va_W} {lv lv' : List (Nat × Value)} {rest : List Value} {pc q : Nat}
theorem j_iconst (X : Cx p s m args meth c D ct L ts A cc own nL rt) {n : Int} {v : Int32} (hd : decode cc pc = .ok (.iconst n, 1)) (hv : Int32.ofInt n = v) (hq : pc + 1 = q) (k : J p l e R s m args below meth c D A nL Q cells slots ws lv (.int v :: rest) q) : J p l e R s m args below meth c D A nL Q cells slots ws lv (rest) pc := by
  intro H locs ls hP hD hS hl
  subst hq
  exact lv_iconst X.1 X.2.1 hd hv (k H locs ls hP hD hS hl)
theorem j_bipush (X : Cx p s m args meth c D ct L ts A cc own nL rt) {n : Int} {v : Int32} (hd : decode cc pc = .ok (.bipush n, 2)) (hv : (Int8.ofInt n).toInt32 = v) (hq : pc + 2 = q) (k : J p l e R s m args below meth c D A nL Q cells slots ws lv (.int v :: rest) q) : J p l e R s m args below meth c D A nL Q cells slots ws lv (rest) pc := by
  intro H locs ls hP hD hS hl
  subst hq
  exact lv_bipush X.1 X.2.1 hd hv (k H locs ls hP hD hS hl)
theorem j_sipush (X : Cx p s m args meth c D ct L ts A cc own nL rt) {n : Int} {v : Int32} (hd : decode cc pc = .ok (.sipush n, 3)) (hv : (Int16.ofInt n).toInt32 = v) (hq : pc + 3 = q) (k : J p l e R s m args below meth c D A nL Q cells slots ws lv (.int v :: rest) q) : J p l e R s m args below meth c D A nL Q cells slots ws lv (rest) pc := by
  intro H locs ls hP hD hS hl
  subst hq
  exact lv_sipush X.1 X.2.1 hd hv (k H locs ls hP hD hS hl)
theorem j_lconst (X : Cx p s m args meth c D ct L ts A cc own nL rt) {n : Fin 2} {v : Int64} (hd : decode cc pc = .ok (.lconst n, 1)) (hv : Int64.ofNat (n : Nat) = v) (hq : pc + 1 = q) (k : J p l e R s m args below meth c D A nL Q cells slots ws lv (.long v :: rest) q) : J p l e R s m args below meth c D A nL Q cells slots ws lv (rest) pc := by
  intro H locs ls hP hD hS hl
  subst hq
  exact lv_lconst X.1 X.2.1 hd hv (k H locs ls hP hD hS hl)
theorem j_null (X : Cx p s m args meth c D ct L ts A cc own nL rt) (hd : decode cc pc = .ok (.aconst_null, 1)) (hq : pc + 1 = q) (k : J p l e R s m args below meth c D A nL Q cells slots ws lv (.null :: rest) q) : J p l e R s m args below meth c D A nL Q cells slots ws lv (rest) pc := by
  intro H locs ls hP hD hS hl
  subst hq
  exact lv_null X.1 X.2.1 hd (k H locs ls hP hD hS hl)
theorem j_ldc (X : Cx p s m args meth c D ct L ts A cc own nL rt) {index : Nat} {v : Int32} (hw : Cond.constant own index v ∈ tb) (hd : decode cc pc = .ok (.ldc index, 2)) (hq : pc + 2 = q) (k : J p l e R s m args below meth c D A nL Q cells slots ws lv (.int v :: rest) q) : J p l e R s m args below meth c D A nL Q cells slots ws lv (rest) pc := by
  intro H locs ls hP hD hS hl
  subst hq
  exact lv_ldc X.1 X.2.1 X.ow (X.wd _ hw) hd (k H locs ls hP hD hS hl)
theorem j_ldcw (X : Cx p s m args meth c D ct L ts A cc own nL rt) {index : Nat} {v : Int32} (hw : Cond.constant own index v ∈ tb) (hd : decode cc pc = .ok (.ldc_w index, 3)) (hq : pc + 3 = q) (k : J p l e R s m args below meth c D A nL Q cells slots ws lv (.int v :: rest) q) : J p l e R s m args below meth c D A nL Q cells slots ws lv (rest) pc := by
  intro H locs ls hP hD hS hl
  subst hq
  exact lv_ldcw X.1 X.2.1 X.ow (X.wd _ hw) hd (k H locs ls hP hD hS hl)
theorem j_ldc2 (X : Cx p s m args meth c D ct L ts A cc own nL rt) {index : Nat} {v : Int64} (hw : Cond.constantLong own index v ∈ tb) (hd : decode cc pc = .ok (.ldc2_w index, 3)) (hq : pc + 3 = q) (k : J p l e R s m args below meth c D A nL Q cells slots ws lv (.long v :: rest) q) : J p l e R s m args below meth c D A nL Q cells slots ws lv (rest) pc := by
  intro H locs ls hP hD hS hl
  subst hq
  exact lv_ldc2 X.1 X.2.1 X.ow (X.wd _ hw) hd (k H locs ls hP hD hS hl)
theorem j_iload_n (X : Cx p s m args meth c D ct L ts A cc own nL rt) (z : Nat) {i : Fin 4} {x : Int32} (hd : decode cc pc = .ok (.iload_n i, 1)) (hz : lv[z]? = some ((i : Nat), .int x)) (hq : pc + 1 = q) (k : J p l e R s m args below meth c D A nL Q cells slots ws lv (.int x :: rest) q) : J p l e R s m args below meth c D A nL Q cells slots ws lv (rest) pc := by
  intro H locs ls hP hD hS hl
  subst hq
  exact lv_iload_n X.1 X.2.1 hd rfl (lv_at hl z hz) (k H locs ls hP hD hS hl)
theorem j_iload (X : Cx p s m args meth c D ct L ts A cc own nL rt) (z : Nat) {i : Nat} {x : Int32} (hd : decode cc pc = .ok (.iload i, 2)) (hz : lv[z]? = some (i, .int x)) (hq : pc + 2 = q) (k : J p l e R s m args below meth c D A nL Q cells slots ws lv (.int x :: rest) q) : J p l e R s m args below meth c D A nL Q cells slots ws lv (rest) pc := by
  intro H locs ls hP hD hS hl
  subst hq
  exact lv_iload X.1 X.2.1 hd (lv_at hl z hz) (k H locs ls hP hD hS hl)
theorem j_lload_n (X : Cx p s m args meth c D ct L ts A cc own nL rt) (z : Nat) {i : Fin 4} {x : Int64} (hd : decode cc pc = .ok (.lload_n i, 1)) (hz : lv[z]? = some ((i : Nat), .long x)) (hq : pc + 1 = q) (k : J p l e R s m args below meth c D A nL Q cells slots ws lv (.long x :: rest) q) : J p l e R s m args below meth c D A nL Q cells slots ws lv (rest) pc := by
  intro H locs ls hP hD hS hl
  subst hq
  exact lv_lload_n X.1 X.2.1 hd rfl (lv_at hl z hz) (k H locs ls hP hD hS hl)
theorem j_lload (X : Cx p s m args meth c D ct L ts A cc own nL rt) (z : Nat) {i : Nat} {x : Int64} (hd : decode cc pc = .ok (.lload i, 2)) (hz : lv[z]? = some (i, .long x)) (hq : pc + 2 = q) (k : J p l e R s m args below meth c D A nL Q cells slots ws lv (.long x :: rest) q) : J p l e R s m args below meth c D A nL Q cells slots ws lv (rest) pc := by
  intro H locs ls hP hD hS hl
  subst hq
  exact lv_lload X.1 X.2.1 hd (lv_at hl z hz) (k H locs ls hP hD hS hl)
theorem j_aload_n (X : Cx p s m args meth c D ct L ts A cc own nL rt) (z : Nat) {i : Fin 4} {x : Nat} (hd : decode cc pc = .ok (.aload_n i, 1)) (hz : lv[z]? = some ((i : Nat), .ref x)) (hq : pc + 1 = q) (k : J p l e R s m args below meth c D A nL Q cells slots ws lv (.ref x :: rest) q) : J p l e R s m args below meth c D A nL Q cells slots ws lv (rest) pc := by
  intro H locs ls hP hD hS hl
  subst hq
  exact lv_aload_n X.1 X.2.1 hd rfl (lv_at hl z hz) (k H locs ls hP hD hS hl)
theorem j_aload (X : Cx p s m args meth c D ct L ts A cc own nL rt) (z : Nat) {i : Nat} {x : Nat} (hd : decode cc pc = .ok (.aload i, 2)) (hz : lv[z]? = some (i, .ref x)) (hq : pc + 2 = q) (k : J p l e R s m args below meth c D A nL Q cells slots ws lv (.ref x :: rest) q) : J p l e R s m args below meth c D A nL Q cells slots ws lv (rest) pc := by
  intro H locs ls hP hD hS hl
  subst hq
  exact lv_aload X.1 X.2.1 hd (lv_at hl z hz) (k H locs ls hP hD hS hl)
theorem j_aloadN_n (X : Cx p s m args meth c D ct L ts A cc own nL rt) (z : Nat) {i : Fin 4} (hd : decode cc pc = .ok (.aload_n i, 1)) (hz : lv[z]? = some ((i : Nat), .null)) (hq : pc + 1 = q) (k : J p l e R s m args below meth c D A nL Q cells slots ws lv (.null :: rest) q) : J p l e R s m args below meth c D A nL Q cells slots ws lv (rest) pc := by
  intro H locs ls hP hD hS hl
  subst hq
  exact lv_aload_nN X.1 X.2.1 hd rfl (lv_at hl z hz) (k H locs ls hP hD hS hl)
theorem j_aloadN (X : Cx p s m args meth c D ct L ts A cc own nL rt) (z : Nat) {i : Nat} (hd : decode cc pc = .ok (.aload i, 2)) (hz : lv[z]? = some (i, .null)) (hq : pc + 2 = q) (k : J p l e R s m args below meth c D A nL Q cells slots ws lv (.null :: rest) q) : J p l e R s m args below meth c D A nL Q cells slots ws lv (rest) pc := by
  intro H locs ls hP hD hS hl
  subst hq
  exact lv_aloadN X.1 X.2.1 hd (lv_at hl z hz) (k H locs ls hP hD hS hl)
theorem j_istore_n (X : Cx p s m args meth c D ct L ts A cc own nL rt) {i : Fin 4} {x : Int32} (hd : decode cc pc = .ok (.istore_n i, 1)) (hn : (i : Nat) < nL) (hz : ((i : Nat), Value.int x) :: lv.filter (fun q => !(q.1 == (i : Nat)) && !(q.1 + 1 == (i : Nat) && q.2.category == 2)) = lv') (hq : pc + 1 = q) (k : J p l e R s m args below meth c D A nL Q cells slots ws lv' (rest) q) : J p l e R s m args below meth c D A nL Q cells slots ws lv (.int x :: rest) pc := by
  intro H locs ls hP hD hS hl
  subst hq
  exact lv_istore_n X.1 X.2.1 hd rfl hl hn hz (fun ls' hl' => k H locs ls' hP hD hS hl')
theorem j_istore (X : Cx p s m args meth c D ct L ts A cc own nL rt) {i : Nat} {x : Int32} (hd : decode cc pc = .ok (.istore i, 2)) (hn : i < nL) (hz : (i, Value.int x) :: lv.filter (fun q => !(q.1 == i) && !(q.1 + 1 == i && q.2.category == 2)) = lv') (hq : pc + 2 = q) (k : J p l e R s m args below meth c D A nL Q cells slots ws lv' (rest) q) : J p l e R s m args below meth c D A nL Q cells slots ws lv (.int x :: rest) pc := by
  intro H locs ls hP hD hS hl
  subst hq
  exact lv_istore X.1 X.2.1 hd hl hn hz (fun ls' hl' => k H locs ls' hP hD hS hl')
theorem j_lstore_n (X : Cx p s m args meth c D ct L ts A cc own nL rt) {i : Fin 4} {x : Int64} (hd : decode cc pc = .ok (.lstore_n i, 1)) (hn : (i : Nat) + 1 < nL) (hz : ((i : Nat), Value.long x) :: lv.filter (fun q => !(q.1 == (i : Nat)) && (!(q.1 == (i : Nat) + 1) && !(q.1 + 1 == (i : Nat) && q.2.category == 2))) = lv') (hq : pc + 1 = q) (k : J p l e R s m args below meth c D A nL Q cells slots ws lv' (rest) q) : J p l e R s m args below meth c D A nL Q cells slots ws lv (.long x :: rest) pc := by
  intro H locs ls hP hD hS hl
  subst hq
  exact lv_lstore_n X.1 X.2.1 hd rfl hl hn hz (fun ls' hl' => k H locs ls' hP hD hS hl')
theorem j_lstore (X : Cx p s m args meth c D ct L ts A cc own nL rt) {i : Nat} {x : Int64} (hd : decode cc pc = .ok (.lstore i, 2)) (hn : i + 1 < nL) (hz : (i, Value.long x) :: lv.filter (fun q => !(q.1 == i) && (!(q.1 == i + 1) && !(q.1 + 1 == i && q.2.category == 2))) = lv') (hq : pc + 2 = q) (k : J p l e R s m args below meth c D A nL Q cells slots ws lv' (rest) q) : J p l e R s m args below meth c D A nL Q cells slots ws lv (.long x :: rest) pc := by
  intro H locs ls hP hD hS hl
  subst hq
  exact lv_lstore X.1 X.2.1 hd hl hn hz (fun ls' hl' => k H locs ls' hP hD hS hl')
theorem j_astore_n (X : Cx p s m args meth c D ct L ts A cc own nL rt) {i : Fin 4} {x : Nat} (hd : decode cc pc = .ok (.astore_n i, 1)) (hn : (i : Nat) < nL) (hz : ((i : Nat), Value.ref x) :: lv.filter (fun q => !(q.1 == (i : Nat)) && !(q.1 + 1 == (i : Nat) && q.2.category == 2)) = lv') (hq : pc + 1 = q) (k : J p l e R s m args below meth c D A nL Q cells slots ws lv' (rest) q) : J p l e R s m args below meth c D A nL Q cells slots ws lv (.ref x :: rest) pc := by
  intro H locs ls hP hD hS hl
  subst hq
  exact lv_astore_n X.1 X.2.1 hd rfl hl hn hz (fun ls' hl' => k H locs ls' hP hD hS hl')
theorem j_astore (X : Cx p s m args meth c D ct L ts A cc own nL rt) {i : Nat} {x : Nat} (hd : decode cc pc = .ok (.astore i, 2)) (hn : i < nL) (hz : (i, Value.ref x) :: lv.filter (fun q => !(q.1 == i) && !(q.1 + 1 == i && q.2.category == 2)) = lv') (hq : pc + 2 = q) (k : J p l e R s m args below meth c D A nL Q cells slots ws lv' (rest) q) : J p l e R s m args below meth c D A nL Q cells slots ws lv (.ref x :: rest) pc := by
  intro H locs ls hP hD hS hl
  subst hq
  exact lv_astore X.1 X.2.1 hd hl hn hz (fun ls' hl' => k H locs ls' hP hD hS hl')
theorem j_astoreN_n (X : Cx p s m args meth c D ct L ts A cc own nL rt) {i : Fin 4} (hd : decode cc pc = .ok (.astore_n i, 1)) (hn : (i : Nat) < nL) (hz : ((i : Nat), Value.null) :: lv.filter (fun q => !(q.1 == (i : Nat)) && !(q.1 + 1 == (i : Nat) && q.2.category == 2)) = lv') (hq : pc + 1 = q) (k : J p l e R s m args below meth c D A nL Q cells slots ws lv' (rest) q) : J p l e R s m args below meth c D A nL Q cells slots ws lv (.null :: rest) pc := by
  intro H locs ls hP hD hS hl
  subst hq
  exact lv_astore_nN X.1 X.2.1 hd rfl hl hn hz (fun ls' hl' => k H locs ls' hP hD hS hl')
theorem j_astoreN (X : Cx p s m args meth c D ct L ts A cc own nL rt) {i : Nat} (hd : decode cc pc = .ok (.astore i, 2)) (hn : i < nL) (hz : (i, Value.null) :: lv.filter (fun q => !(q.1 == i) && !(q.1 + 1 == i && q.2.category == 2)) = lv') (hq : pc + 2 = q) (k : J p l e R s m args below meth c D A nL Q cells slots ws lv' (rest) q) : J p l e R s m args below meth c D A nL Q cells slots ws lv (.null :: rest) pc := by
  intro H locs ls hP hD hS hl
  subst hq
  exact lv_astoreN X.1 X.2.1 hd hl hn hz (fun ls' hl' => k H locs ls' hP hD hS hl')
theorem j_iinc (X : Cx p s m args meth c D ct L ts A cc own nL rt) (z : Nat) {i : Nat} {n : Int} {x v : Int32} (hd : decode cc pc = .ok (.iinc i n, 3)) (hz : lv[z]? = some (i, .int x)) (hv : x + Int32.ofInt n = v) (hn : i < nL) (hf : (i, Value.int v) :: lv.filter (fun q => !(q.1 == i) && !(q.1 + 1 == i && q.2.category == 2)) = lv') (hq : pc + 3 = q) (k : J p l e R s m args below meth c D A nL Q cells slots ws lv' (rest) q) : J p l e R s m args below meth c D A nL Q cells slots ws lv (rest) pc := by
  intro H locs ls hP hD hS hl
  subst hq
  exact lv_iinc X.1 X.2.1 hd hl hz hv hn hf (fun ls' hl' => k H locs ls' hP hD hS hl')
theorem j_topi {x : Int32} {st : List Value} (k : ∀ y : Int32, y = x → J p l e R s m args below meth c D A nL Q cells slots ws lv (.int y :: st) pc) : J p l e R s m args below meth c D A nL Q cells slots ws lv (.int x :: st) pc := k x rfl
theorem j_topl {x : Int64} {st : List Value} (k : ∀ y : Int64, y = x → J p l e R s m args below meth c D A nL Q cells slots ws lv (.long y :: st) pc) : J p l e R s m args below meth c D A nL Q cells slots ws lv (.long x :: st) pc := k x rfl
theorem j_eqi {x y : Int32} {st : List Value} (h : x = y) (k : J p l e R s m args below meth c D A nL Q cells slots ws lv (.int y :: st) pc) : J p l e R s m args below meth c D A nL Q cells slots ws lv (.int x :: st) pc := h ▸ k
theorem j_eql {x y : Int64} {st : List Value} (h : x = y) (k : J p l e R s m args below meth c D A nL Q cells slots ws lv (.long y :: st) pc) : J p l e R s m args below meth c D A nL Q cells slots ws lv (.long x :: st) pc := h ▸ k
theorem j_ws {ws2 : va_W} {st : List Value} (h : ws = ws2) (k : J p l e R s m args below meth c D A nL Q cells slots ws2 lv st pc) : J p l e R s m args below meth c D A nL Q cells slots ws lv st pc := h ▸ k
theorem j_lv {st : List Value} (ks : List Nat) (h : lv_pick lv ks = lv') (k : J p l e R s m args below meth c D A nL Q cells slots ws lv' st pc) : J p l e R s m args below meth c D A nL Q cells slots ws lv st pc := fun H locs ls hP hD hS hl => k H locs ls hP hD hS (lv_sub hl ks h)
theorem j_wid {st : List Value} {a b : Nat} (h1 : cells ≤ a) (h2 : slots ≤ b) (k : J p l e R s m args below meth c D A nL Q a b ws lv st pc) : J p l e R s m args below meth c D A nL Q cells slots ws lv st pc := fun H locs ls hP hD hS hl => W.widen h1 h2 (k H locs ls hP hD hS hl)
theorem j_perm {ws2 : va_W} {st : List Value} (is : List Nat) (hn : va_nd is = true) (h : is.map (fun i => ws[i]?) = ws2.map some) (k : J p l e R s m args below meth c D A nL Q cells slots ws2 lv st pc) : J p l e R s m args below meth c D A nL Q cells slots ws lv st pc := fun H locs ls hP hD hS hl => k H locs ls (hP.sub is (by
  have h2 := congrArg (List.filterMap id) h
  rw [List.filterMap_map, List.filterMap_map] at h2
  simpa using h2)) (hD.sub is hn h) hS hl
theorem j_iadd (X : Cx p s m args meth c D ct L ts A cc own nL rt) {x y : Int32} (hd : decode cc pc = .ok (.iadd, 1)) (hq : pc + 1 = q) (k : J p l e R s m args below meth c D A nL Q cells slots ws lv (.int (x + y) :: rest) q) : J p l e R s m args below meth c D A nL Q cells slots ws lv (.int y :: .int x :: rest) pc := by
  intro H locs ls hP hD hS hl
  subst hq
  exact lv_iadd X.1 X.2.1 hd (k H locs ls hP hD hS hl)
theorem j_isub (X : Cx p s m args meth c D ct L ts A cc own nL rt) {x y : Int32} (hd : decode cc pc = .ok (.isub, 1)) (hq : pc + 1 = q) (k : J p l e R s m args below meth c D A nL Q cells slots ws lv (.int (x - y) :: rest) q) : J p l e R s m args below meth c D A nL Q cells slots ws lv (.int y :: .int x :: rest) pc := by
  intro H locs ls hP hD hS hl
  subst hq
  exact lv_isub X.1 X.2.1 hd (k H locs ls hP hD hS hl)
theorem j_imul (X : Cx p s m args meth c D ct L ts A cc own nL rt) {x y : Int32} (hd : decode cc pc = .ok (.imul, 1)) (hq : pc + 1 = q) (k : J p l e R s m args below meth c D A nL Q cells slots ws lv (.int (x * y) :: rest) q) : J p l e R s m args below meth c D A nL Q cells slots ws lv (.int y :: .int x :: rest) pc := by
  intro H locs ls hP hD hS hl
  subst hq
  exact lv_imul X.1 X.2.1 hd (k H locs ls hP hD hS hl)
theorem j_iand (X : Cx p s m args meth c D ct L ts A cc own nL rt) {x y : Int32} (hd : decode cc pc = .ok (.iand, 1)) (hq : pc + 1 = q) (k : J p l e R s m args below meth c D A nL Q cells slots ws lv (.int (x &&& y) :: rest) q) : J p l e R s m args below meth c D A nL Q cells slots ws lv (.int y :: .int x :: rest) pc := by
  intro H locs ls hP hD hS hl
  subst hq
  exact lv_iand X.1 X.2.1 hd (k H locs ls hP hD hS hl)
theorem j_ior (X : Cx p s m args meth c D ct L ts A cc own nL rt) {x y : Int32} (hd : decode cc pc = .ok (.ior, 1)) (hq : pc + 1 = q) (k : J p l e R s m args below meth c D A nL Q cells slots ws lv (.int (x ||| y) :: rest) q) : J p l e R s m args below meth c D A nL Q cells slots ws lv (.int y :: .int x :: rest) pc := by
  intro H locs ls hP hD hS hl
  subst hq
  exact lv_ior X.1 X.2.1 hd (k H locs ls hP hD hS hl)
theorem j_ixor (X : Cx p s m args meth c D ct L ts A cc own nL rt) {x y : Int32} (hd : decode cc pc = .ok (.ixor, 1)) (hq : pc + 1 = q) (k : J p l e R s m args below meth c D A nL Q cells slots ws lv (.int (x ^^^ y) :: rest) q) : J p l e R s m args below meth c D A nL Q cells slots ws lv (.int y :: .int x :: rest) pc := by
  intro H locs ls hP hD hS hl
  subst hq
  exact lv_ixor X.1 X.2.1 hd (k H locs ls hP hD hS hl)
theorem j_ishl (X : Cx p s m args meth c D ct L ts A cc own nL rt) {x y : Int32} (hd : decode cc pc = .ok (.ishl, 1)) (hq : pc + 1 = q) (k : J p l e R s m args below meth c D A nL Q cells slots ws lv (.int (x <<< (y &&& 31)) :: rest) q) : J p l e R s m args below meth c D A nL Q cells slots ws lv (.int y :: .int x :: rest) pc := by
  intro H locs ls hP hD hS hl
  subst hq
  exact lv_ishl X.1 X.2.1 hd (k H locs ls hP hD hS hl)
theorem j_ishr (X : Cx p s m args meth c D ct L ts A cc own nL rt) {x y : Int32} (hd : decode cc pc = .ok (.ishr, 1)) (hq : pc + 1 = q) (k : J p l e R s m args below meth c D A nL Q cells slots ws lv (.int (x >>> (y &&& 31)) :: rest) q) : J p l e R s m args below meth c D A nL Q cells slots ws lv (.int y :: .int x :: rest) pc := by
  intro H locs ls hP hD hS hl
  subst hq
  exact lv_ishr X.1 X.2.1 hd (k H locs ls hP hD hS hl)
theorem j_idiv (X : Cx p s m args meth c D ct L ts A cc own nL rt) {x y : Int32} (hd : decode cc pc = .ok (.idiv, 1)) (hne : ¬ y = 0) (hq : pc + 1 = q) (k : J p l e R s m args below meth c D A nL Q cells slots ws lv (.int (x / y) :: rest) q) : J p l e R s m args below meth c D A nL Q cells slots ws lv (.int y :: .int x :: rest) pc := by
  intro H locs ls hP hD hS hl
  subst hq
  exact lv_idiv X.1 X.2.1 hd hne (k H locs ls hP hD hS hl)
theorem j_irem (X : Cx p s m args meth c D ct L ts A cc own nL rt) {x y : Int32} (hd : decode cc pc = .ok (.irem, 1)) (hne : ¬ y = 0) (hq : pc + 1 = q) (k : J p l e R s m args below meth c D A nL Q cells slots ws lv (.int (x - x / y * y) :: rest) q) : J p l e R s m args below meth c D A nL Q cells slots ws lv (.int y :: .int x :: rest) pc := by
  intro H locs ls hP hD hS hl
  subst hq
  exact lv_irem X.1 X.2.1 hd hne (k H locs ls hP hD hS hl)
theorem j_ineg (X : Cx p s m args meth c D ct L ts A cc own nL rt) {x : Int32} (hd : decode cc pc = .ok (.ineg, 1)) (hq : pc + 1 = q) (k : J p l e R s m args below meth c D A nL Q cells slots ws lv (.int (-x) :: rest) q) : J p l e R s m args below meth c D A nL Q cells slots ws lv (.int x :: rest) pc := by
  intro H locs ls hP hD hS hl
  subst hq
  exact lv_ineg X.1 X.2.1 hd (k H locs ls hP hD hS hl)
theorem j_iushr (X : Cx p s m args meth c D ct L ts A cc own nL rt) {x y : Int32} (hd : decode cc pc = .ok (.iushr, 1)) (hq : pc + 1 = q) (k : J p l e R s m args below meth c D A nL Q cells slots ws lv (.int (x.toUInt32 >>> (y.toUInt32 &&& Int32.toUInt32 31)).toInt32 :: rest) q) : J p l e R s m args below meth c D A nL Q cells slots ws lv (.int y :: .int x :: rest) pc := by
  intro H locs ls hP hD hS hl
  subst hq
  exact lv_iushr X.1 X.2.1 hd rfl (k H locs ls hP hD hS hl)
theorem j_ladd (X : Cx p s m args meth c D ct L ts A cc own nL rt) {x y : Int64} (hd : decode cc pc = .ok (.ladd, 1)) (hq : pc + 1 = q) (k : J p l e R s m args below meth c D A nL Q cells slots ws lv (.long (x + y) :: rest) q) : J p l e R s m args below meth c D A nL Q cells slots ws lv (.long y :: .long x :: rest) pc := by
  intro H locs ls hP hD hS hl
  subst hq
  exact lv_ladd X.1 X.2.1 hd (k H locs ls hP hD hS hl)
theorem j_lsub (X : Cx p s m args meth c D ct L ts A cc own nL rt) {x y : Int64} (hd : decode cc pc = .ok (.lsub, 1)) (hq : pc + 1 = q) (k : J p l e R s m args below meth c D A nL Q cells slots ws lv (.long (x - y) :: rest) q) : J p l e R s m args below meth c D A nL Q cells slots ws lv (.long y :: .long x :: rest) pc := by
  intro H locs ls hP hD hS hl
  subst hq
  exact lv_lsub X.1 X.2.1 hd (k H locs ls hP hD hS hl)
theorem j_lmul (X : Cx p s m args meth c D ct L ts A cc own nL rt) {x y : Int64} (hd : decode cc pc = .ok (.lmul, 1)) (hq : pc + 1 = q) (k : J p l e R s m args below meth c D A nL Q cells slots ws lv (.long (x * y) :: rest) q) : J p l e R s m args below meth c D A nL Q cells slots ws lv (.long y :: .long x :: rest) pc := by
  intro H locs ls hP hD hS hl
  subst hq
  exact lv_lmul X.1 X.2.1 hd (k H locs ls hP hD hS hl)
theorem j_land (X : Cx p s m args meth c D ct L ts A cc own nL rt) {x y : Int64} (hd : decode cc pc = .ok (.land, 1)) (hq : pc + 1 = q) (k : J p l e R s m args below meth c D A nL Q cells slots ws lv (.long (x &&& y) :: rest) q) : J p l e R s m args below meth c D A nL Q cells slots ws lv (.long y :: .long x :: rest) pc := by
  intro H locs ls hP hD hS hl
  subst hq
  exact lv_land X.1 X.2.1 hd (k H locs ls hP hD hS hl)
theorem j_lor (X : Cx p s m args meth c D ct L ts A cc own nL rt) {x y : Int64} (hd : decode cc pc = .ok (.lor, 1)) (hq : pc + 1 = q) (k : J p l e R s m args below meth c D A nL Q cells slots ws lv (.long (x ||| y) :: rest) q) : J p l e R s m args below meth c D A nL Q cells slots ws lv (.long y :: .long x :: rest) pc := by
  intro H locs ls hP hD hS hl
  subst hq
  exact lv_lor X.1 X.2.1 hd (k H locs ls hP hD hS hl)
theorem j_lxor (X : Cx p s m args meth c D ct L ts A cc own nL rt) {x y : Int64} (hd : decode cc pc = .ok (.lxor, 1)) (hq : pc + 1 = q) (k : J p l e R s m args below meth c D A nL Q cells slots ws lv (.long (x ^^^ y) :: rest) q) : J p l e R s m args below meth c D A nL Q cells slots ws lv (.long y :: .long x :: rest) pc := by
  intro H locs ls hP hD hS hl
  subst hq
  exact lv_lxor X.1 X.2.1 hd (k H locs ls hP hD hS hl)
theorem j_ldiv (X : Cx p s m args meth c D ct L ts A cc own nL rt) {x y : Int64} (hd : decode cc pc = .ok (.ldiv, 1)) (hne : ¬ y = 0) (hq : pc + 1 = q) (k : J p l e R s m args below meth c D A nL Q cells slots ws lv (.long (x / y) :: rest) q) : J p l e R s m args below meth c D A nL Q cells slots ws lv (.long y :: .long x :: rest) pc := by
  intro H locs ls hP hD hS hl
  subst hq
  exact lv_ldiv X.1 X.2.1 hd hne (k H locs ls hP hD hS hl)
theorem j_lrem (X : Cx p s m args meth c D ct L ts A cc own nL rt) {x y : Int64} (hd : decode cc pc = .ok (.lrem, 1)) (hne : ¬ y = 0) (hq : pc + 1 = q) (k : J p l e R s m args below meth c D A nL Q cells slots ws lv (.long (x - x / y * y) :: rest) q) : J p l e R s m args below meth c D A nL Q cells slots ws lv (.long y :: .long x :: rest) pc := by
  intro H locs ls hP hD hS hl
  subst hq
  exact lv_lrem X.1 X.2.1 hd hne (k H locs ls hP hD hS hl)
theorem j_lushr (X : Cx p s m args meth c D ct L ts A cc own nL rt) {x : Int64} {y : Int32} (hd : decode cc pc = .ok (.lushr, 1)) (hq : pc + 1 = q) (k : J p l e R s m args below meth c D A nL Q cells slots ws lv (.long (x.toUInt64 >>> (y.toInt64.toUInt64 &&& Int64.toUInt64 63)).toInt64 :: rest) q) : J p l e R s m args below meth c D A nL Q cells slots ws lv (.int y :: .long x :: rest) pc := by
  intro H locs ls hP hD hS hl
  subst hq
  exact lv_lushr X.1 X.2.1 hd rfl (k H locs ls hP hD hS hl)
theorem j_lshl (X : Cx p s m args meth c D ct L ts A cc own nL rt) {x : Int64} {y : Int32} (hd : decode cc pc = .ok (.lshl, 1)) (hq : pc + 1 = q) (k : J p l e R s m args below meth c D A nL Q cells slots ws lv (.long (x <<< (y.toInt64 &&& 63)) :: rest) q) : J p l e R s m args below meth c D A nL Q cells slots ws lv (.int y :: .long x :: rest) pc := by
  intro H locs ls hP hD hS hl
  subst hq
  exact lv_lshl X.1 X.2.1 hd rfl (k H locs ls hP hD hS hl)
theorem j_lshr (X : Cx p s m args meth c D ct L ts A cc own nL rt) {x : Int64} {y : Int32} (hd : decode cc pc = .ok (.lshr, 1)) (hq : pc + 1 = q) (k : J p l e R s m args below meth c D A nL Q cells slots ws lv (.long (x >>> (y.toInt64 &&& 63)) :: rest) q) : J p l e R s m args below meth c D A nL Q cells slots ws lv (.int y :: .long x :: rest) pc := by
  intro H locs ls hP hD hS hl
  subst hq
  exact lv_lshr X.1 X.2.1 hd rfl (k H locs ls hP hD hS hl)
theorem j_i2l (X : Cx p s m args meth c D ct L ts A cc own nL rt) {x : Int32} (hd : decode cc pc = .ok (.i2l, 1)) (hq : pc + 1 = q) (k : J p l e R s m args below meth c D A nL Q cells slots ws lv (.long (x.toInt64) :: rest) q) : J p l e R s m args below meth c D A nL Q cells slots ws lv (.int x :: rest) pc := by
  intro H locs ls hP hD hS hl
  subst hq
  exact lv_i2l X.1 X.2.1 hd rfl (k H locs ls hP hD hS hl)
theorem j_l2i (X : Cx p s m args meth c D ct L ts A cc own nL rt) {x : Int64} (hd : decode cc pc = .ok (.l2i, 1)) (hq : pc + 1 = q) (k : J p l e R s m args below meth c D A nL Q cells slots ws lv (.int (x.toInt32) :: rest) q) : J p l e R s m args below meth c D A nL Q cells slots ws lv (.long x :: rest) pc := by
  intro H locs ls hP hD hS hl
  subst hq
  exact lv_l2i X.1 X.2.1 hd rfl (k H locs ls hP hD hS hl)
theorem j_i2b (X : Cx p s m args meth c D ct L ts A cc own nL rt) {x : Int32} (hd : decode cc pc = .ok (.i2b, 1)) (hq : pc + 1 = q) (k : J p l e R s m args below meth c D A nL Q cells slots ws lv (.int (x.toInt8.toInt32) :: rest) q) : J p l e R s m args below meth c D A nL Q cells slots ws lv (.int x :: rest) pc := by
  intro H locs ls hP hD hS hl
  subst hq
  exact lv_i2b X.1 X.2.1 hd rfl (k H locs ls hP hD hS hl)
theorem j_i2s (X : Cx p s m args meth c D ct L ts A cc own nL rt) {x : Int32} (hd : decode cc pc = .ok (.i2s, 1)) (hq : pc + 1 = q) (k : J p l e R s m args below meth c D A nL Q cells slots ws lv (.int (x.toInt16.toInt32) :: rest) q) : J p l e R s m args below meth c D A nL Q cells slots ws lv (.int x :: rest) pc := by
  intro H locs ls hP hD hS hl
  subst hq
  exact lv_i2s X.1 X.2.1 hd rfl (k H locs ls hP hD hS hl)
theorem j_i2c (X : Cx p s m args meth c D ct L ts A cc own nL rt) {x : Int32} (hd : decode cc pc = .ok (.i2c, 1)) (hq : pc + 1 = q) (k : J p l e R s m args below meth c D A nL Q cells slots ws lv (.int ((x.toUInt32 % 65536).toInt32) :: rest) q) : J p l e R s m args below meth c D A nL Q cells slots ws lv (.int x :: rest) pc := by
  intro H locs ls hP hD hS hl
  subst hq
  exact lv_i2c X.1 X.2.1 hd rfl (k H locs ls hP hD hS hl)
theorem j_dup (X : Cx p s m args meth c D ct L ts A cc own nL rt) {va : Value} (hd : decode cc pc = .ok (.dup, 1)) (h1 : va.category = 1) (hq : pc + 1 = q) (k : J p l e R s m args below meth c D A nL Q cells slots ws lv (va :: va :: rest) q) : J p l e R s m args below meth c D A nL Q cells slots ws lv (va :: rest) pc := by
  intro H locs ls hP hD hS hl
  subst hq
  exact lv_dup X.1 X.2.1 hd h1 (k H locs ls hP hD hS hl)
theorem j_pop (X : Cx p s m args meth c D ct L ts A cc own nL rt) {va : Value} (hd : decode cc pc = .ok (.pop, 1)) (h1 : va.category = 1) (hq : pc + 1 = q) (k : J p l e R s m args below meth c D A nL Q cells slots ws lv (rest) q) : J p l e R s m args below meth c D A nL Q cells slots ws lv (va :: rest) pc := by
  intro H locs ls hP hD hS hl
  subst hq
  exact lv_pop X.1 X.2.1 hd h1 (k H locs ls hP hD hS hl)
theorem j_dup_x1 (X : Cx p s m args meth c D ct L ts A cc own nL rt) {va vb : Value} (hd : decode cc pc = .ok (.dup_x1, 1)) (h1 : va.category = 1) (h2 : vb.category = 1) (hq : pc + 1 = q) (k : J p l e R s m args below meth c D A nL Q cells slots ws lv (va :: vb :: va :: rest) q) : J p l e R s m args below meth c D A nL Q cells slots ws lv (va :: vb :: rest) pc := by
  intro H locs ls hP hD hS hl
  subst hq
  exact lv_dup_x1 X.1 X.2.1 hd h1 h2 (k H locs ls hP hD hS hl)
theorem j_dup_x2 (X : Cx p s m args meth c D ct L ts A cc own nL rt) {va vb vd : Value} (hd : decode cc pc = .ok (.dup_x2, 1)) (h1 : va.category = 1) (h2 : vb.category = 1) (h3 : vd.category = 1) (hq : pc + 1 = q) (k : J p l e R s m args below meth c D A nL Q cells slots ws lv (va :: vb :: vd :: va :: rest) q) : J p l e R s m args below meth c D A nL Q cells slots ws lv (va :: vb :: vd :: rest) pc := by
  intro H locs ls hP hD hS hl
  subst hq
  exact lv_dup_x2 X.1 X.2.1 hd h1 h2 h3 (k H locs ls hP hD hS hl)
theorem j_dup2 (X : Cx p s m args meth c D ct L ts A cc own nL rt) {va vb : Value} (hd : decode cc pc = .ok (.dup2, 1)) (h1 : va.category = 1) (h2 : vb.category = 1) (hq : pc + 1 = q) (k : J p l e R s m args below meth c D A nL Q cells slots ws lv (va :: vb :: va :: vb :: rest) q) : J p l e R s m args below meth c D A nL Q cells slots ws lv (va :: vb :: rest) pc := by
  intro H locs ls hP hD hS hl
  subst hq
  exact lv_dup2_11 X.1 X.2.1 hd h1 h2 (k H locs ls hP hD hS hl)
theorem j_if_eq (X : Cx p s m args meth c D ct L ts A cc own nL rt) {x : Int32} {off : Int} {tgt : Nat} (hd : decode cc pc = .ok (.ifCond .eq off, 3)) (ht : (pc : Int) + off = (tgt : Int)) (hq : pc + 3 = q) (kt : x = 0 → J p l e R s m args below meth c D A nL Q cells slots ws lv rest tgt) (kf : ¬ x = 0 → J p l e R s m args below meth c D A nL Q cells slots ws lv rest q) : J p l e R s m args below meth c D A nL Q cells slots ws lv (.int x :: rest) pc := by
  intro H locs ls hP hD hS hl
  subst hq
  exact lv_if_eq X.1 X.2.1 hd ht (fun h => kt h H locs ls hP hD hS hl) (fun h => kf h H locs ls hP hD hS hl)
theorem j_icmp_eq (X : Cx p s m args meth c D ct L ts A cc own nL rt) {x y : Int32} {off : Int} {tgt : Nat} (hd : decode cc pc = .ok (.if_icmp .eq off, 3)) (ht : (pc : Int) + off = (tgt : Int)) (hq : pc + 3 = q) (kt : x = y → J p l e R s m args below meth c D A nL Q cells slots ws lv rest tgt) (kf : ¬ x = y → J p l e R s m args below meth c D A nL Q cells slots ws lv rest q) : J p l e R s m args below meth c D A nL Q cells slots ws lv (.int y :: .int x :: rest) pc := by
  intro H locs ls hP hD hS hl
  subst hq
  exact lv_icmp_eq X.1 X.2.1 hd ht (fun h => kt h H locs ls hP hD hS hl) (fun h => kf h H locs ls hP hD hS hl)
theorem j_if_ne (X : Cx p s m args meth c D ct L ts A cc own nL rt) {x : Int32} {off : Int} {tgt : Nat} (hd : decode cc pc = .ok (.ifCond .ne off, 3)) (ht : (pc : Int) + off = (tgt : Int)) (hq : pc + 3 = q) (kt : ¬ x = 0 → J p l e R s m args below meth c D A nL Q cells slots ws lv rest tgt) (kf : x = 0 → J p l e R s m args below meth c D A nL Q cells slots ws lv rest q) : J p l e R s m args below meth c D A nL Q cells slots ws lv (.int x :: rest) pc := by
  intro H locs ls hP hD hS hl
  subst hq
  exact lv_if_ne X.1 X.2.1 hd ht (fun h => kt h H locs ls hP hD hS hl) (fun h => kf h H locs ls hP hD hS hl)
theorem j_icmp_ne (X : Cx p s m args meth c D ct L ts A cc own nL rt) {x y : Int32} {off : Int} {tgt : Nat} (hd : decode cc pc = .ok (.if_icmp .ne off, 3)) (ht : (pc : Int) + off = (tgt : Int)) (hq : pc + 3 = q) (kt : ¬ x = y → J p l e R s m args below meth c D A nL Q cells slots ws lv rest tgt) (kf : x = y → J p l e R s m args below meth c D A nL Q cells slots ws lv rest q) : J p l e R s m args below meth c D A nL Q cells slots ws lv (.int y :: .int x :: rest) pc := by
  intro H locs ls hP hD hS hl
  subst hq
  exact lv_icmp_ne X.1 X.2.1 hd ht (fun h => kt h H locs ls hP hD hS hl) (fun h => kf h H locs ls hP hD hS hl)
theorem j_if_lt (X : Cx p s m args meth c D ct L ts A cc own nL rt) {x : Int32} {off : Int} {tgt : Nat} (hd : decode cc pc = .ok (.ifCond .lt off, 3)) (ht : (pc : Int) + off = (tgt : Int)) (hq : pc + 3 = q) (kt : x < 0 → J p l e R s m args below meth c D A nL Q cells slots ws lv rest tgt) (kf : ¬ x < 0 → J p l e R s m args below meth c D A nL Q cells slots ws lv rest q) : J p l e R s m args below meth c D A nL Q cells slots ws lv (.int x :: rest) pc := by
  intro H locs ls hP hD hS hl
  subst hq
  exact lv_if_lt X.1 X.2.1 hd ht (fun h => kt h H locs ls hP hD hS hl) (fun h => kf h H locs ls hP hD hS hl)
theorem j_icmp_lt (X : Cx p s m args meth c D ct L ts A cc own nL rt) {x y : Int32} {off : Int} {tgt : Nat} (hd : decode cc pc = .ok (.if_icmp .lt off, 3)) (ht : (pc : Int) + off = (tgt : Int)) (hq : pc + 3 = q) (kt : x < y → J p l e R s m args below meth c D A nL Q cells slots ws lv rest tgt) (kf : ¬ x < y → J p l e R s m args below meth c D A nL Q cells slots ws lv rest q) : J p l e R s m args below meth c D A nL Q cells slots ws lv (.int y :: .int x :: rest) pc := by
  intro H locs ls hP hD hS hl
  subst hq
  exact lv_icmp_lt X.1 X.2.1 hd ht (fun h => kt h H locs ls hP hD hS hl) (fun h => kf h H locs ls hP hD hS hl)
theorem j_if_ge (X : Cx p s m args meth c D ct L ts A cc own nL rt) {x : Int32} {off : Int} {tgt : Nat} (hd : decode cc pc = .ok (.ifCond .ge off, 3)) (ht : (pc : Int) + off = (tgt : Int)) (hq : pc + 3 = q) (kt : 0 ≤ x → J p l e R s m args below meth c D A nL Q cells slots ws lv rest tgt) (kf : ¬ 0 ≤ x → J p l e R s m args below meth c D A nL Q cells slots ws lv rest q) : J p l e R s m args below meth c D A nL Q cells slots ws lv (.int x :: rest) pc := by
  intro H locs ls hP hD hS hl
  subst hq
  exact lv_if_ge X.1 X.2.1 hd ht (fun h => kt h H locs ls hP hD hS hl) (fun h => kf h H locs ls hP hD hS hl)
theorem j_icmp_ge (X : Cx p s m args meth c D ct L ts A cc own nL rt) {x y : Int32} {off : Int} {tgt : Nat} (hd : decode cc pc = .ok (.if_icmp .ge off, 3)) (ht : (pc : Int) + off = (tgt : Int)) (hq : pc + 3 = q) (kt : y ≤ x → J p l e R s m args below meth c D A nL Q cells slots ws lv rest tgt) (kf : ¬ y ≤ x → J p l e R s m args below meth c D A nL Q cells slots ws lv rest q) : J p l e R s m args below meth c D A nL Q cells slots ws lv (.int y :: .int x :: rest) pc := by
  intro H locs ls hP hD hS hl
  subst hq
  exact lv_icmp_ge X.1 X.2.1 hd ht (fun h => kt h H locs ls hP hD hS hl) (fun h => kf h H locs ls hP hD hS hl)
theorem j_if_gt (X : Cx p s m args meth c D ct L ts A cc own nL rt) {x : Int32} {off : Int} {tgt : Nat} (hd : decode cc pc = .ok (.ifCond .gt off, 3)) (ht : (pc : Int) + off = (tgt : Int)) (hq : pc + 3 = q) (kt : 0 < x → J p l e R s m args below meth c D A nL Q cells slots ws lv rest tgt) (kf : ¬ 0 < x → J p l e R s m args below meth c D A nL Q cells slots ws lv rest q) : J p l e R s m args below meth c D A nL Q cells slots ws lv (.int x :: rest) pc := by
  intro H locs ls hP hD hS hl
  subst hq
  exact lv_if_gt X.1 X.2.1 hd ht (fun h => kt h H locs ls hP hD hS hl) (fun h => kf h H locs ls hP hD hS hl)
theorem j_icmp_gt (X : Cx p s m args meth c D ct L ts A cc own nL rt) {x y : Int32} {off : Int} {tgt : Nat} (hd : decode cc pc = .ok (.if_icmp .gt off, 3)) (ht : (pc : Int) + off = (tgt : Int)) (hq : pc + 3 = q) (kt : y < x → J p l e R s m args below meth c D A nL Q cells slots ws lv rest tgt) (kf : ¬ y < x → J p l e R s m args below meth c D A nL Q cells slots ws lv rest q) : J p l e R s m args below meth c D A nL Q cells slots ws lv (.int y :: .int x :: rest) pc := by
  intro H locs ls hP hD hS hl
  subst hq
  exact lv_icmp_gt X.1 X.2.1 hd ht (fun h => kt h H locs ls hP hD hS hl) (fun h => kf h H locs ls hP hD hS hl)
theorem j_if_le (X : Cx p s m args meth c D ct L ts A cc own nL rt) {x : Int32} {off : Int} {tgt : Nat} (hd : decode cc pc = .ok (.ifCond .le off, 3)) (ht : (pc : Int) + off = (tgt : Int)) (hq : pc + 3 = q) (kt : x ≤ 0 → J p l e R s m args below meth c D A nL Q cells slots ws lv rest tgt) (kf : ¬ x ≤ 0 → J p l e R s m args below meth c D A nL Q cells slots ws lv rest q) : J p l e R s m args below meth c D A nL Q cells slots ws lv (.int x :: rest) pc := by
  intro H locs ls hP hD hS hl
  subst hq
  exact lv_if_le X.1 X.2.1 hd ht (fun h => kt h H locs ls hP hD hS hl) (fun h => kf h H locs ls hP hD hS hl)
theorem j_icmp_le (X : Cx p s m args meth c D ct L ts A cc own nL rt) {x y : Int32} {off : Int} {tgt : Nat} (hd : decode cc pc = .ok (.if_icmp .le off, 3)) (ht : (pc : Int) + off = (tgt : Int)) (hq : pc + 3 = q) (kt : x ≤ y → J p l e R s m args below meth c D A nL Q cells slots ws lv rest tgt) (kf : ¬ x ≤ y → J p l e R s m args below meth c D A nL Q cells slots ws lv rest q) : J p l e R s m args below meth c D A nL Q cells slots ws lv (.int y :: .int x :: rest) pc := by
  intro H locs ls hP hD hS hl
  subst hq
  exact lv_icmp_le X.1 X.2.1 hd ht (fun h => kt h H locs ls hP hD hS hl) (fun h => kf h H locs ls hP hD hS hl)
theorem j_goto (X : Cx p s m args meth c D ct L ts A cc own nL rt) {st : List Value} {off : Int} {tgt : Nat} (hd : decode cc pc = .ok (.goto off, 3)) (ht : (pc : Int) + off = (tgt : Int)) (k : J p l e R s m args below meth c D A nL Q cells slots ws lv st tgt) : J p l e R s m args below meth c D A nL Q cells slots ws lv st pc := by
  intro H locs ls hP hD hS hl
  exact lv_goto X.1 X.2.1 hd ht (k H locs ls hP hD hS hl)
theorem j_ifnonnull (X : Cx p s m args meth c D ct L ts A cc own nL rt) {x : Nat} {off : Int} {tgt : Nat} (hd : decode cc pc = .ok (.ifnonnull off, 3)) (ht : (pc : Int) + off = (tgt : Int)) (k : J p l e R s m args below meth c D A nL Q cells slots ws lv rest tgt) : J p l e R s m args below meth c D A nL Q cells slots ws lv (.ref x :: rest) pc := by
  intro H locs ls hP hD hS hl
  exact lv_ifnonnull X.1 X.2.1 hd ht (k H locs ls hP hD hS hl)
theorem j_ifnullN (X : Cx p s m args meth c D ct L ts A cc own nL rt) {x : Nat} {off : Int} {tgt : Nat} (hd : decode cc pc = .ok (.ifnull off, 3)) (ht : (pc : Int) + off = (tgt : Int)) (k : J p l e R s m args below meth c D A nL Q cells slots ws lv rest tgt) : J p l e R s m args below meth c D A nL Q cells slots ws lv (.null :: rest) pc := by
  intro H locs ls hP hD hS hl
  exact lv_ifnullN X.1 X.2.1 hd ht (k H locs ls hP hD hS hl)
theorem j_ifnull (X : Cx p s m args meth c D ct L ts A cc own nL rt) {x : Nat} {off : Int} (hd : decode cc pc = .ok (.ifnull off, 3)) (hq : pc + 3 = q) (k : J p l e R s m args below meth c D A nL Q cells slots ws lv (rest) q) : J p l e R s m args below meth c D A nL Q cells slots ws lv (.ref x :: rest) pc := by
  intro H locs ls hP hD hS hl
  subst hq
  exact lv_ifnull X.1 X.2.1 hd (k H locs ls hP hD hS hl)
theorem j_ifnonnullN (X : Cx p s m args meth c D ct L ts A cc own nL rt) {x : Nat} {off : Int} (hd : decode cc pc = .ok (.ifnonnull off, 3)) (hq : pc + 3 = q) (k : J p l e R s m args below meth c D A nL Q cells slots ws lv (rest) q) : J p l e R s m args below meth c D A nL Q cells slots ws lv (.null :: rest) pc := by
  intro H locs ls hP hD hS hl
  subst hq
  exact lv_ifnonnullN X.1 X.2.1 hd (k H locs ls hP hD hS hl)
theorem j_get (X : Cx p s m args meth c D ct L ts A cc own nL rt) (z : Nat) {a ci index N f : Nat} {C : String} {T : u_T} {fs : List Value} {v : Value} (hin : ∀ w ∈ u_ws C T N, w ∈ tb) (hc : vwCl[ci]? = some (C, T, N)) (hz : ws[z]? = some (a, .inr (ci, fs))) (hf : f < N) (hw : Cond.fieldLink own index (T f).1 (T f).2.1 (T f).2.2.1 ∈ tb) (hv : fs[f]? = some v) (hd : decode cc pc = .ok (.getfield index, 3)) (hq : pc + 3 = q) (k : J p l e R s m args below meth c D A nL Q cells slots ws lv (v :: rest) q) : J p l e R s m args below meth c D A nL Q cells slots ws lv (.ref a :: rest) pc := by
  intro H locs ls hP hD hS hl
  subst hq
  exact va_get (D := D) (ci := ci) (C := C) (T := T) (N := N) X.1 X.2.1 X.wd hin X.ow X.kk hP z hz hc f hf (X.wd _ hw) (fun _ h9 => h9) hv hd (k H locs ls hP hD hS hl)
theorem j_put (X : Cx p s m args meth c D ct L ts A cc own nL rt) (z : Nat) {a ci index N f : Nat} {C : String} {T : u_T} {ty0 : Nat → FieldType} {fs : List Value} {v : Value} {ws2 : va_W} {ty : FieldType} (hin : ∀ w ∈ u_ws C T N, w ∈ tb) (hty : ∀ k, k < N → parseFieldDescriptor (T k).2.2.1 = some (ty0 k)) (hnm : ∀ a, a < N → ∀ b, b < N → a ≠ b → (T a).2.1 ≠ (T b).2.1) (hc : vwCl[ci]? = some (C, T, N)) (hz : ws[z]? = some (a, .inr (ci, fs))) (hf : f < N) (hw : Cond.fieldLink own index (T f).1 (T f).2.1 (T f).2.2.1 ∈ tb) (hfin : (T f).2.2.2 = false) (ht : ty0 f = ty) (hnr : narrow ty v = v) (hfit : fits ty v = true) (hlen : f < fs.length) (hd : decode cc pc = .ok (.putfield index, 3)) (hws : ws.set z (a, .inr (ci, fs.set f v)) = ws2) (hq : pc + 3 = q) (k : J p l e R s m args below meth c D A nL Q cells slots ws2 lv (rest) q) : J p l e R s m args below meth c D A nL Q cells slots ws lv (v :: .ref a :: rest) pc := by
  intro H locs ls hP hD hS hl
  subst hq
  subst hws
  exact va_put (D := D) (ci := ci) (C := C) (T := T) (N := N) X.1 X.2.1 X.wd hin ty0 hty hnm X.ow X.kk hP hD hS z hz hc f hf (X.wd _ hw) (fun _ h9 => h9) hfin (hty f hf) (by rw [ht]; exact hnr) (by rw [ht]; exact hfit) hlen hd (fun H1 locs1 hP1 hD1 hS1 => k H1 locs1 ls hP1 hD1 hS1 hl)
theorem j_putF (X : Cx p s m args meth c D ct L ts A cc own nL rt) (z : Nat) {a ci index N f : Nat} {C : String} {T : u_T} {ty0 : Nat → FieldType} {fs : List Value} {v : Value} {ws2 : va_W} {ty : FieldType} (hin : ∀ w ∈ u_ws C T N, w ∈ tb) (hty : ∀ k, k < N → parseFieldDescriptor (T k).2.2.1 = some (ty0 k)) (hnm : ∀ a, a < N → ∀ b, b < N → a ≠ b → (T a).2.1 ≠ (T b).2.1) (hc : vwCl[ci]? = some (C, T, N)) (hz : ws[z]? = some (a, .inr (ci, fs))) (hf : f < N) (hw : Cond.fieldLink own index (T f).1 (T f).2.1 (T f).2.2.1 ∈ tb) (hfin : (T f).2.2.2 = true) (hi : meth.name = "<init>") (hdecl : (T f).1 = own) (ht : ty0 f = ty) (hnr : narrow ty v = v) (hfit : fits ty v = true) (hlen : f < fs.length) (hd : decode cc pc = .ok (.putfield index, 3)) (hws : ws.set z (a, .inr (ci, fs.set f v)) = ws2) (hq : pc + 3 = q) (k : J p l e R s m args below meth c D A nL Q cells slots ws2 lv (rest) q) : J p l e R s m args below meth c D A nL Q cells slots ws lv (v :: .ref a :: rest) pc := by
  intro H locs ls hP hD hS hl
  subst hq
  subst hws
  exact va_putF (D := D) (ci := ci) (C := C) (T := T) (N := N) X.1 X.2.1 X.wd hin ty0 hty hnm X.ow X.kk hP hD hS z hz hc f hf (X.wd _ hw) (fun _ h9 => h9) hfin hi hdecl (hty f hf) (by rw [ht]; exact hnr) (by rw [ht]; exact hfit) hlen hd (fun H1 locs1 hP1 hD1 hS1 => k H1 locs1 ls hP1 hD1 hS1 hl)
theorem j_gets (X : Cx p s m args meth c D ct L ts A cc own nL rt) (z : Nat) {index : Nat} {C n : String} {N : Nat} {xs : List Int32} (hz : L[z]? = some (C, n, N, xs)) (hw : Cond.fieldLink own index C n "[I" ∈ tb) (hd : decode cc pc = .ok (.getstatic index, 3)) (hq : pc + 3 = q) (k : J p l e R s m args below meth c D A nL Q cells slots ws lv (.ref (ts z) :: rest) q) : J p l e R s m args below meth c D A nL Q cells slots ws lv (rest) pc := by
  intro H locs ls hP hD hS hl
  subst hq
  exact va_gets X.1 X.2.1 (X.sx z _ hz).1 hS X.ow (X.wd _ hw) (fun _ h9 => h9) hd (k H locs ls hP hD hS hl)
theorem j_iald (X : Cx p s m args meth c D ct L ts A cc own nL rt) (z : Nat) {a n : Nat} {f : Nat → Int32} {i : Int32} (hz : ws[z]? = some (a, .inl (ct 0, n, .inl f))) (hin : vp_in i n) (hd : decode cc pc = .ok (.iaload, 1)) (hq : pc + 1 = q) (k : J p l e R s m args below meth c D A nL Q cells slots ws lv (.int (f i.toNatClampNeg) :: rest) q) : J p l e R s m args below meth c D A nL Q cells slots ws lv (.int i :: .ref a :: rest) pc := by
  intro H locs ls hP hD hS hl
  subst hq
  exact va_iald X.1 X.2.1 X.kk hP z 0 hz rfl hin hd (k H locs ls hP hD hS hl)
theorem j_iast (X : Cx p s m args meth c D ct L ts A cc own nL rt) (z : Nat) {a n : Nat} {f : Nat → Int32} {i x : Int32} {ws2 : va_W} (hz : ws[z]? = some (a, .inl (ct 0, n, .inl f))) (hin : vp_in i n) (hd : decode cc pc = .ok (.iastore, 1)) (hws : ws.set z (a, .inl (ct 0, n, .inl (upd f i.toNatClampNeg x))) = ws2) (hq : pc + 1 = q) (k : J p l e R s m args below meth c D A nL Q cells slots ws2 lv (rest) q) : J p l e R s m args below meth c D A nL Q cells slots ws lv (.int x :: .int i :: .ref a :: rest) pc := by
  intro H locs ls hP hD hS hl
  subst hq
  subst hws
  exact va_iast X.1 X.2.1 X.kk hP hD hS z 0 hz rfl hin hd (fun H1 locs1 hP1 hD1 hS1 => k H1 locs1 ls hP1 hD1 hS1 hl)
theorem j_bald (X : Cx p s m args meth c D ct L ts A cc own nL rt) (z : Nat) {a n : Nat} {f : Nat → Int32} {i : Int32} (hz : ws[z]? = some (a, .inl (ct 1, n, .inl f))) (hin : vp_in i n) (hd : decode cc pc = .ok (.baload, 1)) (hq : pc + 1 = q) (k : J p l e R s m args below meth c D A nL Q cells slots ws lv (.int (f i.toNatClampNeg) :: rest) q) : J p l e R s m args below meth c D A nL Q cells slots ws lv (.int i :: .ref a :: rest) pc := by
  intro H locs ls hP hD hS hl
  subst hq
  exact va_bald X.1 X.2.1 X.kk hP z 1 hz rfl hin hd (k H locs ls hP hD hS hl)
theorem j_bast (X : Cx p s m args meth c D ct L ts A cc own nL rt) (z : Nat) {a n : Nat} {f : Nat → Int32} {i x : Int32} {ws2 : va_W} (hz : ws[z]? = some (a, .inl (ct 1, n, .inl f))) (hin : vp_in i n) (hd : decode cc pc = .ok (.bastore, 1)) (hws : ws.set z (a, .inl (ct 1, n, .inl (upd f i.toNatClampNeg (vp_nar .byte x)))) = ws2) (hq : pc + 1 = q) (k : J p l e R s m args below meth c D A nL Q cells slots ws2 lv (rest) q) : J p l e R s m args below meth c D A nL Q cells slots ws lv (.int x :: .int i :: .ref a :: rest) pc := by
  intro H locs ls hP hD hS hl
  subst hq
  subst hws
  exact va_bast X.1 X.2.1 X.kk hP hD hS z 1 hz rfl hin hd (fun H1 locs1 hP1 hD1 hS1 => k H1 locs1 ls hP1 hD1 hS1 hl)
theorem j_zald (X : Cx p s m args meth c D ct L ts A cc own nL rt) (z : Nat) {a n : Nat} {f : Nat → Int32} {i : Int32} (hz : ws[z]? = some (a, .inl (ct 2, n, .inl f))) (hin : vp_in i n) (hd : decode cc pc = .ok (.baload, 1)) (hq : pc + 1 = q) (k : J p l e R s m args below meth c D A nL Q cells slots ws lv (.int (f i.toNatClampNeg) :: rest) q) : J p l e R s m args below meth c D A nL Q cells slots ws lv (.int i :: .ref a :: rest) pc := by
  intro H locs ls hP hD hS hl
  subst hq
  exact va_zald X.1 X.2.1 X.kk hP z 2 hz rfl hin hd (k H locs ls hP hD hS hl)
theorem j_zast (X : Cx p s m args meth c D ct L ts A cc own nL rt) (z : Nat) {a n : Nat} {f : Nat → Int32} {i x : Int32} {ws2 : va_W} (hz : ws[z]? = some (a, .inl (ct 2, n, .inl f))) (hin : vp_in i n) (hd : decode cc pc = .ok (.bastore, 1)) (hws : ws.set z (a, .inl (ct 2, n, .inl (upd f i.toNatClampNeg (vp_nar .boolean x)))) = ws2) (hq : pc + 1 = q) (k : J p l e R s m args below meth c D A nL Q cells slots ws2 lv (rest) q) : J p l e R s m args below meth c D A nL Q cells slots ws lv (.int x :: .int i :: .ref a :: rest) pc := by
  intro H locs ls hP hD hS hl
  subst hq
  subst hws
  exact va_zast X.1 X.2.1 X.kk hP hD hS z 2 hz rfl hin hd (fun H1 locs1 hP1 hD1 hS1 => k H1 locs1 ls hP1 hD1 hS1 hl)
theorem j_lald (X : Cx p s m args meth c D ct L ts A cc own nL rt) (z : Nat) {a n : Nat} {f : Nat → Int64} {i : Int32} (hz : ws[z]? = some (a, .inl (ct 3, n, .inr (.inl f)))) (hin : vp_in i n) (hd : decode cc pc = .ok (.laload, 1)) (hq : pc + 1 = q) (k : J p l e R s m args below meth c D A nL Q cells slots ws lv (.long (f i.toNatClampNeg) :: rest) q) : J p l e R s m args below meth c D A nL Q cells slots ws lv (.int i :: .ref a :: rest) pc := by
  intro H locs ls hP hD hS hl
  subst hq
  exact va_lald X.1 X.2.1 X.kk hP z 3 hz rfl hin hd (k H locs ls hP hD hS hl)
theorem j_last (X : Cx p s m args meth c D ct L ts A cc own nL rt) (z : Nat) {a n : Nat} {f : Nat → Int64} {i : Int32} {x : Int64} {ws2 : va_W} (hz : ws[z]? = some (a, .inl (ct 3, n, .inr (.inl f)))) (hin : vp_in i n) (hd : decode cc pc = .ok (.lastore, 1)) (hws : ws.set z (a, .inl (ct 3, n, .inr (.inl (vp_updL f i.toNatClampNeg x)))) = ws2) (hq : pc + 1 = q) (k : J p l e R s m args below meth c D A nL Q cells slots ws2 lv (rest) q) : J p l e R s m args below meth c D A nL Q cells slots ws lv (.long x :: .int i :: .ref a :: rest) pc := by
  intro H locs ls hP hD hS hl
  subst hq
  subst hws
  exact va_last X.1 X.2.1 X.kk hP hD hS z 3 hz rfl hin hd (fun H1 locs1 hP1 hD1 hS1 => k H1 locs1 ls hP1 hD1 hS1 hl)
theorem j_alen (X : Cx p s m args meth c D ct L ts A cc own nL rt) (z t : Nat) {a : Nat} {cA : ClassId} {ty : FieldType} {x : vp_A} (hz : ws[z]? = some (a, .inl (cA, x))) (ht : (tysG ct)[t]? = some (cA, ty)) (hd : decode cc pc = .ok (.arraylength, 1)) (hq : pc + 1 = q) (k : J p l e R s m args below meth c D A nL Q cells slots ws lv (.int (nI x.1) :: rest) q) : J p l e R s m args below meth c D A nL Q cells slots ws lv (.ref a :: rest) pc := by
  intro H locs ls hP hD hS hl
  subst hq
  exact va_alen X.1 X.2.1 X.kk hP z t hz ht rfl hd (k H locs ls hP hD hS hl)
theorem j_ti (X : Cx p s m args meth c D ct L ts A cc own nL rt) (z : Nat) {C n : String} {N : Nat} {xs : List Int32} {i : Int32} (hz : L[z]? = some (C, n, N, xs)) (hin : vp_in i N) (hd : decode cc pc = .ok (.iaload, 1)) (hq : pc + 1 = q) (k : J p l e R s m args below meth c D A nL Q cells slots ws lv (.int (xs.getD i.toNatClampNeg 0) :: rest) q) : J p l e R s m args below meth c D A nL Q cells slots ws lv (.int i :: .ref (ts z) :: rest) pc := by
  intro H locs ls hP hD hS hl
  subst hq
  exact va_ti X.1 X.2.1 (X.sx z _ hz).2 hS hin rfl hd (k H locs ls hP hD hS hl)
theorem j_tlen (X : Cx p s m args meth c D ct L ts A cc own nL rt) (z : Nat) {C n : String} {N : Nat} {xs : List Int32} (hz : L[z]? = some (C, n, N, xs)) (hd : decode cc pc = .ok (.arraylength, 1)) (hq : pc + 1 = q) (k : J p l e R s m args below meth c D A nL Q cells slots ws lv (.int (nI N) :: rest) q) : J p l e R s m args below meth c D A nL Q cells slots ws lv (.ref (ts z) :: rest) pc := by
  intro H locs ls hP hD hS hl
  subst hq
  exact va_tlen X.1 X.2.1 (X.sx z _ hz).2 hS rfl hd (k H locs ls hP hD hS hl)
theorem j_iret {S : Type} {post : Int32 → S → Prop} {wp : S → va_W} {v : Int32} (X : Cx p s m args meth c D ct L ts A cc own nL (some .int)) (u : S) (hd : decode cc pc = .ok (.ireturn, 1)) (hp : post v u) (hw : ws = wp u) : J p l e R s m args below meth c D A nL (MQ below (va_Qi post (fun u => BG D ct A (wp u)) A) args s cells slots A) cells slots ws lv [.int v] pc := by
  intro H locs ls hP hD hS hl
  subst hw
  exact W.iret X.1 X.2.1 X.ret (fun t ht hW => ⟨⟨v, u, rfl, hp, by rw [ht]; exact hP, va_K.moved hW.alike X.kk, hD⟩, hS.F ht⟩) hS.2.2 hd X.lk
theorem j_lret {S : Type} {post : Int64 → S → Prop} {wp : S → va_W} {v : Int64} (X : Cx p s m args meth c D ct L ts A cc own nL (some .long)) (u : S) (hd : decode cc pc = .ok (.lreturn, 1)) (hp : post v u) (hw : ws = wp u) : J p l e R s m args below meth c D A nL (MQ below (va_Ql post (fun u => BG D ct A (wp u)) A) args s cells slots A) cells slots ws lv [.long v] pc := by
  intro H locs ls hP hD hS hl
  subst hw
  exact W.lret X.1 X.2.1 X.ret (fun t ht hW => ⟨⟨v, u, rfl, hp, by rw [ht]; exact hP, va_K.moved hW.alike X.kk, hD⟩, hS.F ht⟩) hS.2.2 hd X.lk
theorem j_zret {S : Type} {post : Int32 → S → Prop} {wp : S → va_W} {v : Int32} {ty : FieldType} (X : Cx p s m args meth c D ct L ts A cc own nL (some ty)) (u : S) (hn : narrow ty (.int v) = .int v) (hd : decode cc pc = .ok (.ireturn, 1)) (hp : post v u) (hw : ws = wp u) : J p l e R s m args below meth c D A nL (MQ below (va_Qi post (fun u => BG D ct A (wp u)) A) args s cells slots A) cells slots ws lv [.int v] pc := by
  intro H locs ls hP hD hS hl
  subst hw
  exact W.zret X.1 X.2.1 X.ret hn (fun t ht hW => ⟨⟨v, u, rfl, hp, by rw [ht]; exact hP, va_K.moved hW.alike X.kk, hD⟩, hS.F ht⟩) hS.2.2 hd X.lk
theorem j_vret {S : Type} {post : S → Prop} {wp : S → va_W} (X : Cx p s m args meth c D ct L ts A cc own nL none) (u : S) (hd : decode cc pc = .ok (.return_, 1)) (hp : post u) (hw : ws = wp u) : J p l e R s m args below meth c D A nL (MQ below (va_Qv post (fun u => BG D ct A (wp u)) A) args s cells slots A) cells slots ws lv [] pc := by
  intro H locs ls hP hD hS hl
  subst hw
  exact W.vret X.1 X.2.1 X.ret (fun t ht hW => ⟨⟨u, rfl, hp, by rw [ht]; exact hP, va_K.moved hW.alike X.kk, hD⟩, hS.F ht⟩) hS.2.2 hd X.lk
end JROWS
