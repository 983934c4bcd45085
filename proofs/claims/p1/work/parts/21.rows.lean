section JROWS3
variable {p : Program} {l : Launch} {e : Env} {R : Room} {s : State} {m : MethodId} {args : Array Value} {below : List Frame} {meth : Method} {c : Code} {D : va_G} {ct : Nat → ClassId} {L : List SXt} {ts : Nat → Nat} {A : Nat → Prop} {cc : ByteArray} {own : String} {nL : Nat} {rt : Option FieldType} {Q : State → Prop} {cells slots : Nat} {ws : va_W} {lv lv' : List (Nat × Value)} {rest : List Value} {pc q : Nat}
theorem j_mmax (X : Cx p s m args meth c D ct L ts A cc own nL rt) {x y : Int32} {index : Nat} (h1 : Cond.methodLink own index Lib.Math.max.name ∈ tb) (h2 : Cond.static Lib.Math.max.name ∈ tb) (h3 : Cond.initialized "java/lang/Math" ∈ tb) (h4 : Cond.code Lib.Math.max.name Lib.Math.max.code 2 (some .int) ∈ tb) (hfr : 1 ≤ R.frames) (hlo : (rest.map fun v => v.category).sum + 13 ≤ R.locals) (hc : cells ≤ R.cells) (hs : slots ≤ R.slots) (hd : decode cc pc = .ok (.invokestatic index, 3)) (hq : pc + 3 = q) (k : J p l e R s m args below meth c D A nL Q cells slots ws lv (.int (if x < y then y else x) :: rest) q) : J p l e R s m args below meth c D A nL Q cells slots ws lv (.int y :: .int x :: rest) pc := by
  intro H locs ls hP hD hS hl
  subst hq
  exact va_mmax X.ex X.by (X.ml.trans hl.1.symm) X.ow (X.wd _ h1) (X.wd _ h2) (X.wd _ h3) (X.wd _ h4) hfr hlo hc hs hd (k H locs ls hP hD hS hl)
theorem j_mmin (X : Cx p s m args meth c D ct L ts A cc own nL rt) {x y : Int32} {index : Nat} (h1 : Cond.methodLink own index Lib.Math.min.name ∈ tb) (h2 : Cond.static Lib.Math.min.name ∈ tb) (h3 : Cond.initialized "java/lang/Math" ∈ tb) (h4 : Cond.code Lib.Math.min.name Lib.Math.min.code 2 (some .int) ∈ tb) (hfr : 1 ≤ R.frames) (hlo : (rest.map fun v => v.category).sum + 13 ≤ R.locals) (hc : cells ≤ R.cells) (hs : slots ≤ R.slots) (hd : decode cc pc = .ok (.invokestatic index, 3)) (hq : pc + 3 = q) (k : J p l e R s m args below meth c D A nL Q cells slots ws lv (.int (if y < x then y else x) :: rest) q) : J p l e R s m args below meth c D A nL Q cells slots ws lv (.int y :: .int x :: rest) pc := by
  intro H locs ls hP hD hS hl
  subst hq
  exact va_mmin X.ex X.by (X.ml.trans hl.1.symm) X.ow (X.wd _ h1) (X.wd _ h2) (X.wd _ h3) (X.wd _ h4) hfr hlo hc hs hd (k H locs ls hP hD hS hl)
theorem j_new (X : Cx p s m args meth c D ct L ts A cc own nL rt) {C : String} {T : u_T} {N ci index : Nat} {ty : Nat → FieldType} {fs : List Value} (hin : ∀ w ∈ u_ws C T N, w ∈ tb) (hty : ∀ k, k < N → parseFieldDescriptor (T k).2.2.1 = some (ty k)) (hc : vwCl[ci]? = some (C, T, N)) (h1 : Cond.classLink own index C ∈ tb) (h2 : Cond.instantiable C N ∈ tb) (h3 : Cond.initialized C ∈ tb) (hfs : ∀ j, j < N → defaultValue (ty j) = vp_V fs j) (hcells : cells + 1 ≤ R.cells) (hslots : slots + N ≤ R.slots) (hd : decode cc pc = .ok (.new index, 3)) (hq : pc + 3 = q) (k : ∀ a : Nat, J p l e R s m args below meth c D A nL Q (cells + 1) (slots + N) (ws ++ [(a, .inr (ci, fs))]) lv (.ref a :: rest) q) : J p l e R s m args below meth c D A nL Q cells slots ws lv rest pc := by
  intro H locs ls hP hD hS hl
  subst hq
  exact va_new (ci := ci) X.ex X.by X.wd hin ty hty X.ow (X.wd _ h1) (X.wd _ h2) (X.wd _ h3) X.kk hP hD hS X.ha hc hfs hcells hslots hd (fun a H1 hP1 hD1 hS1 => k a H1 locs ls hP1 hD1 hS1 hl)
theorem j_newi (X : Cx p s m args meth c D ct L ts A cc own nL rt) {n : Int32} {N : Nat} {atype : ArrayType} (hat : newarray.typeOf atype = .int) (h1 : Cond.arrayClass .int ∈ tb) (hn : ¬ n < 0) (hN : n.toNatClampNeg = N) (hb : N * componentBytes .int ≤ 536870912) (hcells : cells + 1 ≤ R.cells) (hslots : slots + N ≤ R.slots) (hd : decode cc pc = .ok (.newarray atype, 2)) (hq : pc + 2 = q) (k : ∀ a : Nat, J p l e R s m args below meth c D A nL Q (cells + 1) (slots + N) (ws ++ [(a, .inl (ct 0, N, .inl (fun _ => 0)))]) lv (.ref a :: rest) q) : J p l e R s m args below meth c D A nL Q cells slots ws lv (.int n :: rest) pc := by
  intro H locs ls hP hD hS hl
  subst hq
  refine va_newa (a0 := (N, .inl (fun _ => 0))) X.ex X.by (atype := atype) (by rw [hat]; exact X.wd _ h1) hat X.kk hP hD hS X.ha (fun _ => rfl) hn hN hb hcells hslots hd (fun a cA H1 hK1 hP1 hD1 hS1 => ?_)
  have e1 := (hK1.2 0 (ct 0, .int) rfl).2
  have e2 := (hK1.2 5 (cA, .int) rfl).2
  have e3 : ct 0 = cA := Option.some.inj (e1.symm.trans e2)
  subst e3
  exact k a H1 locs ls hP1 hD1 hS1 hl
theorem j_newb (X : Cx p s m args meth c D ct L ts A cc own nL rt) {n : Int32} {N : Nat} {atype : ArrayType} (hat : newarray.typeOf atype = .byte) (h1 : Cond.arrayClass .byte ∈ tb) (hn : ¬ n < 0) (hN : n.toNatClampNeg = N) (hb : N * componentBytes .byte ≤ 536870912) (hcells : cells + 1 ≤ R.cells) (hslots : slots + N ≤ R.slots) (hd : decode cc pc = .ok (.newarray atype, 2)) (hq : pc + 2 = q) (k : ∀ a : Nat, J p l e R s m args below meth c D A nL Q (cells + 1) (slots + N) (ws ++ [(a, .inl (ct 1, N, .inl (fun _ => 0)))]) lv (.ref a :: rest) q) : J p l e R s m args below meth c D A nL Q cells slots ws lv (.int n :: rest) pc := by
  intro H locs ls hP hD hS hl
  subst hq
  refine va_newa (a0 := (N, .inl (fun _ => 0))) X.ex X.by (atype := atype) (by rw [hat]; exact X.wd _ h1) hat X.kk hP hD hS X.ha (fun _ => rfl) hn hN hb hcells hslots hd (fun a cA H1 hK1 hP1 hD1 hS1 => ?_)
  have e1 := (hK1.2 1 (ct 1, .byte) rfl).2
  have e2 := (hK1.2 5 (cA, .byte) rfl).2
  have e3 : ct 1 = cA := Option.some.inj (e1.symm.trans e2)
  subst e3
  exact k a H1 locs ls hP1 hD1 hS1 hl
theorem j_newz (X : Cx p s m args meth c D ct L ts A cc own nL rt) {n : Int32} {N : Nat} {atype : ArrayType} (hat : newarray.typeOf atype = .boolean) (h1 : Cond.arrayClass .boolean ∈ tb) (hn : ¬ n < 0) (hN : n.toNatClampNeg = N) (hb : N * componentBytes .boolean ≤ 536870912) (hcells : cells + 1 ≤ R.cells) (hslots : slots + N ≤ R.slots) (hd : decode cc pc = .ok (.newarray atype, 2)) (hq : pc + 2 = q) (k : ∀ a : Nat, J p l e R s m args below meth c D A nL Q (cells + 1) (slots + N) (ws ++ [(a, .inl (ct 2, N, .inl (fun _ => 0)))]) lv (.ref a :: rest) q) : J p l e R s m args below meth c D A nL Q cells slots ws lv (.int n :: rest) pc := by
  intro H locs ls hP hD hS hl
  subst hq
  refine va_newa (a0 := (N, .inl (fun _ => 0))) X.ex X.by (atype := atype) (by rw [hat]; exact X.wd _ h1) hat X.kk hP hD hS X.ha (fun _ => rfl) hn hN hb hcells hslots hd (fun a cA H1 hK1 hP1 hD1 hS1 => ?_)
  have e1 := (hK1.2 2 (ct 2, .boolean) rfl).2
  have e2 := (hK1.2 5 (cA, .boolean) rfl).2
  have e3 : ct 2 = cA := Option.some.inj (e1.symm.trans e2)
  subst e3
  exact k a H1 locs ls hP1 hD1 hS1 hl
theorem j_newl (X : Cx p s m args meth c D ct L ts A cc own nL rt) {n : Int32} {N : Nat} {atype : ArrayType} (hat : newarray.typeOf atype = .long) (h1 : Cond.arrayClass .long ∈ tb) (hn : ¬ n < 0) (hN : n.toNatClampNeg = N) (hb : N * componentBytes .long ≤ 536870912) (hcells : cells + 1 ≤ R.cells) (hslots : slots + N ≤ R.slots) (hd : decode cc pc = .ok (.newarray atype, 2)) (hq : pc + 2 = q) (k : ∀ a : Nat, J p l e R s m args below meth c D A nL Q (cells + 1) (slots + N) (ws ++ [(a, .inl (ct 3, N, .inr (.inl (fun _ => 0))))]) lv (.ref a :: rest) q) : J p l e R s m args below meth c D A nL Q cells slots ws lv (.int n :: rest) pc := by
  intro H locs ls hP hD hS hl
  subst hq
  refine va_newa (a0 := (N, .inr (.inl (fun _ => 0)))) X.ex X.by (atype := atype) (by rw [hat]; exact X.wd _ h1) hat X.kk hP hD hS X.ha (fun _ => rfl) hn hN hb hcells hslots hd (fun a cA H1 hK1 hP1 hD1 hS1 => ?_)
  have e1 := (hK1.2 3 (ct 3, .long) rfl).2
  have e2 := (hK1.2 5 (cA, .long) rfl).2
  have e3 : ct 3 = cA := Option.some.inj (e1.symm.trans e2)
  subst e3
  exact k a H1 locs ls hP1 hD1 hS1 hl
end JROWS3
