/-! ===== what throws: its precondition, its contract out of a walk, the rows of throwing, of passing on, of catching ===== -/
abbrev EIX : String := "java/lang/IndexOutOfBoundsException"
abbrev EIA : String := "java/lang/IllegalArgumentException"
abbrev EUP : List String := ["java/lang/RuntimeException", "java/lang/Exception"]
abbrev EDL : List MethodName := [⟨"java/lang/RuntimeException", "<init>", "()V"⟩, ⟨"java/lang/Exception", "<init>", "()V"⟩, ⟨"java/lang/Throwable", "<init>", "()V"⟩]
def TX (A : Nat → Prop) (U : State) (H : Heap) : Prop := vx_Zq Bundle.tN "UNASSIGNED_STACK" Bundle.steD A U H ∧ vx_Zq Bundle.tN "SUPPRESSED_SENTINEL" Bundle.listD A U H ∧ va_Nw (.castable EIX EIX) U ∧ va_Nw (.castable EIA EIA) U ∧ ∀ x ∈ EDL, va_Nw (.declares x) U
theorem TX.warm {A B : Nat → Prop} {s U : State} {H H1 : Heap} (hW : s.WarmedH U.vm) (h : TX A s H) (hq : ∀ a : Nat, a < H.size → ¬ A a → H1[a]? = H[a]?) (hAB : ∀ q, B q → A q) : TX B U H1 :=
  ⟨vx_Zq.moved hW.alike ((h.1.kept hq).narrow hAB), vx_Zq.moved hW.alike ((h.2.1.kept hq).narrow hAB), va_Nw.warmC hW h.2.2.1, va_Nw.warmC hW h.2.2.2.1, fun x hx => va_Nw.warmD hW (h.2.2.2.2 x hx)⟩
def PcX (D : va_G) (ct : Nat → ClassId) (L : List SXt) (ts : Nat → Nat) (av : List Value) (ws : va_W) (sz : Nat) : Array Value → State → Prop := fun v U => PcG D ct L ts av ws sz v U ∧ TX (va_A ws sz) U U.heap
theorem PcX.blind (D : va_G) (ct : Nat → ClassId) (L : List SXt) (ts : Nat → Nat) (av : List Value) (ws : va_W) (sz : Nat) : FrameBlind (PcX D ct L ts av ws sz) := fun a U g mk q =>
  ⟨PcG.blind D ct L ts av ws sz a U g mk q.1, vx_Zq.moved (u := U) (U := U.calling g mk a) (Vm.Alike.refl U.vm) q.2.1, vx_Zq.moved (u := U) (U := U.calling g mk a) (Vm.Alike.refl U.vm) q.2.2.1, va_Nw.same (u := U) (U := U.calling g mk a) rfl rfl q.2.2.2.1, va_Nw.same (u := U) (U := U.calling g mk a) rfl rfl q.2.2.2.2.1, fun x hx => va_Nw.same (u := U) (U := U.calling g mk a) rfl rfl (q.2.2.2.2.2 x hx)⟩
/-- the world of an exception: its class alone -/
abbrev XQ (cls : String) (A : Nat → Prop) : String → State → State → Prop := vx_X (fun _ : Unit => True) (fun E _ _ => E = cls) A
abbrev NQ (A : Nat → Prop) : Array Value → State → Outcome → State → Prop := va_Qv (fun _ : Unit => False) (fun _ _ => True) A
theorem metX {l : Launch} {y : MethodName} {cc : ByteArray} {maxL : Nat} {ret : Option FieldType} {rm : Room} {D : va_G} {ct : Nat → ClassId} {L : List SXt} {ts : Nat → Nat} {av : List Value} {ws : va_W} {sz : Nat} {QcF : (Nat → Prop) → Array Value → State → Outcome → State → Prop} {XcF : (Nat → Prop) → String → State → State → Prop} {mc ms : Nat} (hy : plainName y.cls = true) (hlen : (lg_sl av).length ≤ maxL)
    (body : ∀ (p : Program) (e : Env) (s : State) (m : MethodId) (below : List Frame) (meth : Method) (c : Code) (A : Nat → Prop), Cx p s m av.toArray meth c D ct L ts A cc y.cls maxL ret → TX A s s.heap → (∀ x ∈ c.exceptionTable.toList, False) → J p l e rm s m av.toArray below meth c D A maxL (vx_MQ below (QcF A) (XcF A) av.toArray s mc ms A) 0 0 ws (lv_args 0 av) [] 0) :
    vx_Met l y (Cond.code y cc maxL ret :: tb) rm (PcX D ct L ts av ws sz) (QcF (va_A ws sz)) (XcF (va_A ws sz)) mc ms (va_A ws sz) := by
  refine vx_ofW (cc := cc) (maxL := maxL) (ret := ret) hy rfl ?_
  intro p e s m args below meth c s₁ B hml hex hv
  obtain ⟨⟨rfl, hsz, hP, hK, hD0, hS, hN⟩, hT⟩ := hv
  subst hsz
  have hts := atoms_spec (ws := Cond.code y cc maxL ret :: tb) B.pre
  have hown : s.vm.findClass y.cls = some m.cls := findClass_of_methodNamed B.named
  have hl := lv_entry av (n := maxL) hlen
  rw [lg_entry_eq]
  exact body p e s m below meth c (va_A ws s.heap.size) ⟨B.exec, B.bytes, hml, hown, fun w h => hts w (List.mem_cons_of_mem _ h), hK, fun q h => Or.inr h, B.returns, B.notSynchronized, hS, hN⟩ hT hex s.heap [] _ hP hD0.self va_S.rf hl
theorem metH {l : Launch} {y : MethodName} {cc : ByteArray} {maxL : Nat} {ret : Option FieldType} {hh : List (Nat × Nat × Nat × Nat)} {rm : Room} {D : va_G} {ct : Nat → ClassId} {L : List SXt} {ts : Nat → Nat} {av : List Value} {ws : va_W} {sz : Nat} {QcF : (Nat → Prop) → Array Value → State → Outcome → State → Prop} {mc ms : Nat} (hy : plainName y.cls = true) (hlen : (lg_sl av).length ≤ maxL)
    (body : ∀ (p : Program) (e : Env) (s : State) (m : MethodId) (below : List Frame) (meth : Method) (c : Code) (A : Nat → Prop), Cx p s m av.toArray meth c D ct L ts A cc y.cls maxL ret → TX A s s.heap → c.exceptionTable.toList = tableOf hh → J p l e rm s m av.toArray below meth c D A maxL (MQ below (QcF A) av.toArray s mc ms A) 0 0 ws (lv_args 0 av) [] 0) :
    Met l y (Cond.codeWith y cc maxL ret hh :: tb) rm (PcX D ct L ts av ws sz) (QcF (va_A ws sz)) mc ms (va_A ws sz) := by
  refine va_MetW (cc := cc) (maxL := maxL) (ret := ret) (hh := hh) hy rfl ?_
  intro p e s m args below meth c s₁ B hml hv
  obtain ⟨⟨rfl, hsz, hP, hK, hD0, hS, hN⟩, hT⟩ := hv
  subst hsz
  have hts := atoms_spec (ws := Cond.codeWith y cc maxL ret hh :: tb) B.pre
  have hown : s.vm.findClass y.cls = some m.cls := findClass_of_methodNamed B.named
  have hl := lv_entry av (n := maxL) hlen
  have htab : c.exceptionTable.toList = tableOf hh := vx_table (x := y) B (hts _ List.mem_cons_self)
  rw [lg_entry_eq]
  exact body p e s m below meth c (va_A ws s.heap.size) ⟨B.exec, B.bytes, hml, hown, fun w h => hts w (List.mem_cons_of_mem _ h), hK, fun q h => Or.inr h, B.returns, B.notSynchronized, hS, hN⟩ hT htab s.heap [] _ hP hD0.self va_S.rf hl
/-- what the tables say of a method with a table of its own -/
def CalW (y : MethodName) (bytes : ByteArray) (maxL : Nat) (ret : Option FieldType) (hh : List (Nat × Nat × Nat × Nat)) (n : Nat) : Prop := Cond.initialized y.cls ∈ tb ∧ Cond.codeWith y bytes maxL ret hh ∈ tb ∧ (y.cls ≠ "java/lang/invoke/MethodHandle" ∧ y.cls ≠ "java/lang/invoke/VarHandle" ∧ (parseMethodDescriptor y.desc).map (fun d => d.parameters.length) = some n)
theorem good_wsW {y : MethodName} {bytes : ByteArray} {maxL : Nat} {ret : Option FieldType} {hh : List (Nat × Nat × Nat × Nat)} {n : Nat} (h : CalW y bytes maxL ret hh n) : GoodIn tb (Cond.codeWith y bytes maxL ret hh :: tb) := fun w hw => by
  rcases List.mem_cons.mp hw with rfl | hw
  · exact ⟨h.2.1, good_of_word (tb_good _ h.2.1)⟩
  · exact ⟨hw, good_of_word (tb_good _ hw)⟩
section JX
variable {p : Program} {l : Launch} {e : Env} {R : Room} {s : State} {m : MethodId} {args : Array Value} {below : List Frame} {meth : Method} {c : Code} {D : va_G} {ct : Nat → ClassId} {L : List SXt} {ts : Nat → Nat} {A : Nat → Prop} {cc : ByteArray} {own : String} {nL : Nat} {rt : Option FieldType} {Q : State → Prop} {cells slots : Nat} {ws : va_W} {lv lv' : List (Nat × Value)} {rest : List Value} {pc q : Nat}
variable {y : MethodName} {bytes : ByteArray} {maxL mc ms n index : Nat} {ret : Option FieldType} {rm : Room} {b : Nat} {As : List Value} {wc wr : va_W}
theorem j_preX {av : List Value} (X : Cx p s m args meth c D ct L ts A cc own nL rt) (hT : TX A s s.heap) {H : Heap} {locs : List Loc} (hP : va_P D vwCl ws H) (hD : va_D A ws) (hS : va_S A s.heap H locs) (isC : List Nat) (hC : isC.map (fun i => ws[i]?) = wc.map some) (hnc : va_nd isC = true) : PreS s H (PcX D ct L ts av wc H.size) av :=
  ⟨PcX.blind D ct L ts av wc H.size, fun U hU hW => ⟨(j_pre X hP hD hS isC hC hnc).2 U hU hW, by rw [hU]; exact TX.warm hW hT hS.2.1 (va_free hD hS X.ha isC hC)⟩⟩
theorem j_throw {cls : String} {ik ic : Nat} {Qc : Array Value → State → Outcome → State → Prop} (hl : l.stackTraces = false) (X : Cx p s m args meth c D ct L ts A cc own nL rt) (hT : TX A s s.heap) (hex : ∀ x ∈ c.exceptionTable.toList, False) (hcls : Bundle.fit cls = true) (hk : Cond.classLink own ik cls ∈ tb) (hini : Cond.initialized cls ∈ tb)
    (hat : ∀ w ∈ (vx_at0 own ic cls EUP).filter goodWord, w ∈ tb) (hno : ∀ w ∈ (vx_at0 own ic cls EUP).filter (fun w => !goodWord w), w ∈ Cond.castable cls cls :: EDL.map Cond.declares) (hca : va_Nw (.castable cls cls) s) (hgood : ∀ w ∈ Cond.classLink own ik cls :: Cond.initialized cls :: vx_at0 own ic cls EUP, vx_ot w = true)
    (d0 : decode cc pc = .ok (.new ik, 3)) (d3 : decode cc (pc + 3) = .ok (.dup, 1)) (d4 : decode cc (pc + 4) = .ok (.invokespecial ic, 3)) (d7 : decode cc (pc + 7) = .ok (.athrow, 1)) (hRf : 5 < R.frames) (hRl : 81 ≤ R.locals) (hRc : cells + 1 ≤ R.cells) (hRs : slots + 6 ≤ R.slots) (hc : cells + 1 ≤ mc) (hs : slots + 6 ≤ ms) :
    J p l e R s m args below meth c D A nL (vx_MQ below Qc (XQ cls A) args s mc ms A) cells slots ws lv [] pc := by
  intro H locs ls hP hD hS hlv
  exact vx_throw0 (names := EUP) X.ex X.by hl X.ow hcls (by decide) (X.wd _ hk) (X.wd _ hini) (vx_hat (fun w h => X.wd w (hat w h)) hno (vx_c (va_Nw.use rfl hca) (fun w hw => by obtain ⟨x, hx, rfl⟩ := List.mem_map.mp hw; exact va_Nw.use rfl (hT.2.2.2.2 x hx)))) hgood hT.1 hT.2.1 hS (hlv.1.trans X.ml.symm) d0 d3 d4 d7 (fun x hx => (hex x hx).elim) hRf (by simpa using hRl) hRc hRs X.lk
    (fun t _ h1 h2 => ⟨(), trivial, rfl, ⟨Nat.le_trans hS.1 h1, fun q hq hA => (h2 q (Nat.lt_of_lt_of_le hq hS.1)).trans (hS.2.1 q hq hA)⟩⟩) (fun z hz => hS.2.2 z hz) hc hs
theorem j_outx {cls : String} {Qc : Array Value → State → Outcome → State → Prop} (X : Cx p s m args meth c D ct L ts A cc own nL rt) (hex : ∀ x ∈ c.exceptionTable.toList, False) (hc : cells ≤ mc) (hs : slots ≤ ms) : ∀ (H1 : Heap) (locs1 : List Loc) (ls : Array Slot) (ce : Cell) (q9 : Addr), va_P D vwCl wr H1 → va_D A wr → va_S A s.heap H1 locs1 → lv_has ls nL lv → H1[q9]? = some ce → ce.vm = .none → s.vm.findClass cls = some ce.cls →
    vx_W p l e R s m args below meth c H1 locs1 cells slots (vx_MQ below Qc (XQ cls A) args s mc ms A) (F0 m pc ls rest) q9 := fun H1 locs1 ls ce q9 _ _ hS1 _ g1 g2 g3 =>
  vx_out (fun x hx => (hex x hx).elim) X.lk g1 g2 g3 (fun t ht _ => ⟨(), trivial, rfl, ⟨by rw [ht]; exact hS1.1, fun q hq hA => by rw [ht]; exact hS1.2.1 q hq hA⟩⟩) hS1.2.2 hc hs
theorem j_catchx {cls : String} (X : Cx p s m args meth c D ct L ts A cc own nL rt) (x : ExceptionTableEntry) (ht : c.exceptionTable.toList = [x]) (hx : covers x pc = true) (h0 : x.catchType ≠ 0) (hlink : Cond.classLink own x.catchType cls ∈ tb) (hca : va_Nw (.castable cls cls) s)
    (kk : ∀ q9 : Nat, J p l e R s m args below meth c D A nL Q cells slots wr lv [.ref q9] x.handlerPc) : ∀ (H1 : Heap) (locs1 : List Loc) (ls : Array Slot) (ce : Cell) (q9 : Addr), va_P D vwCl wr H1 → va_D A wr → va_S A s.heap H1 locs1 → lv_has ls nL lv → H1[q9]? = some ce → ce.vm = .none → s.vm.findClass cls = some ce.cls →
    vx_W p l e R s m args below meth c H1 locs1 cells slots Q (F0 m pc ls rest) q9 := fun H1 locs1 ls ce q9 hP1 hD1 hS1 hl1 g1 g2 g3 => cx_catch X.ow x ht hx h0 (X.wd _ hlink) (va_Nw.use rfl hca) g1 g2 g3 (kk q9 H1 locs1 ls hP1 hD1 hS1 hl1)
theorem j_callVx {cls : String} (X : Cx p s m args meth c D ct L ts A cc own nL rt) (hT : TX A s s.heap) (hM : ∀ sz, vx_Met l y (Cond.code y bytes maxL ret :: tb) rm (PcX D ct L ts (.ref b :: As) wc sz) (NQ (va_A wc sz)) (XQ cls (va_A wc sz)) mc ms (va_A wc sz)) (hcal : Cal y bytes maxL ret n) (z : Nat) {ci N : Nat} {T : u_T} {fs : List Value} (hz : ws[z]? = some (b, .inr (ci, fs))) (hci : vwCl[ci]? = some (y.cls, T, N)) (hwl : Cond.methodLink own index y ∈ tb) (hwi : Cond.instanceMethod y ∈ tb) (hws : Cond.selects y.cls y y ∈ tb) (hn : As.length = n)
    (hR1 : rm.frames + 1 ≤ R.frames ∧ 8 + (maxL + 11) + rm.locals ≤ R.locals) (hrc : rm.cells = mc) (hrs : rm.slots = ms) (hW : (rest.map fun v => v.category).sum ≤ 8) (hf : cells + mc ≤ R.cells ∧ slots + ms ≤ R.slots) (isC isR : List Nat) (hC : isC.map (fun i => ws[i]?) = wc.map some) (hnc : va_nd isC = true) (hR : isR.map (fun i => ws[i]?) = wr.map some) (hnr : va_nd isR = true) (hdis : ∀ i ∈ isR, i ∉ isC) (hd : decode cc pc = .ok (.invokevirtual index, 3))
    (kx : ∀ (H1 : Heap) (locs1 : List Loc) (ls : Array Slot) (ce : Cell) (q9 : Addr), va_P D vwCl wr H1 → va_D A wr → va_S A s.heap H1 locs1 → lv_has ls nL lv → H1[q9]? = some ce → ce.vm = .none → s.vm.findClass cls = some ce.cls → vx_W p l e R s m args below meth c H1 locs1 (cells + mc) (slots + ms) Q (F0 m pc ls rest) q9) : J p l e R s m args below meth c D A nL Q cells slots ws lv (As.reverse ++ .ref b :: rest) pc := by
  intro H locs ls hP hD hS hl
  have hpre := j_preX (av := .ref b :: As) X hT hP hD hS isC hC hnc
  have hF := va_free hD hS X.ha isC hC
  have hFix : CallFix p m c cc nL s args tb own := ⟨X.ex, X.by, X.ml, X.ow, X.wd⟩
  have hrun := vx_runV (l := l) (e := e) (below := below) (meth := meth) (locs := locs) (cells := cells) (slots := slots) (As := As) (rest := rest) hFix (hM H.size) ⟨callB_of n X.wd (good_ws hcal) rfl hrc hrs (X.wd _ hcal.1) (X.wd _ hwl) hcal.2.2 hR1, X.wd _ hwi, X.wd _ hws⟩ ⟨hpre.1, va_recv X.kk hP hci hz, hpre.2⟩ (g := F0 m pc ls (As.reverse ++ .ref b :: rest)) rfl hn hl.1 rfl (lv_room hW) hd hf
  refine vx_callv hrun hS (fun q _ h => hF q h) hF (fun q _ h => hF q h) (fun E ce q9 u t H1 locs1 ht hvm hp hB hz1 hk1 hS1 g1 g2 g3 => ?_) (fun u t H1 locs1 ht hvm hp => hp.elim)
  have hE : E = cls := hB
  subst hE
  obtain ⟨hP2, hD2⟩ := va_join (w1 := []) hP hD isC isR hC hR hnr hdis hk1 hF (fun k q h => by simp at h) ⟨fun i j p q h => by simp at h, fun k q h => by simp at h⟩
  rw [List.append_nil] at hP2 hD2
  exact kx H1 locs1 ls ce q9 hP2 hD2 hS1 hl g1 g2 g3
/-- a call that answers null -/
theorem j_callVn {S : Type} {post : S → Prop} {wp wn : S → va_W} (X : Cx p s m args meth c D ct L ts A cc own nL rt) (hM : ∀ sz, Met l y (Cond.code y bytes maxL ret :: tb) rm (PcG D ct L ts (.ref b :: As) wc sz) (va_Qq (fun (r : Option Nat) (u : S) => r = none ∧ post u) (fun u => BG D ct (va_A wc sz) (wp u)) (va_A wc sz)) mc ms (va_A wc sz)) (hcal : Cal y bytes maxL ret n) (z : Nat) {ci N : Nat} {T : u_T} {fs : List Value} (hz : ws[z]? = some (b, .inr (ci, fs))) (hci : vwCl[ci]? = some (y.cls, T, N)) (hwl : Cond.methodLink own index y ∈ tb) (hwi : Cond.instanceMethod y ∈ tb) (hws : Cond.selects y.cls y y ∈ tb) (hn : As.length = n)
    (hR1 : rm.frames + 1 ≤ R.frames ∧ 8 + (maxL + 11) + rm.locals ≤ R.locals) (hrc : rm.cells = mc) (hrs : rm.slots = ms) (hW : (rest.map fun v => v.category).sum ≤ 8) (hf : cells + mc ≤ R.cells ∧ slots + ms ≤ R.slots) (isC isR is : List Nat) (hC : isC.map (fun i => ws[i]?) = wc.map some) (hnc : va_nd isC = true) (hR : isR.map (fun i => ws[i]?) = wr.map some) (hnr : va_nd isR = true) (hdis : ∀ i ∈ isR, i ∉ isC) (hpm : ∀ u, is.map (fun i => (wr ++ wp u)[i]?) = (wn u).map some) (hnp : va_nd is = true) (hd : decode cc pc = .ok (.invokevirtual index, 3)) (hq : pc + 3 = q)
    (k : ∀ u : S, post u → J p l e R s m args below meth c D A nL Q (cells + mc) (slots + ms) (wn u) lv (.null :: rest) q) : J p l e R s m args below meth c D A nL Q cells slots ws lv (As.reverse ++ .ref b :: rest) pc := by
  intro H locs ls hP hD hS hl
  subst hq
  have hpre := j_pre (av := .ref b :: As) X hP hD hS isC hC hnc
  have hF := va_free hD hS X.ha isC hC
  have hFix : CallFix p m c cc nL s args tb own := ⟨X.ex, X.by, X.ml, X.ow, X.wd⟩
  have hrun := va_runV (l := l) (e := e) (below := below) (meth := meth) (locs := locs) (cells := cells) (slots := slots) (As := As) (rest := rest) hFix (hM H.size) ⟨callB_of n X.wd (good_ws hcal) rfl hrc hrs (X.wd _ hcal.1) (X.wd _ hwl) hcal.2.2 hR1, X.wd _ hwi, X.wd _ hws⟩ ⟨hpre.1, va_recv X.kk hP hci hz, hpre.2⟩ (g := F0 m pc ls (As.reverse ++ .ref b :: rest)) rfl hn hl.1 rfl (lv_room hW) hd hf
  refine va_callq hrun hS (fun q _ h => hF q h) hF (fun r u t H1 locs1 ht hvm hw hB hz1 hk1 hS1 => ?_)
  obtain ⟨rfl, hw⟩ := hw
  obtain ⟨hP1, hK1, hD1⟩ := hB
  rw [ht] at hP1
  obtain ⟨hP2, hD2⟩ := va_join hP hD isC isR hC hR hnr hdis hk1 hF hP1 hD1
  exact k u hw H1 locs1 ls (hP2.sub is (by
    have h2 := congrArg (List.filterMap id) (hpm u)
    rw [List.filterMap_map, List.filterMap_map] at h2
    simpa using h2)) (hD2.sub is hnp (hpm u)) hS1 hl
theorem j_aretn {S : Type} {post : S → Prop} {wp : S → va_W} {ty : FieldType} (X : Cx p s m args meth c D ct L ts A cc own nL (some ty)) (u : S) (hty : (∃ n, ty = .object n) ∨ ∃ t, ty = .array t) (hd : decode cc pc = .ok (.areturn, 1)) (hp : post u) (hw : ws = wp u) : J p l e R s m args below meth c D A nL (MQ below (va_Qq (fun (r : Option Nat) (u : S) => r = none ∧ post u) (fun u => BG D ct A (wp u)) A) args s cells slots A) cells slots ws lv [.null] pc := by
  intro H locs ls hP hD hS hl
  subst hw
  exact W.aret X.1 X.2.1 X.ret hty (Or.inl rfl) (fun t ht hW => ⟨⟨none, u, rfl, ⟨rfl, hp⟩, by rw [ht]; exact hP, va_K.moved hW.alike X.kk, hD⟩, hS.F ht⟩) hS.2.2 hd X.lk
/-- a helper of the law, called -/
theorem j_callHi {hh : List (Nat × Nat × Nat × Nat)} {S : Type} {post : Int32 → S → Prop} {wp wn : S → va_W} (X : Cx p s m args meth c D ct L ts A cc own nL rt) (hT : TX A s s.heap) (hM : ∀ sz, Met l y (Cond.codeWith y bytes maxL ret hh :: tb) rm (PcX D ct L ts As wc sz) (va_Qi post (fun u => BG D ct (va_A wc sz) (wp u)) (va_A wc sz)) mc ms (va_A wc sz)) (hcal : CalW y bytes maxL ret hh n) (hwl : Cond.methodLink own index y ∈ tb) (hwi : Cond.static y ∈ tb) (hn : As.length = n)
    (hR1 : rm.frames + 1 ≤ R.frames ∧ 8 + (maxL + 11) + rm.locals ≤ R.locals) (hrc : rm.cells = mc) (hrs : rm.slots = ms) (hW : (rest.map fun v => v.category).sum ≤ 8) (hf : cells + mc ≤ R.cells ∧ slots + ms ≤ R.slots) (isC isR is : List Nat) (hC : isC.map (fun i => ws[i]?) = wc.map some) (hnc : va_nd isC = true) (hR : isR.map (fun i => ws[i]?) = wr.map some) (hnr : va_nd isR = true) (hdis : ∀ i ∈ isR, i ∉ isC) (hpm : ∀ u, is.map (fun i => (wr ++ wp u)[i]?) = (wn u).map some) (hnp : va_nd is = true) (hd : decode cc pc = .ok (.invokestatic index, 3)) (hq : pc + 3 = q)
    (k : ∀ (r : Int32) (u : S), post r u → J p l e R s m args below meth c D A nL Q (cells + mc) (slots + ms) (wn u) lv (.int r :: rest) q) : J p l e R s m args below meth c D A nL Q cells slots ws lv (As.reverse ++ rest) pc := by
  intro H locs ls hP hD hS hl
  subst hq
  have hpre := j_preX (av := As) X hT hP hD hS isC hC hnc
  have hF := va_free hD hS X.ha isC hC
  have hFix : CallFix p m c cc nL s args tb own := ⟨X.ex, X.by, X.ml, X.ow, X.wd⟩
  have hlen : ∀ sig, parseMethodDescriptor y.desc = some sig → n = sig.parameters.length := fun sig h => by
    have h2 := hcal.2.2.2.2
    rw [h] at h2
    exact (Option.some.inj h2).symm
  have hcw : vx_CSW R s args own index y bytes maxL ret hh (Cond.codeWith y bytes maxL ret hh :: tb) rm mc ms n := ⟨⟨hrc, hrs, hR1.1, hR1.2, pay_in X.wd (good_wsW hcal), List.mem_cons_self⟩, X.wd _ hcal.2.1, X.wd _ hcal.1, ⟨hcal.2.2.1, hcal.2.2.2.1⟩, hlen, X.wd _ hwl, X.wd _ hwi⟩
  have hrun := vx_runSW (l := l) (e := e) (below := below) (meth := meth) (locs := locs) (cells := cells) (slots := slots) (As := As) (rest := rest) hFix (hM H.size) hcw hpre (g := F0 m pc ls (As.reverse ++ rest)) rfl hn hl.1 rfl (lv_room hW) hd hf
  refine va_calli hrun hS (fun q _ h => hF q h) hF (fun r u t H1 locs1 ht hvm hw hB hz1 hk1 hS1 => ?_)
  obtain ⟨hP1, hK1, hD1⟩ := hB
  rw [ht] at hP1
  obtain ⟨hP2, hD2⟩ := va_join hP hD isC isR hC hR hnr hdis hk1 hF hP1 hD1
  exact k r u hw H1 locs1 ls (hP2.sub is (by
    have h2 := congrArg (List.filterMap id) (hpm u)
    rw [List.filterMap_map, List.filterMap_map] at h2
    simpa using h2)) (hD2.sub is hnp (hpm u)) hS1 hl
/-- the law's own script -/
theorem j_sld {b L0 : Nat} {xs : Nat → Int32} {i : Int32} {j : Nat} (X : Cx p s m args meth c D ct L ts A cc own nL rt) (hX : va_X b L0 xs s s.heap) (hbl : b < s.heap.size) (hbA : ¬ A b) (hin : vp_in i L0) (hj : i.toNatClampNeg = j) (hd : decode cc pc = .ok (.iaload, 1)) (hq : pc + 1 = q) (k : J p l e R s m args below meth c D A nL Q cells slots ws lv (.int (xs j) :: rest) q) : J p l e R s m args below meth c D A nL Q cells slots ws lv (.int i :: .ref b :: rest) pc := by
  intro H locs ls hP hD hS hl
  subst hq
  subst hj
  exact va_sld X.ex X.by hX hbl hbA hS hin hd (k H locs ls hP hD hS hl)
theorem j_slen {b L0 : Nat} {xs : Nat → Int32} (X : Cx p s m args meth c D ct L ts A cc own nL rt) (hX : va_X b L0 xs s s.heap) (hbl : b < s.heap.size) (hbA : ¬ A b) (hd : decode cc pc = .ok (.arraylength, 1)) (hq : pc + 1 = q) (k : J p l e R s m args below meth c D A nL Q cells slots ws lv (.int (nI L0) :: rest) q) : J p l e R s m args below meth c D A nL Q cells slots ws lv (.ref b :: rest) pc := by
  intro H locs ls hP hD hS hl
  subst hq
  exact va_slen X.ex X.by hX hbl hbA hS hd (k H locs ls hP hD hS hl)
end JX
theorem tx_atI : ∀ w ∈ (vx_at0 "GuardedTree" 115 EIX EUP).filter goodWord, w ∈ tb := fun w h => List.mem_filter.mpr ⟨(by decide +kernel : ∀ w ∈ (vx_at0 "GuardedTree" 115 EIX EUP).filter goodWord, w ∈ lw_tbl) w h, (List.mem_filter.mp h).2⟩
theorem tx_noI : ∀ w ∈ (vx_at0 "GuardedTree" 115 EIX EUP).filter (fun w => !goodWord w), w ∈ Cond.castable EIX EIX :: EDL.map Cond.declares := by decide +kernel
theorem tx_otI : ∀ w ∈ Cond.classLink "GuardedTree" 113 EIX :: Cond.initialized EIX :: vx_at0 "GuardedTree" 115 EIX EUP, vx_ot w = true := by decide +kernel
theorem tx_atA : ∀ w ∈ (vx_at0 "GuardedTree" 67 EIA EUP).filter goodWord, w ∈ tb := fun w h => List.mem_filter.mpr ⟨(by decide +kernel : ∀ w ∈ (vx_at0 "GuardedTree" 67 EIA EUP).filter goodWord, w ∈ lw_tbl) w h, (List.mem_filter.mp h).2⟩
theorem tx_noA : ∀ w ∈ (vx_at0 "GuardedTree" 67 EIA EUP).filter (fun w => !goodWord w), w ∈ Cond.castable EIA EIA :: EDL.map Cond.declares := by decide +kernel
theorem tx_otA : ∀ w ∈ Cond.classLink "GuardedTree" 65 EIA :: Cond.initialized EIA :: vx_at0 "GuardedTree" 67 EIA EUP, vx_ot w = true := by decide +kernel
