/-- a contract out of a walk -/
theorem metJ {l : Launch} {y : MethodName} {cc : ByteArray} {maxL : Nat} {ret : Option FieldType} {rm : Room} {D : va_G} {ct : Nat → ClassId} {L : List SXt} {ts : Nat → Nat} {av : List Value} {ws : va_W} {sz : Nat} {QcF : (Nat → Prop) → Array Value → State → Outcome → State → Prop} {mc ms : Nat} (hy : plainName y.cls = true) (hlen : (lg_sl av).length ≤ maxL)
    (body : ∀ (p : Program) (e : Env) (s : State) (m : MethodId) (below : List Frame) (meth : Method) (c : Code) (A : Nat → Prop), Cx p s m av.toArray meth c D ct L ts A cc y.cls maxL ret → meth.name = y.name → J p l e rm s m av.toArray below meth c D A maxL (MQ below (QcF A) av.toArray s mc ms A) 0 0 ws (lv_args 0 av) [] 0) :
    Met l y (Cond.code y cc maxL ret :: tb) rm (PcG D ct L ts av ws sz) (QcF (va_A ws sz)) mc ms (va_A ws sz) := by
  refine Met.ofW (cc := cc) (maxL := maxL) (ret := ret) hy rfl ?_
  intro p e s m args below meth c s₁ B hml hv
  obtain ⟨rfl, hsz, hP, hK, hD0, hS, hN⟩ := hv
  subst hsz
  have hts := atoms_spec (ws := Cond.code y cc maxL ret :: tb) B.pre
  have hown : s.vm.findClass y.cls = some m.cls := findClass_of_methodNamed B.named
  have hl := lv_entry av (n := maxL) hlen
  rw [lg_entry_eq]
  exact body p e s m below meth c (va_A ws s.heap.size) ⟨B.exec, B.bytes, hml, hown, fun w h => hts w (List.mem_cons_of_mem _ h), hK, fun q h => Or.inr h, B.returns, B.notSynchronized, hS, hN⟩ (name_of_methodNamed B.named B.method).1 s.heap [] _ hP hD0.self va_S.rf hl
/-- what the tables say of a method that is called -/
def Cal (y : MethodName) (bytes : ByteArray) (maxL : Nat) (ret : Option FieldType) (n : Nat) : Prop := Cond.initialized y.cls ∈ tb ∧ Cond.code y bytes maxL ret ∈ tb ∧ (y.cls ≠ "java/lang/invoke/MethodHandle" ∧ y.cls ≠ "java/lang/invoke/VarHandle" ∧ (parseMethodDescriptor y.desc).map (fun d => d.parameters.length) = some n)
theorem good_ws {y : MethodName} {bytes : ByteArray} {maxL : Nat} {ret : Option FieldType} {n : Nat} (h : Cal y bytes maxL ret n) : GoodIn tb (Cond.code y bytes maxL ret :: tb) := fun w hw => by
  rcases List.mem_cons.mp hw with rfl | hw
  · exact ⟨h.2.1, good_of_word (tb_good _ h.2.1)⟩
  · exact ⟨hw, good_of_word (tb_good _ hw)⟩
section JCALLS
variable {p : Program} {l : Launch} {e : Env} {R : Room} {s : State} {m : MethodId} {args : Array Value} {below : List Frame} {meth : Method} {c : Code} {D : va_G} {ct : Nat → ClassId} {L : List SXt} {ts : Nat → Nat} {A : Nat → Prop} {cc : ByteArray} {own : String} {nL : Nat} {rt : Option FieldType} {Q : State → Prop} {cells slots : Nat} {ws : va_W} {lv lv' : List (Nat × Value)} {rest : List Value} {pc q : Nat}
variable {y : MethodName} {bytes : ByteArray} {maxL mc ms n index : Nat} {ret : Option FieldType} {rm : Room} {b : Nat} {As : List Value} {wc wr : va_W}
/-- the callee's start, out of the caller's world -/
theorem j_pre {av : List Value} (X : Cx p s m args meth c D ct L ts A cc own nL rt) {H : Heap} {locs : List Loc} (hP : va_P D vwCl ws H) (hD : va_D A ws) (hS : va_S A s.heap H locs) (isC : List Nat) (hC : isC.map (fun i => ws[i]?) = wc.map some) (hnc : va_nd isC = true) : PreS s H (PcG D ct L ts av wc H.size) av := by
  refine ⟨PcG.blind D ct L ts av wc H.size, fun U hU hW => ⟨rfl, by rw [hU], ?_, va_K.moved hW.alike X.kk, ?_, ?_, X.nx.warm hW⟩⟩
  · rw [hU]
    exact hP.sub isC (by
      have h2 := congrArg (List.filterMap id) hC
      rw [List.filterMap_map, List.filterMap_map] at h2
      simpa using h2)
  · exact (hD.sub isC hnc hC).weaken (fun _ _ _ _ => trivial)
  · rw [hU]
    exact SX.moved hW.alike ((X.sx.kept hS.2.1).narrow (va_free hD hS X.ha isC hC))
theorem j_callVi {S : Type} {post : Int32 → S → Prop} {wp wn : S → va_W} (X : Cx p s m args meth c D ct L ts A cc own nL rt) (hM : ∀ sz, Met l y (Cond.code y bytes maxL ret :: tb) rm (PcG D ct L ts (.ref b :: As) wc sz) (va_Qi post (fun u => BG D ct (va_A wc sz) (wp u)) (va_A wc sz)) mc ms (va_A wc sz)) (hcal : Cal y bytes maxL ret n) (z : Nat) {ci N : Nat} {T : u_T} {fs : List Value} (hz : ws[z]? = some (b, .inr (ci, fs))) (hci : vwCl[ci]? = some (y.cls, T, N)) (hwl : Cond.methodLink own index y ∈ tb) (hwi : Cond.instanceMethod y ∈ tb) (hws : Cond.selects y.cls y y ∈ tb) (hn : As.length = n) (hR1 : rm.frames + 1 ≤ R.frames ∧ 8 + (maxL + 11) + rm.locals ≤ R.locals) (hrc : rm.cells = mc) (hrs : rm.slots = ms) (hW : (rest.map fun v => v.category).sum ≤ 8) (hf : cells + mc ≤ R.cells ∧ slots + ms ≤ R.slots) (isC isR is : List Nat) (hC : isC.map (fun i => ws[i]?) = wc.map some) (hnc : va_nd isC = true) (hR : isR.map (fun i => ws[i]?) = wr.map some) (hnr : va_nd isR = true) (hdis : ∀ i ∈ isR, i ∉ isC) (hpm : ∀ u, is.map (fun i => (wr ++ wp u)[i]?) = (wn u).map some) (hnp : va_nd is = true) (hd : decode cc pc = .ok (.invokevirtual index, 3)) (hq : pc + 3 = q) (k : ∀ (r : Int32) (u : S), post r u → J p l e R s m args below meth c D A nL Q (cells + mc) (slots + ms) (wn (u)) lv (.int r :: rest) q) : J p l e R s m args below meth c D A nL Q cells slots ws lv (As.reverse ++ .ref b :: rest) pc := by
  intro H locs ls hP hD hS hl
  subst hq
  have hpre := j_pre (av := .ref b :: As) X hP hD hS isC hC hnc
  have hF := va_free hD hS X.ha isC hC
  have hFix : CallFix p m c cc nL s args tb own := ⟨X.ex, X.by, X.ml, X.ow, X.wd⟩
  have hrun := va_runV (l := l) (e := e) (below := below) (meth := meth) (locs := locs) (cells := cells) (slots := slots) (As := As) (rest := rest) hFix (hM H.size) ⟨callB_of n X.wd (good_ws hcal) rfl hrc hrs (X.wd _ hcal.1) (X.wd _ hwl) hcal.2.2 hR1, X.wd _ hwi, X.wd _ hws⟩ ⟨hpre.1, va_recv X.kk hP hci hz, hpre.2⟩ (g := F0 m pc ls (As.reverse ++ .ref b :: rest)) rfl hn hl.1 rfl (lv_room hW) hd hf
  refine va_calli hrun hS (fun q _ h => hF q h) hF (fun r u t H1 locs1 ht hvm hw hB hz1 hk1 hS1 => ?_)
  obtain ⟨hP1, hK1, hD1⟩ := hB
  rw [ht] at hP1
  obtain ⟨hP2, hD2⟩ := va_join hP hD isC isR hC hR hnr hdis hk1 hF hP1 hD1
  exact k r u hw H1 locs1 ls (hP2.sub is (by
    have h2 := congrArg (List.filterMap id) (hpm u)
    rw [List.filterMap_map, List.filterMap_map] at h2
    simpa using h2)) (hD2.sub is hnp (hpm u)) hS1 hl
theorem j_callSi {S : Type} {post : Int32 → S → Prop} {wp wn : S → va_W} (X : Cx p s m args meth c D ct L ts A cc own nL rt) (hM : ∀ sz, Met l y (Cond.code y bytes maxL ret :: tb) rm (PcG D ct L ts (As) wc sz) (va_Qi post (fun u => BG D ct (va_A wc sz) (wp u)) (va_A wc sz)) mc ms (va_A wc sz)) (hcal : Cal y bytes maxL ret n) (hwl : Cond.methodLink own index y ∈ tb) (hwi : Cond.static y ∈ tb) (hn : As.length = n) (hR1 : rm.frames + 1 ≤ R.frames ∧ 8 + (maxL + 11) + rm.locals ≤ R.locals) (hrc : rm.cells = mc) (hrs : rm.slots = ms) (hW : (rest.map fun v => v.category).sum ≤ 8) (hf : cells + mc ≤ R.cells ∧ slots + ms ≤ R.slots) (isC isR is : List Nat) (hC : isC.map (fun i => ws[i]?) = wc.map some) (hnc : va_nd isC = true) (hR : isR.map (fun i => ws[i]?) = wr.map some) (hnr : va_nd isR = true) (hdis : ∀ i ∈ isR, i ∉ isC) (hpm : ∀ u, is.map (fun i => (wr ++ wp u)[i]?) = (wn u).map some) (hnp : va_nd is = true) (hd : decode cc pc = .ok (.invokestatic index, 3)) (hq : pc + 3 = q) (k : ∀ (r : Int32) (u : S), post r u → J p l e R s m args below meth c D A nL Q (cells + mc) (slots + ms) (wn (u)) lv (.int r :: rest) q) : J p l e R s m args below meth c D A nL Q cells slots ws lv (As.reverse ++ rest) pc := by
  intro H locs ls hP hD hS hl
  subst hq
  have hpre := j_pre (av := As) X hP hD hS isC hC hnc
  have hF := va_free hD hS X.ha isC hC
  have hFix : CallFix p m c cc nL s args tb own := ⟨X.ex, X.by, X.ml, X.ow, X.wd⟩
  have hrun := va_runS (l := l) (e := e) (below := below) (meth := meth) (locs := locs) (cells := cells) (slots := slots) (As := As) (rest := rest) hFix (hM H.size) ⟨callB_of n X.wd (good_ws hcal) rfl hrc hrs (X.wd _ hcal.1) (X.wd _ hwl) hcal.2.2 hR1, X.wd _ hwi⟩ hpre (g := F0 m pc ls (As.reverse ++ rest)) rfl hn hl.1 rfl (lv_room hW) hd hf
  refine va_calli hrun hS (fun q _ h => hF q h) hF (fun r u t H1 locs1 ht hvm hw hB hz1 hk1 hS1 => ?_)
  obtain ⟨hP1, hK1, hD1⟩ := hB
  rw [ht] at hP1
  obtain ⟨hP2, hD2⟩ := va_join hP hD isC isR hC hR hnr hdis hk1 hF hP1 hD1
  exact k r u hw H1 locs1 ls (hP2.sub is (by
    have h2 := congrArg (List.filterMap id) (hpm u)
    rw [List.filterMap_map, List.filterMap_map] at h2
    simpa using h2)) (hD2.sub is hnp (hpm u)) hS1 hl
theorem j_callSNi {S : Type} {post : Int32 → S → Prop} {wp wn : S → va_W} (X : Cx p s m args meth c D ct L ts A cc own nL rt) (hM : ∀ sz, Met l y (Cond.code y bytes maxL ret :: tb) rm (PcG D ct L ts (As) wc sz) (va_Qi post (fun u => BG D ct (va_A wc sz) (wp u)) (va_A wc sz)) mc ms (va_A wc sz)) (hcal : Cal y bytes maxL ret n) {host : String} (hwl : Cond.methodLinkNest own index y host ∈ lw_tbl) (hwi : Cond.static y ∈ tb) (hn : As.length = n) (hR1 : rm.frames + 1 ≤ R.frames ∧ 8 + (maxL + 11) + rm.locals ≤ R.locals) (hrc : rm.cells = mc) (hrs : rm.slots = ms) (hW : (rest.map fun v => v.category).sum ≤ 8) (hf : cells + mc ≤ R.cells ∧ slots + ms ≤ R.slots) (isC isR is : List Nat) (hC : isC.map (fun i => ws[i]?) = wc.map some) (hnc : va_nd isC = true) (hR : isR.map (fun i => ws[i]?) = wr.map some) (hnr : va_nd isR = true) (hdis : ∀ i ∈ isR, i ∉ isC) (hpm : ∀ u, is.map (fun i => (wr ++ wp u)[i]?) = (wn u).map some) (hnp : va_nd is = true) (hd : decode cc pc = .ok (.invokestatic index, 3)) (hq : pc + 3 = q) (k : ∀ (r : Int32) (u : S), post r u → J p l e R s m args below meth c D A nL Q (cells + mc) (slots + ms) (wn (u)) lv (.int r :: rest) q) : J p l e R s m args below meth c D A nL Q cells slots ws lv (As.reverse ++ rest) pc := by
  intro H locs ls hP hD hS hl
  subst hq
  have hpre := j_pre (av := As) X hP hD hS isC hC hnc
  have hF := va_free hD hS X.ha isC hC
  have hFix : CallFix p m c cc nL s args tb own := ⟨X.ex, X.by, X.ml, X.ow, X.wd⟩
  have hrun := va_runSN (l := l) (e := e) (below := below) (meth := meth) (locs := locs) (cells := cells) (slots := slots) (As := As) (rest := rest) hFix (hM H.size) ⟨va_cnB n X.wd (good_ws hcal) rfl hrc hrs (X.nx.1 _ _ _ _ hwl) (X.wd _ hcal.1) hcal.2.2 hR1, X.wd _ hwi, trivial⟩ hpre (g := F0 m pc ls (As.reverse ++ rest)) rfl hn hl.1 rfl (lv_room hW) hd hf
  refine va_calli hrun hS (fun q _ h => hF q h) hF (fun r u t H1 locs1 ht hvm hw hB hz1 hk1 hS1 => ?_)
  obtain ⟨hP1, hK1, hD1⟩ := hB
  rw [ht] at hP1
  obtain ⟨hP2, hD2⟩ := va_join hP hD isC isR hC hR hnr hdis hk1 hF hP1 hD1
  exact k r u hw H1 locs1 ls (hP2.sub is (by
    have h2 := congrArg (List.filterMap id) (hpm u)
    rw [List.filterMap_map, List.filterMap_map] at h2
    simpa using h2)) (hD2.sub is hnp (hpm u)) hS1 hl
theorem j_callVl {S : Type} {post : Int64 → S → Prop} {wp wn : S → va_W} (X : Cx p s m args meth c D ct L ts A cc own nL rt) (hM : ∀ sz, Met l y (Cond.code y bytes maxL ret :: tb) rm (PcG D ct L ts (.ref b :: As) wc sz) (va_Ql post (fun u => BG D ct (va_A wc sz) (wp u)) (va_A wc sz)) mc ms (va_A wc sz)) (hcal : Cal y bytes maxL ret n) (z : Nat) {ci N : Nat} {T : u_T} {fs : List Value} (hz : ws[z]? = some (b, .inr (ci, fs))) (hci : vwCl[ci]? = some (y.cls, T, N)) (hwl : Cond.methodLink own index y ∈ tb) (hwi : Cond.instanceMethod y ∈ tb) (hws : Cond.selects y.cls y y ∈ tb) (hn : As.length = n) (hR1 : rm.frames + 1 ≤ R.frames ∧ 8 + (maxL + 11) + rm.locals ≤ R.locals) (hrc : rm.cells = mc) (hrs : rm.slots = ms) (hW : (rest.map fun v => v.category).sum ≤ 8) (hf : cells + mc ≤ R.cells ∧ slots + ms ≤ R.slots) (isC isR is : List Nat) (hC : isC.map (fun i => ws[i]?) = wc.map some) (hnc : va_nd isC = true) (hR : isR.map (fun i => ws[i]?) = wr.map some) (hnr : va_nd isR = true) (hdis : ∀ i ∈ isR, i ∉ isC) (hpm : ∀ u, is.map (fun i => (wr ++ wp u)[i]?) = (wn u).map some) (hnp : va_nd is = true) (hd : decode cc pc = .ok (.invokevirtual index, 3)) (hq : pc + 3 = q) (k : ∀ (r : Int64) (u : S), post r u → J p l e R s m args below meth c D A nL Q (cells + mc) (slots + ms) (wn (u)) lv (.long r :: rest) q) : J p l e R s m args below meth c D A nL Q cells slots ws lv (As.reverse ++ .ref b :: rest) pc := by
  intro H locs ls hP hD hS hl
  subst hq
  have hpre := j_pre (av := .ref b :: As) X hP hD hS isC hC hnc
  have hF := va_free hD hS X.ha isC hC
  have hFix : CallFix p m c cc nL s args tb own := ⟨X.ex, X.by, X.ml, X.ow, X.wd⟩
  have hrun := va_runV (l := l) (e := e) (below := below) (meth := meth) (locs := locs) (cells := cells) (slots := slots) (As := As) (rest := rest) hFix (hM H.size) ⟨callB_of n X.wd (good_ws hcal) rfl hrc hrs (X.wd _ hcal.1) (X.wd _ hwl) hcal.2.2 hR1, X.wd _ hwi, X.wd _ hws⟩ ⟨hpre.1, va_recv X.kk hP hci hz, hpre.2⟩ (g := F0 m pc ls (As.reverse ++ .ref b :: rest)) rfl hn hl.1 rfl (lv_room hW) hd hf
  refine va_calll hrun hS (fun q _ h => hF q h) hF (fun r u t H1 locs1 ht hvm hw hB hz1 hk1 hS1 => ?_)
  obtain ⟨hP1, hK1, hD1⟩ := hB
  rw [ht] at hP1
  obtain ⟨hP2, hD2⟩ := va_join hP hD isC isR hC hR hnr hdis hk1 hF hP1 hD1
  exact k r u hw H1 locs1 ls (hP2.sub is (by
    have h2 := congrArg (List.filterMap id) (hpm u)
    rw [List.filterMap_map, List.filterMap_map] at h2
    simpa using h2)) (hD2.sub is hnp (hpm u)) hS1 hl
theorem j_callSl {S : Type} {post : Int64 → S → Prop} {wp wn : S → va_W} (X : Cx p s m args meth c D ct L ts A cc own nL rt) (hM : ∀ sz, Met l y (Cond.code y bytes maxL ret :: tb) rm (PcG D ct L ts (As) wc sz) (va_Ql post (fun u => BG D ct (va_A wc sz) (wp u)) (va_A wc sz)) mc ms (va_A wc sz)) (hcal : Cal y bytes maxL ret n) (hwl : Cond.methodLink own index y ∈ tb) (hwi : Cond.static y ∈ tb) (hn : As.length = n) (hR1 : rm.frames + 1 ≤ R.frames ∧ 8 + (maxL + 11) + rm.locals ≤ R.locals) (hrc : rm.cells = mc) (hrs : rm.slots = ms) (hW : (rest.map fun v => v.category).sum ≤ 8) (hf : cells + mc ≤ R.cells ∧ slots + ms ≤ R.slots) (isC isR is : List Nat) (hC : isC.map (fun i => ws[i]?) = wc.map some) (hnc : va_nd isC = true) (hR : isR.map (fun i => ws[i]?) = wr.map some) (hnr : va_nd isR = true) (hdis : ∀ i ∈ isR, i ∉ isC) (hpm : ∀ u, is.map (fun i => (wr ++ wp u)[i]?) = (wn u).map some) (hnp : va_nd is = true) (hd : decode cc pc = .ok (.invokestatic index, 3)) (hq : pc + 3 = q) (k : ∀ (r : Int64) (u : S), post r u → J p l e R s m args below meth c D A nL Q (cells + mc) (slots + ms) (wn (u)) lv (.long r :: rest) q) : J p l e R s m args below meth c D A nL Q cells slots ws lv (As.reverse ++ rest) pc := by
  intro H locs ls hP hD hS hl
  subst hq
  have hpre := j_pre (av := As) X hP hD hS isC hC hnc
  have hF := va_free hD hS X.ha isC hC
  have hFix : CallFix p m c cc nL s args tb own := ⟨X.ex, X.by, X.ml, X.ow, X.wd⟩
  have hrun := va_runS (l := l) (e := e) (below := below) (meth := meth) (locs := locs) (cells := cells) (slots := slots) (As := As) (rest := rest) hFix (hM H.size) ⟨callB_of n X.wd (good_ws hcal) rfl hrc hrs (X.wd _ hcal.1) (X.wd _ hwl) hcal.2.2 hR1, X.wd _ hwi⟩ hpre (g := F0 m pc ls (As.reverse ++ rest)) rfl hn hl.1 rfl (lv_room hW) hd hf
  refine va_calll hrun hS (fun q _ h => hF q h) hF (fun r u t H1 locs1 ht hvm hw hB hz1 hk1 hS1 => ?_)
  obtain ⟨hP1, hK1, hD1⟩ := hB
  rw [ht] at hP1
  obtain ⟨hP2, hD2⟩ := va_join hP hD isC isR hC hR hnr hdis hk1 hF hP1 hD1
  exact k r u hw H1 locs1 ls (hP2.sub is (by
    have h2 := congrArg (List.filterMap id) (hpm u)
    rw [List.filterMap_map, List.filterMap_map] at h2
    simpa using h2)) (hD2.sub is hnp (hpm u)) hS1 hl
theorem j_callSNl {S : Type} {post : Int64 → S → Prop} {wp wn : S → va_W} (X : Cx p s m args meth c D ct L ts A cc own nL rt) (hM : ∀ sz, Met l y (Cond.code y bytes maxL ret :: tb) rm (PcG D ct L ts (As) wc sz) (va_Ql post (fun u => BG D ct (va_A wc sz) (wp u)) (va_A wc sz)) mc ms (va_A wc sz)) (hcal : Cal y bytes maxL ret n) {host : String} (hwl : Cond.methodLinkNest own index y host ∈ lw_tbl) (hwi : Cond.static y ∈ tb) (hn : As.length = n) (hR1 : rm.frames + 1 ≤ R.frames ∧ 8 + (maxL + 11) + rm.locals ≤ R.locals) (hrc : rm.cells = mc) (hrs : rm.slots = ms) (hW : (rest.map fun v => v.category).sum ≤ 8) (hf : cells + mc ≤ R.cells ∧ slots + ms ≤ R.slots) (isC isR is : List Nat) (hC : isC.map (fun i => ws[i]?) = wc.map some) (hnc : va_nd isC = true) (hR : isR.map (fun i => ws[i]?) = wr.map some) (hnr : va_nd isR = true) (hdis : ∀ i ∈ isR, i ∉ isC) (hpm : ∀ u, is.map (fun i => (wr ++ wp u)[i]?) = (wn u).map some) (hnp : va_nd is = true) (hd : decode cc pc = .ok (.invokestatic index, 3)) (hq : pc + 3 = q) (k : ∀ (r : Int64) (u : S), post r u → J p l e R s m args below meth c D A nL Q (cells + mc) (slots + ms) (wn (u)) lv (.long r :: rest) q) : J p l e R s m args below meth c D A nL Q cells slots ws lv (As.reverse ++ rest) pc := by
  intro H locs ls hP hD hS hl
  subst hq
  have hpre := j_pre (av := As) X hP hD hS isC hC hnc
  have hF := va_free hD hS X.ha isC hC
  have hFix : CallFix p m c cc nL s args tb own := ⟨X.ex, X.by, X.ml, X.ow, X.wd⟩
  have hrun := va_runSN (l := l) (e := e) (below := below) (meth := meth) (locs := locs) (cells := cells) (slots := slots) (As := As) (rest := rest) hFix (hM H.size) ⟨va_cnB n X.wd (good_ws hcal) rfl hrc hrs (X.nx.1 _ _ _ _ hwl) (X.wd _ hcal.1) hcal.2.2 hR1, X.wd _ hwi, trivial⟩ hpre (g := F0 m pc ls (As.reverse ++ rest)) rfl hn hl.1 rfl (lv_room hW) hd hf
  refine va_calll hrun hS (fun q _ h => hF q h) hF (fun r u t H1 locs1 ht hvm hw hB hz1 hk1 hS1 => ?_)
  obtain ⟨hP1, hK1, hD1⟩ := hB
  rw [ht] at hP1
  obtain ⟨hP2, hD2⟩ := va_join hP hD isC isR hC hR hnr hdis hk1 hF hP1 hD1
  exact k r u hw H1 locs1 ls (hP2.sub is (by
    have h2 := congrArg (List.filterMap id) (hpm u)
    rw [List.filterMap_map, List.filterMap_map] at h2
    simpa using h2)) (hD2.sub is hnp (hpm u)) hS1 hl
theorem j_callVv {S : Type} {post : S → Prop} {wp wn : S → va_W} (X : Cx p s m args meth c D ct L ts A cc own nL rt) (hM : ∀ sz, Met l y (Cond.code y bytes maxL ret :: tb) rm (PcG D ct L ts (.ref b :: As) wc sz) (va_Qv post (fun u => BG D ct (va_A wc sz) (wp u)) (va_A wc sz)) mc ms (va_A wc sz)) (hcal : Cal y bytes maxL ret n) (z : Nat) {ci N : Nat} {T : u_T} {fs : List Value} (hz : ws[z]? = some (b, .inr (ci, fs))) (hci : vwCl[ci]? = some (y.cls, T, N)) (hwl : Cond.methodLink own index y ∈ tb) (hwi : Cond.instanceMethod y ∈ tb) (hws : Cond.selects y.cls y y ∈ tb) (hn : As.length = n) (hR1 : rm.frames + 1 ≤ R.frames ∧ 8 + (maxL + 11) + rm.locals ≤ R.locals) (hrc : rm.cells = mc) (hrs : rm.slots = ms) (hW : (rest.map fun v => v.category).sum ≤ 8) (hf : cells + mc ≤ R.cells ∧ slots + ms ≤ R.slots) (isC isR is : List Nat) (hC : isC.map (fun i => ws[i]?) = wc.map some) (hnc : va_nd isC = true) (hR : isR.map (fun i => ws[i]?) = wr.map some) (hnr : va_nd isR = true) (hdis : ∀ i ∈ isR, i ∉ isC) (hpm : ∀ u, is.map (fun i => (wr ++ wp u)[i]?) = (wn u).map some) (hnp : va_nd is = true) (hd : decode cc pc = .ok (.invokevirtual index, 3)) (hq : pc + 3 = q) (k : ∀ u : S, post u → J p l e R s m args below meth c D A nL Q (cells + mc) (slots + ms) (wn (u)) lv (rest) q) : J p l e R s m args below meth c D A nL Q cells slots ws lv (As.reverse ++ .ref b :: rest) pc := by
  intro H locs ls hP hD hS hl
  subst hq
  have hpre := j_pre (av := .ref b :: As) X hP hD hS isC hC hnc
  have hF := va_free hD hS X.ha isC hC
  have hFix : CallFix p m c cc nL s args tb own := ⟨X.ex, X.by, X.ml, X.ow, X.wd⟩
  have hrun := va_runV (l := l) (e := e) (below := below) (meth := meth) (locs := locs) (cells := cells) (slots := slots) (As := As) (rest := rest) hFix (hM H.size) ⟨callB_of n X.wd (good_ws hcal) rfl hrc hrs (X.wd _ hcal.1) (X.wd _ hwl) hcal.2.2 hR1, X.wd _ hwi, X.wd _ hws⟩ ⟨hpre.1, va_recv X.kk hP hci hz, hpre.2⟩ (g := F0 m pc ls (As.reverse ++ .ref b :: rest)) rfl hn hl.1 rfl (lv_room hW) hd hf
  refine va_callv hrun hS (fun q _ h => hF q h) hF (fun u t H1 locs1 ht hvm hw hB hz1 hk1 hS1 => ?_)
  obtain ⟨hP1, hK1, hD1⟩ := hB
  rw [ht] at hP1
  obtain ⟨hP2, hD2⟩ := va_join hP hD isC isR hC hR hnr hdis hk1 hF hP1 hD1
  exact k u hw H1 locs1 ls (hP2.sub is (by
    have h2 := congrArg (List.filterMap id) (hpm u)
    rw [List.filterMap_map, List.filterMap_map] at h2
    simpa using h2)) (hD2.sub is hnp (hpm u)) hS1 hl
theorem j_callSv {S : Type} {post : S → Prop} {wp wn : S → va_W} (X : Cx p s m args meth c D ct L ts A cc own nL rt) (hM : ∀ sz, Met l y (Cond.code y bytes maxL ret :: tb) rm (PcG D ct L ts (As) wc sz) (va_Qv post (fun u => BG D ct (va_A wc sz) (wp u)) (va_A wc sz)) mc ms (va_A wc sz)) (hcal : Cal y bytes maxL ret n) (hwl : Cond.methodLink own index y ∈ tb) (hwi : Cond.static y ∈ tb) (hn : As.length = n) (hR1 : rm.frames + 1 ≤ R.frames ∧ 8 + (maxL + 11) + rm.locals ≤ R.locals) (hrc : rm.cells = mc) (hrs : rm.slots = ms) (hW : (rest.map fun v => v.category).sum ≤ 8) (hf : cells + mc ≤ R.cells ∧ slots + ms ≤ R.slots) (isC isR is : List Nat) (hC : isC.map (fun i => ws[i]?) = wc.map some) (hnc : va_nd isC = true) (hR : isR.map (fun i => ws[i]?) = wr.map some) (hnr : va_nd isR = true) (hdis : ∀ i ∈ isR, i ∉ isC) (hpm : ∀ u, is.map (fun i => (wr ++ wp u)[i]?) = (wn u).map some) (hnp : va_nd is = true) (hd : decode cc pc = .ok (.invokestatic index, 3)) (hq : pc + 3 = q) (k : ∀ u : S, post u → J p l e R s m args below meth c D A nL Q (cells + mc) (slots + ms) (wn (u)) lv (rest) q) : J p l e R s m args below meth c D A nL Q cells slots ws lv (As.reverse ++ rest) pc := by
  intro H locs ls hP hD hS hl
  subst hq
  have hpre := j_pre (av := As) X hP hD hS isC hC hnc
  have hF := va_free hD hS X.ha isC hC
  have hFix : CallFix p m c cc nL s args tb own := ⟨X.ex, X.by, X.ml, X.ow, X.wd⟩
  have hrun := va_runS (l := l) (e := e) (below := below) (meth := meth) (locs := locs) (cells := cells) (slots := slots) (As := As) (rest := rest) hFix (hM H.size) ⟨callB_of n X.wd (good_ws hcal) rfl hrc hrs (X.wd _ hcal.1) (X.wd _ hwl) hcal.2.2 hR1, X.wd _ hwi⟩ hpre (g := F0 m pc ls (As.reverse ++ rest)) rfl hn hl.1 rfl (lv_room hW) hd hf
  refine va_callv hrun hS (fun q _ h => hF q h) hF (fun u t H1 locs1 ht hvm hw hB hz1 hk1 hS1 => ?_)
  obtain ⟨hP1, hK1, hD1⟩ := hB
  rw [ht] at hP1
  obtain ⟨hP2, hD2⟩ := va_join hP hD isC isR hC hR hnr hdis hk1 hF hP1 hD1
  exact k u hw H1 locs1 ls (hP2.sub is (by
    have h2 := congrArg (List.filterMap id) (hpm u)
    rw [List.filterMap_map, List.filterMap_map] at h2
    simpa using h2)) (hD2.sub is hnp (hpm u)) hS1 hl
theorem j_callSNv {S : Type} {post : S → Prop} {wp wn : S → va_W} (X : Cx p s m args meth c D ct L ts A cc own nL rt) (hM : ∀ sz, Met l y (Cond.code y bytes maxL ret :: tb) rm (PcG D ct L ts (As) wc sz) (va_Qv post (fun u => BG D ct (va_A wc sz) (wp u)) (va_A wc sz)) mc ms (va_A wc sz)) (hcal : Cal y bytes maxL ret n) {host : String} (hwl : Cond.methodLinkNest own index y host ∈ lw_tbl) (hwi : Cond.static y ∈ tb) (hn : As.length = n) (hR1 : rm.frames + 1 ≤ R.frames ∧ 8 + (maxL + 11) + rm.locals ≤ R.locals) (hrc : rm.cells = mc) (hrs : rm.slots = ms) (hW : (rest.map fun v => v.category).sum ≤ 8) (hf : cells + mc ≤ R.cells ∧ slots + ms ≤ R.slots) (isC isR is : List Nat) (hC : isC.map (fun i => ws[i]?) = wc.map some) (hnc : va_nd isC = true) (hR : isR.map (fun i => ws[i]?) = wr.map some) (hnr : va_nd isR = true) (hdis : ∀ i ∈ isR, i ∉ isC) (hpm : ∀ u, is.map (fun i => (wr ++ wp u)[i]?) = (wn u).map some) (hnp : va_nd is = true) (hd : decode cc pc = .ok (.invokestatic index, 3)) (hq : pc + 3 = q) (k : ∀ u : S, post u → J p l e R s m args below meth c D A nL Q (cells + mc) (slots + ms) (wn (u)) lv (rest) q) : J p l e R s m args below meth c D A nL Q cells slots ws lv (As.reverse ++ rest) pc := by
  intro H locs ls hP hD hS hl
  subst hq
  have hpre := j_pre (av := As) X hP hD hS isC hC hnc
  have hF := va_free hD hS X.ha isC hC
  have hFix : CallFix p m c cc nL s args tb own := ⟨X.ex, X.by, X.ml, X.ow, X.wd⟩
  have hrun := va_runSN (l := l) (e := e) (below := below) (meth := meth) (locs := locs) (cells := cells) (slots := slots) (As := As) (rest := rest) hFix (hM H.size) ⟨va_cnB n X.wd (good_ws hcal) rfl hrc hrs (X.nx.1 _ _ _ _ hwl) (X.wd _ hcal.1) hcal.2.2 hR1, X.wd _ hwi, trivial⟩ hpre (g := F0 m pc ls (As.reverse ++ rest)) rfl hn hl.1 rfl (lv_room hW) hd hf
  refine va_callv hrun hS (fun q _ h => hF q h) hF (fun u t H1 locs1 ht hvm hw hB hz1 hk1 hS1 => ?_)
  obtain ⟨hP1, hK1, hD1⟩ := hB
  rw [ht] at hP1
  obtain ⟨hP2, hD2⟩ := va_join hP hD isC isR hC hR hnr hdis hk1 hF hP1 hD1
  exact k u hw H1 locs1 ls (hP2.sub is (by
    have h2 := congrArg (List.filterMap id) (hpm u)
    rw [List.filterMap_map, List.filterMap_map] at h2
    simpa using h2)) (hD2.sub is hnp (hpm u)) hS1 hl
theorem j_callIv {S : Type} {post : S → Prop} {wp wn : S → va_W} (X : Cx p s m args meth c D ct L ts A cc own nL rt) (hM : ∀ sz, Met l y (Cond.code y bytes maxL none :: tb) rm (PcG D ct L ts (.ref b :: As) wc sz) (va_Qv post (fun u => BG D ct (va_A wc sz) (wp u)) (va_A wc sz)) mc ms (va_A wc sz)) (hcal : Cal y bytes maxL none n) (hni : y.name = "<init>") (hwl : Cond.methodLink own index y ∈ tb) (hwi : Cond.instanceMethod y ∈ tb) (hn : As.length = n) (hR1 : rm.frames + 1 ≤ R.frames ∧ 8 + (maxL + 11) + rm.locals ≤ R.locals) (hrc : rm.cells = mc) (hrs : rm.slots = ms) (hW : (rest.map fun v => v.category).sum ≤ 8) (hf : cells + mc ≤ R.cells ∧ slots + ms ≤ R.slots) (isC isR is : List Nat) (hC : isC.map (fun i => ws[i]?) = wc.map some) (hnc : va_nd isC = true) (hR : isR.map (fun i => ws[i]?) = wr.map some) (hnr : va_nd isR = true) (hdis : ∀ i ∈ isR, i ∉ isC) (hpm : ∀ u, is.map (fun i => (wr ++ wp u)[i]?) = (wn u).map some) (hnp : va_nd is = true) (hd : decode cc pc = .ok (.invokespecial index, 3)) (hq : pc + 3 = q) (k : ∀ u : S, post u → J p l e R s m args below meth c D A nL Q (cells + mc) (slots + ms) (wn (u)) lv (rest) q) : J p l e R s m args below meth c D A nL Q cells slots ws lv (As.reverse ++ .ref b :: rest) pc := by
  intro H locs ls hP hD hS hl
  subst hq
  have hpre := j_pre (av := .ref b :: As) X hP hD hS isC hC hnc
  have hF := va_free hD hS X.ha isC hC
  have hFix : CallFix p m c cc nL s args tb own := ⟨X.ex, X.by, X.ml, X.ow, X.wd⟩
  have hrun := va_runI (l := l) (e := e) (below := below) (meth := meth) (locs := locs) (cells := cells) (slots := slots) (As := As) (rest := rest) hFix (hM H.size) ⟨callB_of n X.wd (good_ws hcal) rfl hrc hrs (X.wd _ hcal.1) (X.wd _ hwl) hcal.2.2 hR1, hni, X.wd _ hwi⟩ hpre (g := F0 m pc ls (As.reverse ++ .ref b :: rest)) rfl hn hl.1 rfl (lv_room hW) hd hf
  refine va_callv hrun hS (fun q _ h => hF q h) hF (fun u t H1 locs1 ht hvm hw hB hz1 hk1 hS1 => ?_)
  obtain ⟨hP1, hK1, hD1⟩ := hB
  rw [ht] at hP1
  obtain ⟨hP2, hD2⟩ := va_join hP hD isC isR hC hR hnr hdis hk1 hF hP1 hD1
  exact k u hw H1 locs1 ls (hP2.sub is (by
    have h2 := congrArg (List.filterMap id) (hpm u)
    rw [List.filterMap_map, List.filterMap_map] at h2
    simpa using h2)) (hD2.sub is hnp (hpm u)) hS1 hl
theorem j_callINv {S : Type} {post : S → Prop} {wp wn : S → va_W} (X : Cx p s m args meth c D ct L ts A cc own nL rt) (hM : ∀ sz, Met l y (Cond.code y bytes maxL none :: tb) rm (PcG D ct L ts (.ref b :: As) wc sz) (va_Qv post (fun u => BG D ct (va_A wc sz) (wp u)) (va_A wc sz)) mc ms (va_A wc sz)) (hcal : Cal y bytes maxL none n) {host : String} (hni : y.name = "<init>") (hwl : Cond.methodLinkNest own index y host ∈ lw_tbl) (hwi : Cond.instanceMethod y ∈ tb) (hn : As.length = n) (hR1 : rm.frames + 1 ≤ R.frames ∧ 8 + (maxL + 11) + rm.locals ≤ R.locals) (hrc : rm.cells = mc) (hrs : rm.slots = ms) (hW : (rest.map fun v => v.category).sum ≤ 8) (hf : cells + mc ≤ R.cells ∧ slots + ms ≤ R.slots) (isC isR is : List Nat) (hC : isC.map (fun i => ws[i]?) = wc.map some) (hnc : va_nd isC = true) (hR : isR.map (fun i => ws[i]?) = wr.map some) (hnr : va_nd isR = true) (hdis : ∀ i ∈ isR, i ∉ isC) (hpm : ∀ u, is.map (fun i => (wr ++ wp u)[i]?) = (wn u).map some) (hnp : va_nd is = true) (hd : decode cc pc = .ok (.invokespecial index, 3)) (hq : pc + 3 = q) (k : ∀ u : S, post u → J p l e R s m args below meth c D A nL Q (cells + mc) (slots + ms) (wn (u)) lv (rest) q) : J p l e R s m args below meth c D A nL Q cells slots ws lv (As.reverse ++ .ref b :: rest) pc := by
  intro H locs ls hP hD hS hl
  subst hq
  have hpre := j_pre (av := .ref b :: As) X hP hD hS isC hC hnc
  have hF := va_free hD hS X.ha isC hC
  have hFix : CallFix p m c cc nL s args tb own := ⟨X.ex, X.by, X.ml, X.ow, X.wd⟩
  have hrun := va_runIN (l := l) (e := e) (below := below) (meth := meth) (locs := locs) (cells := cells) (slots := slots) (As := As) (rest := rest) hFix (hM H.size) ⟨va_cnB n X.wd (good_ws hcal) rfl hrc hrs (X.nx.1 _ _ _ _ hwl) (X.wd _ hcal.1) hcal.2.2 hR1, hni, X.wd _ hwi⟩ hpre (g := F0 m pc ls (As.reverse ++ .ref b :: rest)) rfl hn hl.1 rfl (lv_room hW) hd hf
  refine va_callv hrun hS (fun q _ h => hF q h) hF (fun u t H1 locs1 ht hvm hw hB hz1 hk1 hS1 => ?_)
  obtain ⟨hP1, hK1, hD1⟩ := hB
  rw [ht] at hP1
  obtain ⟨hP2, hD2⟩ := va_join hP hD isC isR hC hR hnr hdis hk1 hF hP1 hD1
  exact k u hw H1 locs1 ls (hP2.sub is (by
    have h2 := congrArg (List.filterMap id) (hpm u)
    rw [List.filterMap_map, List.filterMap_map] at h2
    simpa using h2)) (hD2.sub is hnp (hpm u)) hS1 hl
theorem j_callVr {S : Type} {post : S → Prop} {wp wn : S → va_W} {ad : Nat} (X : Cx p s m args meth c D ct L ts A cc own nL rt) (hM : ∀ sz, Met l y (Cond.code y bytes maxL ret :: tb) rm (PcG D ct L ts (.ref b :: As) wc sz) (va_Qr post (fun u a t => a = ad ∧ BG D ct (va_A wc sz) (wp u) t) (va_A wc sz)) mc ms (va_A wc sz)) (hcal : Cal y bytes maxL ret n) (z : Nat) {ci N : Nat} {T : u_T} {fs : List Value} (hz : ws[z]? = some (b, .inr (ci, fs))) (hci : vwCl[ci]? = some (y.cls, T, N)) (hwl : Cond.methodLink own index y ∈ tb) (hwi : Cond.instanceMethod y ∈ tb) (hws : Cond.selects y.cls y y ∈ tb) (hn : As.length = n) (hR1 : rm.frames + 1 ≤ R.frames ∧ 8 + (maxL + 11) + rm.locals ≤ R.locals) (hrc : rm.cells = mc) (hrs : rm.slots = ms) (hW : (rest.map fun v => v.category).sum ≤ 8) (hf : cells + mc ≤ R.cells ∧ slots + ms ≤ R.slots) (isC isR is : List Nat) (hC : isC.map (fun i => ws[i]?) = wc.map some) (hnc : va_nd isC = true) (hR : isR.map (fun i => ws[i]?) = wr.map some) (hnr : va_nd isR = true) (hdis : ∀ i ∈ isR, i ∉ isC) (hpm : ∀ u, is.map (fun i => (wr ++ wp u)[i]?) = (wn u).map some) (hnp : va_nd is = true) (hd : decode cc pc = .ok (.invokevirtual index, 3)) (hq : pc + 3 = q) (k : ∀ u : S, post u → J p l e R s m args below meth c D A nL Q (cells + mc) (slots + ms) (wn u) lv (.ref ad :: rest) q) : J p l e R s m args below meth c D A nL Q cells slots ws lv (As.reverse ++ .ref b :: rest) pc := by
  intro H locs ls hP hD hS hl
  subst hq
  have hpre := j_pre (av := .ref b :: As) X hP hD hS isC hC hnc
  have hF := va_free hD hS X.ha isC hC
  have hFix : CallFix p m c cc nL s args tb own := ⟨X.ex, X.by, X.ml, X.ow, X.wd⟩
  have hrun := va_runV (l := l) (e := e) (below := below) (meth := meth) (locs := locs) (cells := cells) (slots := slots) (As := As) (rest := rest) hFix (hM H.size) ⟨callB_of n X.wd (good_ws hcal) rfl hrc hrs (X.wd _ hcal.1) (X.wd _ hwl) hcal.2.2 hR1, X.wd _ hwi, X.wd _ hws⟩ ⟨hpre.1, va_recv X.kk hP hci hz, hpre.2⟩ (g := F0 m pc ls (As.reverse ++ .ref b :: rest)) rfl hn hl.1 rfl (lv_room hW) hd hf
  refine va_callr hrun hS (fun q _ h => hF q h) hF (fun u ra t H1 locs1 ht hvm hw hB hz1 hk1 hS1 => ?_)
  obtain ⟨rfl, hP1, hK1, hD1⟩ := hB
  rw [ht] at hP1
  obtain ⟨hP2, hD2⟩ := va_join hP hD isC isR hC hR hnr hdis hk1 hF hP1 hD1
  exact k u hw H1 locs1 ls (hP2.sub is (by
    have h2 := congrArg (List.filterMap id) (hpm u)
    rw [List.filterMap_map, List.filterMap_map] at h2
    simpa using h2)) (hD2.sub is hnp (hpm u)) hS1 hl
theorem j_aret {S : Type} {post : S → Prop} {wp : S → va_W} {ad : Nat} {ty : FieldType} (X : Cx p s m args meth c D ct L ts A cc own nL (some ty)) (u : S) (hty : (∃ n, ty = .object n) ∨ ∃ t, ty = .array t) (hd : decode cc pc = .ok (.areturn, 1)) (hp : post u) (hw : ws = wp u) : J p l e R s m args below meth c D A nL (MQ below (va_Qr post (fun u a t => a = ad ∧ BG D ct A (wp u) t) A) args s cells slots A) cells slots ws lv [.ref ad] pc := by
  intro H locs ls hP hD hS hl
  subst hw
  exact W.aret X.1 X.2.1 X.ret hty (Or.inr ⟨ad, rfl⟩) (fun t ht hW => ⟨⟨u, ad, rfl, hp, rfl, by rw [ht]; exact hP, va_K.moved hW.alike X.kk, hD⟩, hS.F ht⟩) hS.2.2 hd X.lk
theorem j_stk {st st2 : List Value} (h : st = st2) (k : J p l e R s m args below meth c D A nL Q cells slots ws lv st2 pc) : J p l e R s m args below meth c D A nL Q cells slots ws lv st pc := h ▸ k
theorem j_swIn (X : Cx p s m args meth c D ct L ts A cc own nL rt) {dflt lo hi : Int} {offs : Array Int} {len : Nat} {x : Int32} {off : Int} {tgt : Nat} (hd : decode cc pc = .ok (.tableswitch dflt lo hi offs, len)) (h1 : ¬ x.toInt < lo) (h2 : ¬ hi < x.toInt) (ho : offs[(x.toInt - lo).toNat]? = some off) (ht : (pc : Int) + off = (tgt : Int)) (k : J p l e R s m args below meth c D A nL Q cells slots ws lv rest tgt) : J p l e R s m args below meth c D A nL Q cells slots ws lv (.int x :: rest) pc := by
  intro H locs ls hP hD hS hl
  exact lv_tableIn X.1 X.2.1 hd h1 h2 ho ht (k H locs ls hP hD hS hl)
theorem j_swOut (X : Cx p s m args meth c D ct L ts A cc own nL rt) {dflt lo hi : Int} {offs : Array Int} {len : Nat} {x : Int32} {tgt : Nat} (hd : decode cc pc = .ok (.tableswitch dflt lo hi offs, len)) (h : x.toInt < lo ∨ hi < x.toInt) (ht : (pc : Int) + dflt = (tgt : Int)) (k : J p l e R s m args below meth c D A nL Q cells slots ws lv rest tgt) : J p l e R s m args below meth c D A nL Q cells slots ws lv (.int x :: rest) pc := by
  intro H locs ls hP hD hS hl
  exact lv_tableOut X.1 X.2.1 hd h ht (k H locs ls hP hD hS hl)
end JCALLS
theorem sw_out {x : Int32} {lo hi : Nat} (hh : hi < 2 ^ 30) (h : ∀ v : Nat, lo ≤ v → v ≤ hi → ¬ x = nI v) : x.toInt < (lo : Int) ∨ (hi : Int) < x.toInt := by
  rcases Int.lt_or_le x.toInt lo with q | q
  · exact Or.inl q
  · rcases Int.lt_or_le (hi : Int) x.toInt with q2 | q2
    · exact Or.inr q2
    · exfalso
      have e : x = nI x.toInt.toNat := by
        apply Int32.toInt_inj.mp
        rw [nI_toInt (by omega)]
        omega
      exact h x.toInt.toNat (by omega) (by omega) e
theorem vp_nI {x : Int32} {n : Nat} (h : vp_in x n) (hn : n < 2 ^ 31) : x = nI x.toNatClampNeg ∧ x.toNatClampNeg < n := by
  obtain ⟨j, hj, rfl⟩ := vp_in_of h hn
  rw [nI_clamp (by omega)]
  exact ⟨rfl, hj⟩
theorem nz_of {x : Int32} {n : Nat} (hn : n < 2 ^ 31) (h : ∃ m : Nat, m ≤ n ∧ x = nI m) : x = nI x.toNatClampNeg ∧ x.toNatClampNeg ≤ n := by
  obtain ⟨m, hm, rfl⟩ := h
  rw [nI_clamp (by omega)]
  exact ⟨rfl, hm⟩
