theorem j_pce {p : Program} {l : Launch} {e : Env} {R : Room} {s : State} {m : MethodId} {args : Array Value} {below : List Frame} {meth : Method} {c : Code} {D : va_G} {A : Nat → Prop} {nL : Nat} {Q : State → Prop} {cells slots : Nat} {ws : va_W} {lv : List (Nat × Value)} {st : List Value} {pc pc' : Nat} (h : pc = pc') (k : J p l e R s m args below meth c D A nL Q cells slots ws lv st pc') : J p l e R s m args below meth c D A nL Q cells slots ws lv st pc := h ▸ k
theorem dL_way_0 : decode cL_way 0 = .ok (.aload_n 2, 1) := by decide +kernel
theorem dL_way_1 : decode cL_way 1 = .ok (.iconst 0, 1) := by decide +kernel
theorem dL_way_2 : decode cL_way 2 = .ok (.aload_n 0, 1) := by decide +kernel
theorem dL_way_3 : decode cL_way 3 = .ok (.iload_n 1, 1) := by decide +kernel
theorem dL_way_4 : decode cL_way 4 = .ok (.invokevirtual 25, 3) := by decide +kernel
theorem dL_way_7 : decode cL_way 7 = .ok (.i2l, 1) := by decide +kernel
theorem dL_way_8 : decode cL_way 8 = .ok (.lastore, 1) := by decide +kernel
theorem dL_way_9 : decode cL_way 9 = .ok (.goto 6, 3) := by decide +kernel
theorem dL_way_12 : decode cL_way 12 = .ok (.astore_n 3, 1) := by decide +kernel
theorem dL_way_13 : decode cL_way 13 = .ok (.iconst 1, 1) := by decide +kernel
theorem dL_way_14 : decode cL_way 14 = .ok (.ireturn, 1) := by decide +kernel
theorem dL_way_15 : decode cL_way 15 = .ok (.iconst 0, 1) := by decide +kernel
theorem dL_way_16 : decode cL_way 16 = .ok (.ireturn, 1) := by decide +kernel
theorem mw_H_0 : Cond.methodLink "GuardedTreeLaw" 25 yX11_way ∈ tb := tb_at 825 (by decide +kernel) (by decide +kernel)
set_option maxHeartbeats 4000000 in
set_option maxRecDepth 100000 in
theorem c_L_way (l : Launch) (D : va_G) (ct : Nat → ClassId) (ts : Nat → Nat) (a_this a_this_toServer a_this_clientSide a_this_serverSide a_this_toClient a_this_toServer_bytes a_out : Nat) (v_connections : Int32) (v_toServer_size : Nat) (x1 : Int32) (g_out : Nat → Int64) (h_x : x1 = nI 0) (sz : Nat) : Met l yL_way (Cond.codeWith yL_way cL_way 4 (some .int) [(0, 9, 12, 19)] :: tb) { frames := 2, cells := 0, slots := 0, locals := 42 } (PcX D ct SXL ts [.ref a_this, .int x1, .ref a_out] [(a_this, .inr (11, [.ref a_this_clientSide, .ref a_this_serverSide, .ref a_this_toServer, .ref a_this_toClient, .int v_connections])), (a_this_toServer, .inr (6, [.ref a_this_toServer_bytes, .int (nI v_toServer_size)])), (a_out, .inl (ct 3, 1, .inr (.inl g_out)))] sz) (va_Qi (fun (r : Int32) (_ : Unit) => r = nI 0) (fun _ => BG D ct (va_A [(a_this, .inr (11, [.ref a_this_clientSide, .ref a_this_serverSide, .ref a_this_toServer, .ref a_this_toClient, .int v_connections])), (a_this_toServer, .inr (6, [.ref a_this_toServer_bytes, .int (nI v_toServer_size)])), (a_out, .inl (ct 3, 1, .inr (.inl g_out)))] sz) [(a_out, .inl (ct 3, 1, .inr (.inl (vp_updL g_out 0 (Int32.toInt64 (f_X11_way v_toServer_size))))))]) (va_A [(a_this, .inr (11, [.ref a_this_clientSide, .ref a_this_serverSide, .ref a_this_toServer, .ref a_this_toClient, .int v_connections])), (a_this_toServer, .inr (6, [.ref a_this_toServer_bytes, .int (nI v_toServer_size)])), (a_out, .inl (ct 3, 1, .inr (.inl g_out)))] sz)) 0 0 (va_A [(a_this, .inr (11, [.ref a_this_clientSide, .ref a_this_serverSide, .ref a_this_toServer, .ref a_this_toClient, .int v_connections])), (a_this_toServer, .inr (6, [.ref a_this_toServer_bytes, .int (nI v_toServer_size)])), (a_out, .inl (ct 3, 1, .inr (.inl g_out)))] sz) := by
  refine metH (l := l) (y := yL_way) (cc := cL_way) (maxL := 4) (ret := (some .int)) (hh := [(0, 9, 12, 19)]) (rm := { frames := 2, cells := 0, slots := 0, locals := 42 }) (D := D) (ct := ct) (L := SXL) (ts := ts) (av := [.ref a_this, .int x1, .ref a_out]) (ws := [(a_this, .inr (11, [.ref a_this_clientSide, .ref a_this_serverSide, .ref a_this_toServer, .ref a_this_toClient, .int v_connections])), (a_this_toServer, .inr (6, [.ref a_this_toServer_bytes, .int (nI v_toServer_size)])), (a_out, .inl (ct 3, 1, .inr (.inl g_out)))]) (sz := sz) (mc := 0) (ms := 0) (QcF := fun A => va_Qi (fun (r : Int32) (_ : Unit) => r = nI 0) (fun _ => BG D ct A [(a_out, .inl (ct 3, 1, .inr (.inl (vp_updL g_out 0 (Int32.toInt64 (f_X11_way v_toServer_size))))))]) A) (by decide) (Nat.le_of_ble_eq_true rfl) ?_
  intro p e s m below meth c A X hT htab
  obtain ⟨Q, hQ⟩ : ∃ Q, Q = MQ below (va_Qi (fun (r : Int32) (_ : Unit) => r = nI 0) (fun _ => BG D ct A [(a_out, .inl (ct 3, 1, .inr (.inl (vp_updL g_out 0 (Int32.toInt64 (f_X11_way v_toServer_size))))))]) A) [.ref a_this, .int x1, .ref a_out].toArray s 0 0 A := ⟨_, rfl⟩
  rw [← hQ]
  refine j_lve (lv' := [(0, .ref a_this), (1, .int x1), (2, .ref a_out)]) rfl ?_
  refine j_aload_n X 2 dL_way_0 rfl (q := 1) rfl ?_
  refine j_iconst (v := nI 0) X dL_way_1 (by decide) (q := 2) rfl ?_
  refine j_aload_n X 0 dL_way_2 rfl (q := 3) rfl ?_
  refine j_iload_n X 1 dL_way_3 rfl (q := 4) rfl ?_
  refine j_callVi (As := [.int x1]) (rest := [.int (nI 0), .ref a_out]) (wn := fun _ => [(a_out, .inl (ct 3, 1, .inr (.inl g_out)))]) (wr := [(a_out, .inl (ct 3, 1, .inr (.inl g_out)))]) X (fun sz => c_X11_way l D ct ts a_this a_this_toServer a_this_clientSide a_this_serverSide a_this_toClient a_this_toServer_bytes v_connections v_toServer_size x1 h_x sz) cal_X11_way 0 rfl rfl mw_H_0 cwi_X11_way cws_X11_way rfl ⟨by decide, by decide⟩ rfl rfl (Nat.le_of_ble_eq_true rfl) ⟨by decide, by decide⟩ [0, 1] [2] [0] rfl (by decide) rfl (by decide) (by decide) (fun _ => rfl) (by decide) dL_way_4 (q := 7) rfl (fun r u hu => ?_)
  have hr : r = (f_X11_way v_toServer_size) := hu
  subst hr
  refine j_i2l X dL_way_7 (q := 8) rfl ?_
  refine j_last (ws2 := [(a_out, .inl (ct 3, 1, .inr (.inl (vp_updL g_out 0 (Int32.toInt64 (f_X11_way v_toServer_size))))))]) X 0 rfl (vp_in_nI (by omega) (by omega)) dL_way_8 rfl (q := 9) rfl ?_
  refine j_goto (tgt := 15) X dL_way_9 (by decide) ?_
  refine j_iconst (v := nI 0) X dL_way_15 (by decide) (q := 16) rfl ?_
  rw [hQ]
  exact j_iret X () dL_way_16 rfl rfl
theorem cal_L_way : CalW yL_way cL_way 4 (some .int) [(0, 9, 12, 19)] 3 := ⟨tb_at 108 (by decide +kernel) (by decide +kernel), tb_at 824 (by decide +kernel) (by decide +kernel), by decide +kernel, by decide +kernel, by decide +kernel⟩
theorem cwt_L_way : Cond.static yL_way ∈ tb := tb_at 823 (by decide +kernel) (by decide +kernel)
set_option maxHeartbeats 4000000 in
set_option maxRecDepth 100000 in
theorem c_L_way_1 (l : Launch) (D : va_G) (ct : Nat → ClassId) (ts : Nat → Nat) (a_this a_this_toClient a_this_clientSide a_this_serverSide a_this_toServer a_this_toClient_bytes a_out : Nat) (v_connections : Int32) (v_toClient_size : Nat) (x1 : Int32) (g_out : Nat → Int64) (h_x : x1 = nI 1) (sz : Nat) : Met l yL_way (Cond.codeWith yL_way cL_way 4 (some .int) [(0, 9, 12, 19)] :: tb) { frames := 2, cells := 0, slots := 0, locals := 42 } (PcX D ct SXL ts [.ref a_this, .int x1, .ref a_out] [(a_this, .inr (11, [.ref a_this_clientSide, .ref a_this_serverSide, .ref a_this_toServer, .ref a_this_toClient, .int v_connections])), (a_this_toClient, .inr (6, [.ref a_this_toClient_bytes, .int (nI v_toClient_size)])), (a_out, .inl (ct 3, 1, .inr (.inl g_out)))] sz) (va_Qi (fun (r : Int32) (_ : Unit) => r = nI 0) (fun _ => BG D ct (va_A [(a_this, .inr (11, [.ref a_this_clientSide, .ref a_this_serverSide, .ref a_this_toServer, .ref a_this_toClient, .int v_connections])), (a_this_toClient, .inr (6, [.ref a_this_toClient_bytes, .int (nI v_toClient_size)])), (a_out, .inl (ct 3, 1, .inr (.inl g_out)))] sz) [(a_out, .inl (ct 3, 1, .inr (.inl (vp_updL g_out 0 (Int32.toInt64 (f_X11_way_1 v_toClient_size))))))]) (va_A [(a_this, .inr (11, [.ref a_this_clientSide, .ref a_this_serverSide, .ref a_this_toServer, .ref a_this_toClient, .int v_connections])), (a_this_toClient, .inr (6, [.ref a_this_toClient_bytes, .int (nI v_toClient_size)])), (a_out, .inl (ct 3, 1, .inr (.inl g_out)))] sz)) 0 0 (va_A [(a_this, .inr (11, [.ref a_this_clientSide, .ref a_this_serverSide, .ref a_this_toServer, .ref a_this_toClient, .int v_connections])), (a_this_toClient, .inr (6, [.ref a_this_toClient_bytes, .int (nI v_toClient_size)])), (a_out, .inl (ct 3, 1, .inr (.inl g_out)))] sz) := by
  refine metH (l := l) (y := yL_way) (cc := cL_way) (maxL := 4) (ret := (some .int)) (hh := [(0, 9, 12, 19)]) (rm := { frames := 2, cells := 0, slots := 0, locals := 42 }) (D := D) (ct := ct) (L := SXL) (ts := ts) (av := [.ref a_this, .int x1, .ref a_out]) (ws := [(a_this, .inr (11, [.ref a_this_clientSide, .ref a_this_serverSide, .ref a_this_toServer, .ref a_this_toClient, .int v_connections])), (a_this_toClient, .inr (6, [.ref a_this_toClient_bytes, .int (nI v_toClient_size)])), (a_out, .inl (ct 3, 1, .inr (.inl g_out)))]) (sz := sz) (mc := 0) (ms := 0) (QcF := fun A => va_Qi (fun (r : Int32) (_ : Unit) => r = nI 0) (fun _ => BG D ct A [(a_out, .inl (ct 3, 1, .inr (.inl (vp_updL g_out 0 (Int32.toInt64 (f_X11_way_1 v_toClient_size))))))]) A) (by decide) (Nat.le_of_ble_eq_true rfl) ?_
  intro p e s m below meth c A X hT htab
  obtain ⟨Q, hQ⟩ : ∃ Q, Q = MQ below (va_Qi (fun (r : Int32) (_ : Unit) => r = nI 0) (fun _ => BG D ct A [(a_out, .inl (ct 3, 1, .inr (.inl (vp_updL g_out 0 (Int32.toInt64 (f_X11_way_1 v_toClient_size))))))]) A) [.ref a_this, .int x1, .ref a_out].toArray s 0 0 A := ⟨_, rfl⟩
  rw [← hQ]
  refine j_lve (lv' := [(0, .ref a_this), (1, .int x1), (2, .ref a_out)]) rfl ?_
  refine j_aload_n X 2 dL_way_0 rfl (q := 1) rfl ?_
  refine j_iconst (v := nI 0) X dL_way_1 (by decide) (q := 2) rfl ?_
  refine j_aload_n X 0 dL_way_2 rfl (q := 3) rfl ?_
  refine j_iload_n X 1 dL_way_3 rfl (q := 4) rfl ?_
  refine j_callVi (As := [.int x1]) (rest := [.int (nI 0), .ref a_out]) (wn := fun _ => [(a_out, .inl (ct 3, 1, .inr (.inl g_out)))]) (wr := [(a_out, .inl (ct 3, 1, .inr (.inl g_out)))]) X (fun sz => c_X11_way_1 l D ct ts a_this a_this_toClient a_this_clientSide a_this_serverSide a_this_toServer a_this_toClient_bytes v_connections v_toClient_size x1 h_x sz) cal_X11_way 0 rfl rfl mw_H_0 cwi_X11_way cws_X11_way rfl ⟨by decide, by decide⟩ rfl rfl (Nat.le_of_ble_eq_true rfl) ⟨by decide, by decide⟩ [0, 1] [2] [0] rfl (by decide) rfl (by decide) (by decide) (fun _ => rfl) (by decide) dL_way_4 (q := 7) rfl (fun r u hu => ?_)
  have hr : r = (f_X11_way_1 v_toClient_size) := hu
  subst hr
  refine j_i2l X dL_way_7 (q := 8) rfl ?_
  refine j_last (ws2 := [(a_out, .inl (ct 3, 1, .inr (.inl (vp_updL g_out 0 (Int32.toInt64 (f_X11_way_1 v_toClient_size))))))]) X 0 rfl (vp_in_nI (by omega) (by omega)) dL_way_8 rfl (q := 9) rfl ?_
  refine j_goto (tgt := 15) X dL_way_9 (by decide) ?_
  refine j_iconst (v := nI 0) X dL_way_15 (by decide) (q := 16) rfl ?_
  rw [hQ]
  exact j_iret X () dL_way_16 rfl rfl
theorem mw_H_1 : Cond.classLink "GuardedTreeLaw" 19 EIX ∈ tb := tb_at 795 (by decide +kernel) (by decide +kernel)
set_option maxHeartbeats 4000000 in
set_option maxRecDepth 100000 in
theorem c_L_way_b (l : Launch) (D : va_G) (ct : Nat → ClassId) (ts : Nat → Nat) (hl : l.stackTraces = false) (a_this a_this_clientSide a_this_serverSide a_this_toServer a_this_toClient a_out : Nat) (v_connections : Int32) (x1 : Int32) (g_out : Nat → Int64) (h_b : x1 < 0 ∨ ¬ x1 ≤ nI 1) (sz : Nat) : Met l yL_way (Cond.codeWith yL_way cL_way 4 (some .int) [(0, 9, 12, 19)] :: tb) { frames := 8, cells := 1, slots := 6, locals := 123 } (PcX D ct SXL ts [.ref a_this, .int x1, .ref a_out] [(a_this, .inr (11, [.ref a_this_clientSide, .ref a_this_serverSide, .ref a_this_toServer, .ref a_this_toClient, .int v_connections])), (a_out, .inl (ct 3, 1, .inr (.inl g_out)))] sz) (va_Qi (fun (r : Int32) (_ : Unit) => r = nI 1) (fun _ => BG D ct (va_A [(a_this, .inr (11, [.ref a_this_clientSide, .ref a_this_serverSide, .ref a_this_toServer, .ref a_this_toClient, .int v_connections])), (a_out, .inl (ct 3, 1, .inr (.inl g_out)))] sz) [(a_out, .inl (ct 3, 1, .inr (.inl g_out)))]) (va_A [(a_this, .inr (11, [.ref a_this_clientSide, .ref a_this_serverSide, .ref a_this_toServer, .ref a_this_toClient, .int v_connections])), (a_out, .inl (ct 3, 1, .inr (.inl g_out)))] sz)) 1 6 (va_A [(a_this, .inr (11, [.ref a_this_clientSide, .ref a_this_serverSide, .ref a_this_toServer, .ref a_this_toClient, .int v_connections])), (a_out, .inl (ct 3, 1, .inr (.inl g_out)))] sz) := by
  refine metH (l := l) (y := yL_way) (cc := cL_way) (maxL := 4) (ret := (some .int)) (hh := [(0, 9, 12, 19)]) (rm := { frames := 8, cells := 1, slots := 6, locals := 123 }) (D := D) (ct := ct) (L := SXL) (ts := ts) (av := [.ref a_this, .int x1, .ref a_out]) (ws := [(a_this, .inr (11, [.ref a_this_clientSide, .ref a_this_serverSide, .ref a_this_toServer, .ref a_this_toClient, .int v_connections])), (a_out, .inl (ct 3, 1, .inr (.inl g_out)))]) (sz := sz) (mc := 1) (ms := 6) (QcF := fun A => va_Qi (fun (r : Int32) (_ : Unit) => r = nI 1) (fun _ => BG D ct A [(a_out, .inl (ct 3, 1, .inr (.inl g_out)))]) A) (by decide) (Nat.le_of_ble_eq_true rfl) ?_
  intro p e s m below meth c A X hT htab
  obtain ⟨Q, hQ⟩ : ∃ Q, Q = MQ below (va_Qi (fun (r : Int32) (_ : Unit) => r = nI 1) (fun _ => BG D ct A [(a_out, .inl (ct 3, 1, .inr (.inl g_out)))]) A) [.ref a_this, .int x1, .ref a_out].toArray s 1 6 A := ⟨_, rfl⟩
  rw [← hQ]
  refine j_lve (lv' := [(0, .ref a_this), (1, .int x1), (2, .ref a_out)]) rfl ?_
  refine j_aload_n X 2 dL_way_0 rfl (q := 1) rfl ?_
  refine j_iconst (v := nI 0) X dL_way_1 (by decide) (q := 2) rfl ?_
  refine j_aload_n X 0 dL_way_2 rfl (q := 3) rfl ?_
  refine j_iload_n X 1 dL_way_3 rfl (q := 4) rfl ?_
  refine j_callVx (As := [.int x1]) (rest := [.int (nI 0), .ref a_out]) (wr := [(a_out, .inl (ct 3, 1, .inr (.inl g_out)))]) X hT (fun sz => c_X11_way_b l D ct ts hl a_this a_this_clientSide a_this_serverSide a_this_toServer a_this_toClient v_connections x1 h_b sz) cal_X11_way 0 rfl rfl mw_H_0 cwi_X11_way cws_X11_way rfl ⟨by decide, by decide⟩ rfl rfl (Nat.le_of_ble_eq_true rfl) ⟨by decide, by decide⟩ [0] [1] rfl (by decide) rfl (by decide) (by decide) dL_way_4 (j_catchx X ⟨0, 9, 12, 19⟩ htab (by decide) (by decide) mw_H_1 hT.2.2.1 (fun q9 => ?_))
  refine j_pce (show _ = 12 from rfl) ?_
  refine j_astore_n (lv' := [(3, .ref q9), (0, .ref a_this), (1, .int x1), (2, .ref a_out)]) X dL_way_12 (by decide) rfl (q := 13) rfl ?_
  refine j_iconst (v := nI 1) X dL_way_13 (by decide) (q := 14) rfl ?_
  rw [hQ]
  exact j_iret X () dL_way_14 rfl rfl
theorem dL_credit_0 : decode cL_credit 0 = .ok (.aload_n 2, 1) := by decide +kernel
theorem dL_credit_1 : decode cL_credit 1 = .ok (.iconst 0, 1) := by decide +kernel
theorem dL_credit_2 : decode cL_credit 2 = .ok (.aload_n 0, 1) := by decide +kernel
theorem dL_credit_3 : decode cL_credit 3 = .ok (.iload_n 1, 1) := by decide +kernel
theorem dL_credit_4 : decode cL_credit 4 = .ok (.invokevirtual 21, 3) := by decide +kernel
theorem dL_credit_7 : decode cL_credit 7 = .ok (.i2l, 1) := by decide +kernel
theorem dL_credit_8 : decode cL_credit 8 = .ok (.lastore, 1) := by decide +kernel
theorem dL_credit_9 : decode cL_credit 9 = .ok (.goto 6, 3) := by decide +kernel
theorem dL_credit_12 : decode cL_credit 12 = .ok (.astore_n 3, 1) := by decide +kernel
theorem dL_credit_13 : decode cL_credit 13 = .ok (.iconst 1, 1) := by decide +kernel
theorem dL_credit_14 : decode cL_credit 14 = .ok (.ireturn, 1) := by decide +kernel
theorem dL_credit_15 : decode cL_credit 15 = .ok (.iconst 0, 1) := by decide +kernel
theorem dL_credit_16 : decode cL_credit 16 = .ok (.ireturn, 1) := by decide +kernel
theorem mw_H_2 : Cond.methodLink "GuardedTreeLaw" 21 yX11_credit ∈ tb := tb_at 818 (by decide +kernel) (by decide +kernel)
set_option maxHeartbeats 4000000 in
set_option maxRecDepth 100000 in
theorem c_L_credit (l : Launch) (D : va_G) (ct : Nat → ClassId) (ts : Nat → Nat) (a_this a_this_clientSide a_this_serverSide a_this_toServer a_this_toClient a_this_clientSide_agreement a_this_clientSide_in a_this_clientSide_out a_this_clientSide_requests a_this_clientSide_words a_out : Nat) (v_connections : Int32) (v_clientSide_state : Int32) (v_clientSide_asked : Nat) (v_clientSide_wordCount : Nat) (v_clientSide_ungranted : Int32) (x1 : Int32) (g_out : Nat → Int64) (h_x : x1 = nI 0) (h_st : v_clientSide_state = nI 0) (sz : Nat) : Met l yL_credit (Cond.codeWith yL_credit cL_credit 4 (some .int) [(0, 9, 12, 19)] :: tb) { frames := 1, cells := 0, slots := 0, locals := 21 } (PcX D ct SXL ts [.ref a_this, .int x1, .ref a_out] [(a_this, .inr (11, [.ref a_this_clientSide, .ref a_this_serverSide, .ref a_this_toServer, .ref a_this_toClient, .int v_connections])), (a_this_clientSide, .inr (3, [.ref a_this_clientSide_agreement, .ref a_this_clientSide_in, .ref a_this_clientSide_out, .ref a_this_clientSide_requests, .ref a_this_clientSide_words, .int v_clientSide_state, .int (nI v_clientSide_asked), .int (nI v_clientSide_wordCount), .int v_clientSide_ungranted])), (a_out, .inl (ct 3, 1, .inr (.inl g_out)))] sz) (va_Qi (fun (r : Int32) (_ : Unit) => r = nI 0) (fun _ => BG D ct (va_A [(a_this, .inr (11, [.ref a_this_clientSide, .ref a_this_serverSide, .ref a_this_toServer, .ref a_this_toClient, .int v_connections])), (a_this_clientSide, .inr (3, [.ref a_this_clientSide_agreement, .ref a_this_clientSide_in, .ref a_this_clientSide_out, .ref a_this_clientSide_requests, .ref a_this_clientSide_words, .int v_clientSide_state, .int (nI v_clientSide_asked), .int (nI v_clientSide_wordCount), .int v_clientSide_ungranted])), (a_out, .inl (ct 3, 1, .inr (.inl g_out)))] sz) [(a_out, .inl (ct 3, 1, .inr (.inl (vp_updL g_out 0 (Int32.toInt64 (f_X11_credit ))))))]) (va_A [(a_this, .inr (11, [.ref a_this_clientSide, .ref a_this_serverSide, .ref a_this_toServer, .ref a_this_toClient, .int v_connections])), (a_this_clientSide, .inr (3, [.ref a_this_clientSide_agreement, .ref a_this_clientSide_in, .ref a_this_clientSide_out, .ref a_this_clientSide_requests, .ref a_this_clientSide_words, .int v_clientSide_state, .int (nI v_clientSide_asked), .int (nI v_clientSide_wordCount), .int v_clientSide_ungranted])), (a_out, .inl (ct 3, 1, .inr (.inl g_out)))] sz)) 0 0 (va_A [(a_this, .inr (11, [.ref a_this_clientSide, .ref a_this_serverSide, .ref a_this_toServer, .ref a_this_toClient, .int v_connections])), (a_this_clientSide, .inr (3, [.ref a_this_clientSide_agreement, .ref a_this_clientSide_in, .ref a_this_clientSide_out, .ref a_this_clientSide_requests, .ref a_this_clientSide_words, .int v_clientSide_state, .int (nI v_clientSide_asked), .int (nI v_clientSide_wordCount), .int v_clientSide_ungranted])), (a_out, .inl (ct 3, 1, .inr (.inl g_out)))] sz) := by
  refine metH (l := l) (y := yL_credit) (cc := cL_credit) (maxL := 4) (ret := (some .int)) (hh := [(0, 9, 12, 19)]) (rm := { frames := 1, cells := 0, slots := 0, locals := 21 }) (D := D) (ct := ct) (L := SXL) (ts := ts) (av := [.ref a_this, .int x1, .ref a_out]) (ws := [(a_this, .inr (11, [.ref a_this_clientSide, .ref a_this_serverSide, .ref a_this_toServer, .ref a_this_toClient, .int v_connections])), (a_this_clientSide, .inr (3, [.ref a_this_clientSide_agreement, .ref a_this_clientSide_in, .ref a_this_clientSide_out, .ref a_this_clientSide_requests, .ref a_this_clientSide_words, .int v_clientSide_state, .int (nI v_clientSide_asked), .int (nI v_clientSide_wordCount), .int v_clientSide_ungranted])), (a_out, .inl (ct 3, 1, .inr (.inl g_out)))]) (sz := sz) (mc := 0) (ms := 0) (QcF := fun A => va_Qi (fun (r : Int32) (_ : Unit) => r = nI 0) (fun _ => BG D ct A [(a_out, .inl (ct 3, 1, .inr (.inl (vp_updL g_out 0 (Int32.toInt64 (f_X11_credit ))))))]) A) (by decide) (Nat.le_of_ble_eq_true rfl) ?_
  intro p e s m below meth c A X hT htab
  obtain ⟨Q, hQ⟩ : ∃ Q, Q = MQ below (va_Qi (fun (r : Int32) (_ : Unit) => r = nI 0) (fun _ => BG D ct A [(a_out, .inl (ct 3, 1, .inr (.inl (vp_updL g_out 0 (Int32.toInt64 (f_X11_credit ))))))]) A) [.ref a_this, .int x1, .ref a_out].toArray s 0 0 A := ⟨_, rfl⟩
  rw [← hQ]
  refine j_lve (lv' := [(0, .ref a_this), (1, .int x1), (2, .ref a_out)]) rfl ?_
  refine j_aload_n X 2 dL_credit_0 rfl (q := 1) rfl ?_
  refine j_iconst (v := nI 0) X dL_credit_1 (by decide) (q := 2) rfl ?_
  refine j_aload_n X 0 dL_credit_2 rfl (q := 3) rfl ?_
  refine j_iload_n X 1 dL_credit_3 rfl (q := 4) rfl ?_
  refine j_callVi (As := [.int x1]) (rest := [.int (nI 0), .ref a_out]) (wn := fun _ => [(a_out, .inl (ct 3, 1, .inr (.inl g_out)))]) (wr := [(a_out, .inl (ct 3, 1, .inr (.inl g_out)))]) X (fun sz => c_X11_credit l D ct ts a_this a_this_clientSide a_this_serverSide a_this_toServer a_this_toClient a_this_clientSide_agreement a_this_clientSide_in a_this_clientSide_out a_this_clientSide_requests a_this_clientSide_words v_connections v_clientSide_state v_clientSide_asked v_clientSide_wordCount v_clientSide_ungranted x1 h_x h_st sz) cal_X11_credit 0 rfl rfl mw_H_2 cwi_X11_credit cws_X11_credit rfl ⟨by decide, by decide⟩ rfl rfl (Nat.le_of_ble_eq_true rfl) ⟨by decide, by decide⟩ [0, 1] [2] [0] rfl (by decide) rfl (by decide) (by decide) (fun _ => rfl) (by decide) dL_credit_4 (q := 7) rfl (fun r u hu => ?_)
  have hr : r = (f_X11_credit ) := hu
  subst hr
  refine j_i2l X dL_credit_7 (q := 8) rfl ?_
  refine j_last (ws2 := [(a_out, .inl (ct 3, 1, .inr (.inl (vp_updL g_out 0 (Int32.toInt64 (f_X11_credit ))))))]) X 0 rfl (vp_in_nI (by omega) (by omega)) dL_credit_8 rfl (q := 9) rfl ?_
  refine j_goto (tgt := 15) X dL_credit_9 (by decide) ?_
  refine j_iconst (v := nI 0) X dL_credit_15 (by decide) (q := 16) rfl ?_
  rw [hQ]
  exact j_iret X () dL_credit_16 rfl rfl
theorem cal_L_credit : CalW yL_credit cL_credit 4 (some .int) [(0, 9, 12, 19)] 3 := ⟨tb_at 108 (by decide +kernel) (by decide +kernel), tb_at 817 (by decide +kernel) (by decide +kernel), by decide +kernel, by decide +kernel, by decide +kernel⟩
theorem cwt_L_credit : Cond.static yL_credit ∈ tb := tb_at 816 (by decide +kernel) (by decide +kernel)
set_option maxHeartbeats 4000000 in
set_option maxRecDepth 100000 in
theorem c_L_credit_1 (l : Launch) (D : va_G) (ct : Nat → ClassId) (ts : Nat → Nat) (a_this a_this_serverSide a_this_clientSide a_this_toServer a_this_toClient a_this_serverSide_agreement a_this_serverSide_in a_this_serverSide_out a_this_serverSide_tree a_this_serverSide_disk a_this_serverSide_numbers a_this_serverSide_answers a_this_serverSide_counts a_this_serverSide_costs a_this_serverSide_bytes a_out : Nat) (v_connections : Int32) (v_serverSide_state : Int32) (v_serverSide_first : Nat) (v_serverSide_waiting : Nat) (v_serverSide_ungranted : Int32) (v_serverSide_answered : Int32) (x1 : Int32) (g_out : Nat → Int64) (h_x : x1 = nI 1) (h_st : v_serverSide_state = nI 0) (sz : Nat) : Met l yL_credit (Cond.codeWith yL_credit cL_credit 4 (some .int) [(0, 9, 12, 19)] :: tb) { frames := 1, cells := 0, slots := 0, locals := 21 } (PcX D ct SXL ts [.ref a_this, .int x1, .ref a_out] [(a_this, .inr (11, [.ref a_this_clientSide, .ref a_this_serverSide, .ref a_this_toServer, .ref a_this_toClient, .int v_connections])), (a_this_serverSide, .inr (9, [.ref a_this_serverSide_agreement, .ref a_this_serverSide_in, .ref a_this_serverSide_out, .ref a_this_serverSide_tree, .ref a_this_serverSide_disk, .ref a_this_serverSide_numbers, .ref a_this_serverSide_answers, .ref a_this_serverSide_counts, .ref a_this_serverSide_costs, .ref a_this_serverSide_bytes, .int v_serverSide_state, .int (nI v_serverSide_first), .int (nI v_serverSide_waiting), .int v_serverSide_ungranted, .int v_serverSide_answered])), (a_out, .inl (ct 3, 1, .inr (.inl g_out)))] sz) (va_Qi (fun (r : Int32) (_ : Unit) => r = nI 0) (fun _ => BG D ct (va_A [(a_this, .inr (11, [.ref a_this_clientSide, .ref a_this_serverSide, .ref a_this_toServer, .ref a_this_toClient, .int v_connections])), (a_this_serverSide, .inr (9, [.ref a_this_serverSide_agreement, .ref a_this_serverSide_in, .ref a_this_serverSide_out, .ref a_this_serverSide_tree, .ref a_this_serverSide_disk, .ref a_this_serverSide_numbers, .ref a_this_serverSide_answers, .ref a_this_serverSide_counts, .ref a_this_serverSide_costs, .ref a_this_serverSide_bytes, .int v_serverSide_state, .int (nI v_serverSide_first), .int (nI v_serverSide_waiting), .int v_serverSide_ungranted, .int v_serverSide_answered])), (a_out, .inl (ct 3, 1, .inr (.inl g_out)))] sz) [(a_out, .inl (ct 3, 1, .inr (.inl (vp_updL g_out 0 (Int32.toInt64 (f_X11_credit_1 ))))))]) (va_A [(a_this, .inr (11, [.ref a_this_clientSide, .ref a_this_serverSide, .ref a_this_toServer, .ref a_this_toClient, .int v_connections])), (a_this_serverSide, .inr (9, [.ref a_this_serverSide_agreement, .ref a_this_serverSide_in, .ref a_this_serverSide_out, .ref a_this_serverSide_tree, .ref a_this_serverSide_disk, .ref a_this_serverSide_numbers, .ref a_this_serverSide_answers, .ref a_this_serverSide_counts, .ref a_this_serverSide_costs, .ref a_this_serverSide_bytes, .int v_serverSide_state, .int (nI v_serverSide_first), .int (nI v_serverSide_waiting), .int v_serverSide_ungranted, .int v_serverSide_answered])), (a_out, .inl (ct 3, 1, .inr (.inl g_out)))] sz)) 0 0 (va_A [(a_this, .inr (11, [.ref a_this_clientSide, .ref a_this_serverSide, .ref a_this_toServer, .ref a_this_toClient, .int v_connections])), (a_this_serverSide, .inr (9, [.ref a_this_serverSide_agreement, .ref a_this_serverSide_in, .ref a_this_serverSide_out, .ref a_this_serverSide_tree, .ref a_this_serverSide_disk, .ref a_this_serverSide_numbers, .ref a_this_serverSide_answers, .ref a_this_serverSide_counts, .ref a_this_serverSide_costs, .ref a_this_serverSide_bytes, .int v_serverSide_state, .int (nI v_serverSide_first), .int (nI v_serverSide_waiting), .int v_serverSide_ungranted, .int v_serverSide_answered])), (a_out, .inl (ct 3, 1, .inr (.inl g_out)))] sz) := by
  refine metH (l := l) (y := yL_credit) (cc := cL_credit) (maxL := 4) (ret := (some .int)) (hh := [(0, 9, 12, 19)]) (rm := { frames := 1, cells := 0, slots := 0, locals := 21 }) (D := D) (ct := ct) (L := SXL) (ts := ts) (av := [.ref a_this, .int x1, .ref a_out]) (ws := [(a_this, .inr (11, [.ref a_this_clientSide, .ref a_this_serverSide, .ref a_this_toServer, .ref a_this_toClient, .int v_connections])), (a_this_serverSide, .inr (9, [.ref a_this_serverSide_agreement, .ref a_this_serverSide_in, .ref a_this_serverSide_out, .ref a_this_serverSide_tree, .ref a_this_serverSide_disk, .ref a_this_serverSide_numbers, .ref a_this_serverSide_answers, .ref a_this_serverSide_counts, .ref a_this_serverSide_costs, .ref a_this_serverSide_bytes, .int v_serverSide_state, .int (nI v_serverSide_first), .int (nI v_serverSide_waiting), .int v_serverSide_ungranted, .int v_serverSide_answered])), (a_out, .inl (ct 3, 1, .inr (.inl g_out)))]) (sz := sz) (mc := 0) (ms := 0) (QcF := fun A => va_Qi (fun (r : Int32) (_ : Unit) => r = nI 0) (fun _ => BG D ct A [(a_out, .inl (ct 3, 1, .inr (.inl (vp_updL g_out 0 (Int32.toInt64 (f_X11_credit_1 ))))))]) A) (by decide) (Nat.le_of_ble_eq_true rfl) ?_
  intro p e s m below meth c A X hT htab
  obtain ⟨Q, hQ⟩ : ∃ Q, Q = MQ below (va_Qi (fun (r : Int32) (_ : Unit) => r = nI 0) (fun _ => BG D ct A [(a_out, .inl (ct 3, 1, .inr (.inl (vp_updL g_out 0 (Int32.toInt64 (f_X11_credit_1 ))))))]) A) [.ref a_this, .int x1, .ref a_out].toArray s 0 0 A := ⟨_, rfl⟩
  rw [← hQ]
  refine j_lve (lv' := [(0, .ref a_this), (1, .int x1), (2, .ref a_out)]) rfl ?_
  refine j_aload_n X 2 dL_credit_0 rfl (q := 1) rfl ?_
  refine j_iconst (v := nI 0) X dL_credit_1 (by decide) (q := 2) rfl ?_
  refine j_aload_n X 0 dL_credit_2 rfl (q := 3) rfl ?_
  refine j_iload_n X 1 dL_credit_3 rfl (q := 4) rfl ?_
  refine j_callVi (As := [.int x1]) (rest := [.int (nI 0), .ref a_out]) (wn := fun _ => [(a_out, .inl (ct 3, 1, .inr (.inl g_out)))]) (wr := [(a_out, .inl (ct 3, 1, .inr (.inl g_out)))]) X (fun sz => c_X11_credit_1 l D ct ts a_this a_this_serverSide a_this_clientSide a_this_toServer a_this_toClient a_this_serverSide_agreement a_this_serverSide_in a_this_serverSide_out a_this_serverSide_tree a_this_serverSide_disk a_this_serverSide_numbers a_this_serverSide_answers a_this_serverSide_counts a_this_serverSide_costs a_this_serverSide_bytes v_connections v_serverSide_state v_serverSide_first v_serverSide_waiting v_serverSide_ungranted v_serverSide_answered x1 h_x h_st sz) cal_X11_credit 0 rfl rfl mw_H_2 cwi_X11_credit cws_X11_credit rfl ⟨by decide, by decide⟩ rfl rfl (Nat.le_of_ble_eq_true rfl) ⟨by decide, by decide⟩ [0, 1] [2] [0] rfl (by decide) rfl (by decide) (by decide) (fun _ => rfl) (by decide) dL_credit_4 (q := 7) rfl (fun r u hu => ?_)
  have hr : r = (f_X11_credit_1 ) := hu
  subst hr
  refine j_i2l X dL_credit_7 (q := 8) rfl ?_
  refine j_last (ws2 := [(a_out, .inl (ct 3, 1, .inr (.inl (vp_updL g_out 0 (Int32.toInt64 (f_X11_credit_1 ))))))]) X 0 rfl (vp_in_nI (by omega) (by omega)) dL_credit_8 rfl (q := 9) rfl ?_
  refine j_goto (tgt := 15) X dL_credit_9 (by decide) ?_
  refine j_iconst (v := nI 0) X dL_credit_15 (by decide) (q := 16) rfl ?_
  rw [hQ]
  exact j_iret X () dL_credit_16 rfl rfl
set_option maxHeartbeats 4000000 in
set_option maxRecDepth 100000 in
theorem c_L_credit_b (l : Launch) (D : va_G) (ct : Nat → ClassId) (ts : Nat → Nat) (hl : l.stackTraces = false) (a_this a_this_clientSide a_this_serverSide a_this_toServer a_this_toClient a_out : Nat) (v_connections : Int32) (x1 : Int32) (g_out : Nat → Int64) (h_b : x1 < 0 ∨ ¬ x1 ≤ nI 1) (sz : Nat) : Met l yL_credit (Cond.codeWith yL_credit cL_credit 4 (some .int) [(0, 9, 12, 19)] :: tb) { frames := 7, cells := 1, slots := 6, locals := 102 } (PcX D ct SXL ts [.ref a_this, .int x1, .ref a_out] [(a_this, .inr (11, [.ref a_this_clientSide, .ref a_this_serverSide, .ref a_this_toServer, .ref a_this_toClient, .int v_connections])), (a_out, .inl (ct 3, 1, .inr (.inl g_out)))] sz) (va_Qi (fun (r : Int32) (_ : Unit) => r = nI 1) (fun _ => BG D ct (va_A [(a_this, .inr (11, [.ref a_this_clientSide, .ref a_this_serverSide, .ref a_this_toServer, .ref a_this_toClient, .int v_connections])), (a_out, .inl (ct 3, 1, .inr (.inl g_out)))] sz) [(a_out, .inl (ct 3, 1, .inr (.inl g_out)))]) (va_A [(a_this, .inr (11, [.ref a_this_clientSide, .ref a_this_serverSide, .ref a_this_toServer, .ref a_this_toClient, .int v_connections])), (a_out, .inl (ct 3, 1, .inr (.inl g_out)))] sz)) 1 6 (va_A [(a_this, .inr (11, [.ref a_this_clientSide, .ref a_this_serverSide, .ref a_this_toServer, .ref a_this_toClient, .int v_connections])), (a_out, .inl (ct 3, 1, .inr (.inl g_out)))] sz) := by
  refine metH (l := l) (y := yL_credit) (cc := cL_credit) (maxL := 4) (ret := (some .int)) (hh := [(0, 9, 12, 19)]) (rm := { frames := 7, cells := 1, slots := 6, locals := 102 }) (D := D) (ct := ct) (L := SXL) (ts := ts) (av := [.ref a_this, .int x1, .ref a_out]) (ws := [(a_this, .inr (11, [.ref a_this_clientSide, .ref a_this_serverSide, .ref a_this_toServer, .ref a_this_toClient, .int v_connections])), (a_out, .inl (ct 3, 1, .inr (.inl g_out)))]) (sz := sz) (mc := 1) (ms := 6) (QcF := fun A => va_Qi (fun (r : Int32) (_ : Unit) => r = nI 1) (fun _ => BG D ct A [(a_out, .inl (ct 3, 1, .inr (.inl g_out)))]) A) (by decide) (Nat.le_of_ble_eq_true rfl) ?_
  intro p e s m below meth c A X hT htab
  obtain ⟨Q, hQ⟩ : ∃ Q, Q = MQ below (va_Qi (fun (r : Int32) (_ : Unit) => r = nI 1) (fun _ => BG D ct A [(a_out, .inl (ct 3, 1, .inr (.inl g_out)))]) A) [.ref a_this, .int x1, .ref a_out].toArray s 1 6 A := ⟨_, rfl⟩
  rw [← hQ]
  refine j_lve (lv' := [(0, .ref a_this), (1, .int x1), (2, .ref a_out)]) rfl ?_
  refine j_aload_n X 2 dL_credit_0 rfl (q := 1) rfl ?_
  refine j_iconst (v := nI 0) X dL_credit_1 (by decide) (q := 2) rfl ?_
  refine j_aload_n X 0 dL_credit_2 rfl (q := 3) rfl ?_
  refine j_iload_n X 1 dL_credit_3 rfl (q := 4) rfl ?_
  refine j_callVx (As := [.int x1]) (rest := [.int (nI 0), .ref a_out]) (wr := [(a_out, .inl (ct 3, 1, .inr (.inl g_out)))]) X hT (fun sz => c_X11_credit_b l D ct ts hl a_this a_this_clientSide a_this_serverSide a_this_toServer a_this_toClient v_connections x1 h_b sz) cal_X11_credit 0 rfl rfl mw_H_2 cwi_X11_credit cws_X11_credit rfl ⟨by decide, by decide⟩ rfl rfl (Nat.le_of_ble_eq_true rfl) ⟨by decide, by decide⟩ [0] [1] rfl (by decide) rfl (by decide) (by decide) dL_credit_4 (j_catchx X ⟨0, 9, 12, 19⟩ htab (by decide) (by decide) mw_H_1 hT.2.2.1 (fun q9 => ?_))
  refine j_pce (show _ = 12 from rfl) ?_
  refine j_astore_n (lv' := [(3, .ref q9), (0, .ref a_this), (1, .int x1), (2, .ref a_out)]) X dL_credit_12 (by decide) rfl (q := 13) rfl ?_
  refine j_iconst (v := nI 1) X dL_credit_13 (by decide) (q := 14) rfl ?_
  rw [hQ]
  exact j_iret X () dL_credit_14 rfl rfl
theorem dL_octet_0 : decode cL_octet 0 = .ok (.aload_n 3, 1) := by decide +kernel
theorem dL_octet_1 : decode cL_octet 1 = .ok (.iconst 0, 1) := by decide +kernel
theorem dL_octet_2 : decode cL_octet 2 = .ok (.aload_n 0, 1) := by decide +kernel
theorem dL_octet_3 : decode cL_octet 3 = .ok (.iload_n 1, 1) := by decide +kernel
theorem dL_octet_4 : decode cL_octet 4 = .ok (.iload_n 2, 1) := by decide +kernel
theorem dL_octet_5 : decode cL_octet 5 = .ok (.invokevirtual 28, 3) := by decide +kernel
theorem dL_octet_8 : decode cL_octet 8 = .ok (.i2l, 1) := by decide +kernel
theorem dL_octet_9 : decode cL_octet 9 = .ok (.lastore, 1) := by decide +kernel
theorem dL_octet_10 : decode cL_octet 10 = .ok (.goto 7, 3) := by decide +kernel
theorem dL_octet_13 : decode cL_octet 13 = .ok (.astore 4, 2) := by decide +kernel
theorem dL_octet_15 : decode cL_octet 15 = .ok (.iconst 1, 1) := by decide +kernel
theorem dL_octet_16 : decode cL_octet 16 = .ok (.ireturn, 1) := by decide +kernel
theorem dL_octet_17 : decode cL_octet 17 = .ok (.iconst 0, 1) := by decide +kernel
theorem dL_octet_18 : decode cL_octet 18 = .ok (.ireturn, 1) := by decide +kernel
theorem mw_H_3 : Cond.methodLink "GuardedTreeLaw" 28 yX11_octet ∈ tb := tb_at 836 (by decide +kernel) (by decide +kernel)
set_option maxHeartbeats 4000000 in
set_option maxRecDepth 100000 in
theorem c_L_octet (l : Launch) (D : va_G) (ct : Nat → ClassId) (ts : Nat → Nat) (hl : l.stackTraces = false) (a_this a_this_toServer a_this_clientSide a_this_serverSide a_this_toClient a_this_toServer_bytes a_out : Nat) (v_connections : Int32) (v_toServer_size : Nat) (x1 : Int32) (x2 : Int32) (g_out : Nat → Int64) (h_x : x1 = nI 0) (h_z : v_toServer_size = 0) (sz : Nat) : Met l yL_octet (Cond.codeWith yL_octet cL_octet 5 (some .int) [(0, 10, 13, 19)] :: tb) { frames := 7, cells := 1, slots := 6, locals := 104 } (PcX D ct SXL ts [.ref a_this, .int x1, .int x2, .ref a_out] [(a_this, .inr (11, [.ref a_this_clientSide, .ref a_this_serverSide, .ref a_this_toServer, .ref a_this_toClient, .int v_connections])), (a_this_toServer, .inr (6, [.ref a_this_toServer_bytes, .int (nI v_toServer_size)])), (a_out, .inl (ct 3, 1, .inr (.inl g_out)))] sz) (va_Qi (fun (r : Int32) (_ : Unit) => r = nI 1) (fun _ => BG D ct (va_A [(a_this, .inr (11, [.ref a_this_clientSide, .ref a_this_serverSide, .ref a_this_toServer, .ref a_this_toClient, .int v_connections])), (a_this_toServer, .inr (6, [.ref a_this_toServer_bytes, .int (nI v_toServer_size)])), (a_out, .inl (ct 3, 1, .inr (.inl g_out)))] sz) [(a_out, .inl (ct 3, 1, .inr (.inl g_out)))]) (va_A [(a_this, .inr (11, [.ref a_this_clientSide, .ref a_this_serverSide, .ref a_this_toServer, .ref a_this_toClient, .int v_connections])), (a_this_toServer, .inr (6, [.ref a_this_toServer_bytes, .int (nI v_toServer_size)])), (a_out, .inl (ct 3, 1, .inr (.inl g_out)))] sz)) 1 6 (va_A [(a_this, .inr (11, [.ref a_this_clientSide, .ref a_this_serverSide, .ref a_this_toServer, .ref a_this_toClient, .int v_connections])), (a_this_toServer, .inr (6, [.ref a_this_toServer_bytes, .int (nI v_toServer_size)])), (a_out, .inl (ct 3, 1, .inr (.inl g_out)))] sz) := by
  refine metH (l := l) (y := yL_octet) (cc := cL_octet) (maxL := 5) (ret := (some .int)) (hh := [(0, 10, 13, 19)]) (rm := { frames := 7, cells := 1, slots := 6, locals := 104 }) (D := D) (ct := ct) (L := SXL) (ts := ts) (av := [.ref a_this, .int x1, .int x2, .ref a_out]) (ws := [(a_this, .inr (11, [.ref a_this_clientSide, .ref a_this_serverSide, .ref a_this_toServer, .ref a_this_toClient, .int v_connections])), (a_this_toServer, .inr (6, [.ref a_this_toServer_bytes, .int (nI v_toServer_size)])), (a_out, .inl (ct 3, 1, .inr (.inl g_out)))]) (sz := sz) (mc := 1) (ms := 6) (QcF := fun A => va_Qi (fun (r : Int32) (_ : Unit) => r = nI 1) (fun _ => BG D ct A [(a_out, .inl (ct 3, 1, .inr (.inl g_out)))]) A) (by decide) (Nat.le_of_ble_eq_true rfl) ?_
  intro p e s m below meth c A X hT htab
  obtain ⟨Q, hQ⟩ : ∃ Q, Q = MQ below (va_Qi (fun (r : Int32) (_ : Unit) => r = nI 1) (fun _ => BG D ct A [(a_out, .inl (ct 3, 1, .inr (.inl g_out)))]) A) [.ref a_this, .int x1, .int x2, .ref a_out].toArray s 1 6 A := ⟨_, rfl⟩
  rw [← hQ]
  refine j_lve (lv' := [(0, .ref a_this), (1, .int x1), (2, .int x2), (3, .ref a_out)]) rfl ?_
  refine j_aload_n X 3 dL_octet_0 rfl (q := 1) rfl ?_
  refine j_iconst (v := nI 0) X dL_octet_1 (by decide) (q := 2) rfl ?_
  refine j_aload_n X 0 dL_octet_2 rfl (q := 3) rfl ?_
  refine j_iload_n X 1 dL_octet_3 rfl (q := 4) rfl ?_
  refine j_iload_n X 2 dL_octet_4 rfl (q := 5) rfl ?_
  refine j_callVx (As := [.int x1, .int x2]) (rest := [.int (nI 0), .ref a_out]) (wr := [(a_out, .inl (ct 3, 1, .inr (.inl g_out)))]) X hT (fun sz => c_X11_octet l D ct ts hl a_this a_this_toServer a_this_clientSide a_this_serverSide a_this_toClient a_this_toServer_bytes v_connections v_toServer_size x1 x2 h_x h_z sz) cal_X11_octet 0 rfl rfl mw_H_3 cwi_X11_octet cws_X11_octet rfl ⟨by decide, by decide⟩ rfl rfl (Nat.le_of_ble_eq_true rfl) ⟨by decide, by decide⟩ [0, 1] [2] rfl (by decide) rfl (by decide) (by decide) dL_octet_5 (j_catchx X ⟨0, 10, 13, 19⟩ htab (by decide) (by decide) mw_H_1 hT.2.2.1 (fun q9 => ?_))
  refine j_pce (show _ = 13 from rfl) ?_
  refine j_astore (lv' := [(4, .ref q9), (0, .ref a_this), (1, .int x1), (2, .int x2), (3, .ref a_out)]) X dL_octet_13 (by decide) rfl (q := 15) rfl ?_
  refine j_iconst (v := nI 1) X dL_octet_15 (by decide) (q := 16) rfl ?_
  rw [hQ]
  exact j_iret X () dL_octet_16 rfl rfl
theorem cal_L_octet : CalW yL_octet cL_octet 5 (some .int) [(0, 10, 13, 19)] 4 := ⟨tb_at 108 (by decide +kernel) (by decide +kernel), tb_at 835 (by decide +kernel) (by decide +kernel), by decide +kernel, by decide +kernel, by decide +kernel⟩
theorem cwt_L_octet : Cond.static yL_octet ∈ tb := tb_at 834 (by decide +kernel) (by decide +kernel)
set_option maxHeartbeats 4000000 in
set_option maxRecDepth 100000 in
theorem c_L_octet_1 (l : Launch) (D : va_G) (ct : Nat → ClassId) (ts : Nat → Nat) (hl : l.stackTraces = false) (a_this a_this_toClient a_this_clientSide a_this_serverSide a_this_toServer a_this_toClient_bytes a_out : Nat) (v_connections : Int32) (v_toClient_size : Nat) (x1 : Int32) (x2 : Int32) (g_out : Nat → Int64) (h_x : x1 = nI 1) (h_z : v_toClient_size = 0) (sz : Nat) : Met l yL_octet (Cond.codeWith yL_octet cL_octet 5 (some .int) [(0, 10, 13, 19)] :: tb) { frames := 7, cells := 1, slots := 6, locals := 104 } (PcX D ct SXL ts [.ref a_this, .int x1, .int x2, .ref a_out] [(a_this, .inr (11, [.ref a_this_clientSide, .ref a_this_serverSide, .ref a_this_toServer, .ref a_this_toClient, .int v_connections])), (a_this_toClient, .inr (6, [.ref a_this_toClient_bytes, .int (nI v_toClient_size)])), (a_out, .inl (ct 3, 1, .inr (.inl g_out)))] sz) (va_Qi (fun (r : Int32) (_ : Unit) => r = nI 1) (fun _ => BG D ct (va_A [(a_this, .inr (11, [.ref a_this_clientSide, .ref a_this_serverSide, .ref a_this_toServer, .ref a_this_toClient, .int v_connections])), (a_this_toClient, .inr (6, [.ref a_this_toClient_bytes, .int (nI v_toClient_size)])), (a_out, .inl (ct 3, 1, .inr (.inl g_out)))] sz) [(a_out, .inl (ct 3, 1, .inr (.inl g_out)))]) (va_A [(a_this, .inr (11, [.ref a_this_clientSide, .ref a_this_serverSide, .ref a_this_toServer, .ref a_this_toClient, .int v_connections])), (a_this_toClient, .inr (6, [.ref a_this_toClient_bytes, .int (nI v_toClient_size)])), (a_out, .inl (ct 3, 1, .inr (.inl g_out)))] sz)) 1 6 (va_A [(a_this, .inr (11, [.ref a_this_clientSide, .ref a_this_serverSide, .ref a_this_toServer, .ref a_this_toClient, .int v_connections])), (a_this_toClient, .inr (6, [.ref a_this_toClient_bytes, .int (nI v_toClient_size)])), (a_out, .inl (ct 3, 1, .inr (.inl g_out)))] sz) := by
  refine metH (l := l) (y := yL_octet) (cc := cL_octet) (maxL := 5) (ret := (some .int)) (hh := [(0, 10, 13, 19)]) (rm := { frames := 7, cells := 1, slots := 6, locals := 104 }) (D := D) (ct := ct) (L := SXL) (ts := ts) (av := [.ref a_this, .int x1, .int x2, .ref a_out]) (ws := [(a_this, .inr (11, [.ref a_this_clientSide, .ref a_this_serverSide, .ref a_this_toServer, .ref a_this_toClient, .int v_connections])), (a_this_toClient, .inr (6, [.ref a_this_toClient_bytes, .int (nI v_toClient_size)])), (a_out, .inl (ct 3, 1, .inr (.inl g_out)))]) (sz := sz) (mc := 1) (ms := 6) (QcF := fun A => va_Qi (fun (r : Int32) (_ : Unit) => r = nI 1) (fun _ => BG D ct A [(a_out, .inl (ct 3, 1, .inr (.inl g_out)))]) A) (by decide) (Nat.le_of_ble_eq_true rfl) ?_
  intro p e s m below meth c A X hT htab
  obtain ⟨Q, hQ⟩ : ∃ Q, Q = MQ below (va_Qi (fun (r : Int32) (_ : Unit) => r = nI 1) (fun _ => BG D ct A [(a_out, .inl (ct 3, 1, .inr (.inl g_out)))]) A) [.ref a_this, .int x1, .int x2, .ref a_out].toArray s 1 6 A := ⟨_, rfl⟩
  rw [← hQ]
  refine j_lve (lv' := [(0, .ref a_this), (1, .int x1), (2, .int x2), (3, .ref a_out)]) rfl ?_
  refine j_aload_n X 3 dL_octet_0 rfl (q := 1) rfl ?_
  refine j_iconst (v := nI 0) X dL_octet_1 (by decide) (q := 2) rfl ?_
  refine j_aload_n X 0 dL_octet_2 rfl (q := 3) rfl ?_
  refine j_iload_n X 1 dL_octet_3 rfl (q := 4) rfl ?_
  refine j_iload_n X 2 dL_octet_4 rfl (q := 5) rfl ?_
  refine j_callVx (As := [.int x1, .int x2]) (rest := [.int (nI 0), .ref a_out]) (wr := [(a_out, .inl (ct 3, 1, .inr (.inl g_out)))]) X hT (fun sz => c_X11_octet_1 l D ct ts hl a_this a_this_toClient a_this_clientSide a_this_serverSide a_this_toServer a_this_toClient_bytes v_connections v_toClient_size x1 x2 h_x h_z sz) cal_X11_octet 0 rfl rfl mw_H_3 cwi_X11_octet cws_X11_octet rfl ⟨by decide, by decide⟩ rfl rfl (Nat.le_of_ble_eq_true rfl) ⟨by decide, by decide⟩ [0, 1] [2] rfl (by decide) rfl (by decide) (by decide) dL_octet_5 (j_catchx X ⟨0, 10, 13, 19⟩ htab (by decide) (by decide) mw_H_1 hT.2.2.1 (fun q9 => ?_))
  refine j_pce (show _ = 13 from rfl) ?_
  refine j_astore (lv' := [(4, .ref q9), (0, .ref a_this), (1, .int x1), (2, .int x2), (3, .ref a_out)]) X dL_octet_13 (by decide) rfl (q := 15) rfl ?_
  refine j_iconst (v := nI 1) X dL_octet_15 (by decide) (q := 16) rfl ?_
  rw [hQ]
  exact j_iret X () dL_octet_16 rfl rfl
set_option maxHeartbeats 4000000 in
set_option maxRecDepth 100000 in
theorem c_L_octet_b (l : Launch) (D : va_G) (ct : Nat → ClassId) (ts : Nat → Nat) (hl : l.stackTraces = false) (a_this a_this_clientSide a_this_serverSide a_this_toServer a_this_toClient a_out : Nat) (v_connections : Int32) (x1 : Int32) (x2 : Int32) (g_out : Nat → Int64) (h_b : x1 < 0 ∨ ¬ x1 ≤ nI 1) (sz : Nat) : Met l yL_octet (Cond.codeWith yL_octet cL_octet 5 (some .int) [(0, 10, 13, 19)] :: tb) { frames := 8, cells := 1, slots := 6, locals := 125 } (PcX D ct SXL ts [.ref a_this, .int x1, .int x2, .ref a_out] [(a_this, .inr (11, [.ref a_this_clientSide, .ref a_this_serverSide, .ref a_this_toServer, .ref a_this_toClient, .int v_connections])), (a_out, .inl (ct 3, 1, .inr (.inl g_out)))] sz) (va_Qi (fun (r : Int32) (_ : Unit) => r = nI 1) (fun _ => BG D ct (va_A [(a_this, .inr (11, [.ref a_this_clientSide, .ref a_this_serverSide, .ref a_this_toServer, .ref a_this_toClient, .int v_connections])), (a_out, .inl (ct 3, 1, .inr (.inl g_out)))] sz) [(a_out, .inl (ct 3, 1, .inr (.inl g_out)))]) (va_A [(a_this, .inr (11, [.ref a_this_clientSide, .ref a_this_serverSide, .ref a_this_toServer, .ref a_this_toClient, .int v_connections])), (a_out, .inl (ct 3, 1, .inr (.inl g_out)))] sz)) 1 6 (va_A [(a_this, .inr (11, [.ref a_this_clientSide, .ref a_this_serverSide, .ref a_this_toServer, .ref a_this_toClient, .int v_connections])), (a_out, .inl (ct 3, 1, .inr (.inl g_out)))] sz) := by
  refine metH (l := l) (y := yL_octet) (cc := cL_octet) (maxL := 5) (ret := (some .int)) (hh := [(0, 10, 13, 19)]) (rm := { frames := 8, cells := 1, slots := 6, locals := 125 }) (D := D) (ct := ct) (L := SXL) (ts := ts) (av := [.ref a_this, .int x1, .int x2, .ref a_out]) (ws := [(a_this, .inr (11, [.ref a_this_clientSide, .ref a_this_serverSide, .ref a_this_toServer, .ref a_this_toClient, .int v_connections])), (a_out, .inl (ct 3, 1, .inr (.inl g_out)))]) (sz := sz) (mc := 1) (ms := 6) (QcF := fun A => va_Qi (fun (r : Int32) (_ : Unit) => r = nI 1) (fun _ => BG D ct A [(a_out, .inl (ct 3, 1, .inr (.inl g_out)))]) A) (by decide) (Nat.le_of_ble_eq_true rfl) ?_
  intro p e s m below meth c A X hT htab
  obtain ⟨Q, hQ⟩ : ∃ Q, Q = MQ below (va_Qi (fun (r : Int32) (_ : Unit) => r = nI 1) (fun _ => BG D ct A [(a_out, .inl (ct 3, 1, .inr (.inl g_out)))]) A) [.ref a_this, .int x1, .int x2, .ref a_out].toArray s 1 6 A := ⟨_, rfl⟩
  rw [← hQ]
  refine j_lve (lv' := [(0, .ref a_this), (1, .int x1), (2, .int x2), (3, .ref a_out)]) rfl ?_
  refine j_aload_n X 3 dL_octet_0 rfl (q := 1) rfl ?_
  refine j_iconst (v := nI 0) X dL_octet_1 (by decide) (q := 2) rfl ?_
  refine j_aload_n X 0 dL_octet_2 rfl (q := 3) rfl ?_
  refine j_iload_n X 1 dL_octet_3 rfl (q := 4) rfl ?_
  refine j_iload_n X 2 dL_octet_4 rfl (q := 5) rfl ?_
  refine j_callVx (As := [.int x1, .int x2]) (rest := [.int (nI 0), .ref a_out]) (wr := [(a_out, .inl (ct 3, 1, .inr (.inl g_out)))]) X hT (fun sz => c_X11_octet_b l D ct ts hl a_this a_this_clientSide a_this_serverSide a_this_toServer a_this_toClient v_connections x1 x2 h_b sz) cal_X11_octet 0 rfl rfl mw_H_3 cwi_X11_octet cws_X11_octet rfl ⟨by decide, by decide⟩ rfl rfl (Nat.le_of_ble_eq_true rfl) ⟨by decide, by decide⟩ [0] [1] rfl (by decide) rfl (by decide) (by decide) dL_octet_5 (j_catchx X ⟨0, 10, 13, 19⟩ htab (by decide) (by decide) mw_H_1 hT.2.2.1 (fun q9 => ?_))
  refine j_pce (show _ = 13 from rfl) ?_
  refine j_astore (lv' := [(4, .ref q9), (0, .ref a_this), (1, .int x1), (2, .int x2), (3, .ref a_out)]) X dL_octet_13 (by decide) rfl (q := 15) rfl ?_
  refine j_iconst (v := nI 1) X dL_octet_15 (by decide) (q := 16) rfl ?_
  rw [hQ]
  exact j_iret X () dL_octet_16 rfl rfl
theorem dL_alter_0 : decode cL_alter 0 = .ok (.aload_n 0, 1) := by decide +kernel
theorem dL_alter_1 : decode cL_alter 1 = .ok (.iload_n 1, 1) := by decide +kernel
theorem dL_alter_2 : decode cL_alter 2 = .ok (.iload_n 2, 1) := by decide +kernel
theorem dL_alter_3 : decode cL_alter 3 = .ok (.iload_n 3, 1) := by decide +kernel
theorem dL_alter_4 : decode cL_alter 4 = .ok (.invokevirtual 31, 3) := by decide +kernel
theorem dL_alter_7 : decode cL_alter 7 = .ok (.goto 7, 3) := by decide +kernel
theorem dL_alter_10 : decode cL_alter 10 = .ok (.astore 4, 2) := by decide +kernel
theorem dL_alter_12 : decode cL_alter 12 = .ok (.iconst 1, 1) := by decide +kernel
theorem dL_alter_13 : decode cL_alter 13 = .ok (.ireturn, 1) := by decide +kernel
theorem dL_alter_14 : decode cL_alter 14 = .ok (.iconst 0, 1) := by decide +kernel
theorem dL_alter_15 : decode cL_alter 15 = .ok (.ireturn, 1) := by decide +kernel
theorem mw_H_4 : Cond.methodLink "GuardedTreeLaw" 31 yX11_alter ∈ tb := tb_at 843 (by decide +kernel) (by decide +kernel)
set_option maxHeartbeats 4000000 in
set_option maxRecDepth 100000 in
theorem c_L_alter (l : Launch) (D : va_G) (ct : Nat → ClassId) (ts : Nat → Nat) (hl : l.stackTraces = false) (a_this a_this_toServer a_this_clientSide a_this_serverSide a_this_toClient a_this_toServer_bytes : Nat) (v_connections : Int32) (v_toServer_size : Nat) (x1 : Int32) (x2 : Int32) (x3 : Int32) (h_x : x1 = nI 0) (h_z : v_toServer_size = 0) (sz : Nat) : Met l yL_alter (Cond.codeWith yL_alter cL_alter 5 (some .int) [(0, 7, 10, 19)] :: tb) { frames := 7, cells := 1, slots := 6, locals := 105 } (PcX D ct SXL ts [.ref a_this, .int x1, .int x2, .int x3] [(a_this, .inr (11, [.ref a_this_clientSide, .ref a_this_serverSide, .ref a_this_toServer, .ref a_this_toClient, .int v_connections])), (a_this_toServer, .inr (6, [.ref a_this_toServer_bytes, .int (nI v_toServer_size)]))] sz) (va_Qi (fun (r : Int32) (_ : Unit) => r = nI 1) (fun _ => BG D ct (va_A [(a_this, .inr (11, [.ref a_this_clientSide, .ref a_this_serverSide, .ref a_this_toServer, .ref a_this_toClient, .int v_connections])), (a_this_toServer, .inr (6, [.ref a_this_toServer_bytes, .int (nI v_toServer_size)]))] sz) []) (va_A [(a_this, .inr (11, [.ref a_this_clientSide, .ref a_this_serverSide, .ref a_this_toServer, .ref a_this_toClient, .int v_connections])), (a_this_toServer, .inr (6, [.ref a_this_toServer_bytes, .int (nI v_toServer_size)]))] sz)) 1 6 (va_A [(a_this, .inr (11, [.ref a_this_clientSide, .ref a_this_serverSide, .ref a_this_toServer, .ref a_this_toClient, .int v_connections])), (a_this_toServer, .inr (6, [.ref a_this_toServer_bytes, .int (nI v_toServer_size)]))] sz) := by
  refine metH (l := l) (y := yL_alter) (cc := cL_alter) (maxL := 5) (ret := (some .int)) (hh := [(0, 7, 10, 19)]) (rm := { frames := 7, cells := 1, slots := 6, locals := 105 }) (D := D) (ct := ct) (L := SXL) (ts := ts) (av := [.ref a_this, .int x1, .int x2, .int x3]) (ws := [(a_this, .inr (11, [.ref a_this_clientSide, .ref a_this_serverSide, .ref a_this_toServer, .ref a_this_toClient, .int v_connections])), (a_this_toServer, .inr (6, [.ref a_this_toServer_bytes, .int (nI v_toServer_size)]))]) (sz := sz) (mc := 1) (ms := 6) (QcF := fun A => va_Qi (fun (r : Int32) (_ : Unit) => r = nI 1) (fun _ => BG D ct A []) A) (by decide) (Nat.le_of_ble_eq_true rfl) ?_
  intro p e s m below meth c A X hT htab
  obtain ⟨Q, hQ⟩ : ∃ Q, Q = MQ below (va_Qi (fun (r : Int32) (_ : Unit) => r = nI 1) (fun _ => BG D ct A []) A) [.ref a_this, .int x1, .int x2, .int x3].toArray s 1 6 A := ⟨_, rfl⟩
  rw [← hQ]
  refine j_lve (lv' := [(0, .ref a_this), (1, .int x1), (2, .int x2), (3, .int x3)]) rfl ?_
  refine j_aload_n X 0 dL_alter_0 rfl (q := 1) rfl ?_
  refine j_iload_n X 1 dL_alter_1 rfl (q := 2) rfl ?_
  refine j_iload_n X 2 dL_alter_2 rfl (q := 3) rfl ?_
  refine j_iload_n X 3 dL_alter_3 rfl (q := 4) rfl ?_
  refine j_callVx (As := [.int x1, .int x2, .int x3]) (rest := []) (wr := []) X hT (fun sz => c_X11_alter l D ct ts hl a_this a_this_toServer a_this_clientSide a_this_serverSide a_this_toClient a_this_toServer_bytes v_connections v_toServer_size x1 x2 x3 h_x h_z sz) cal_X11_alter 0 rfl rfl mw_H_4 cwi_X11_alter cws_X11_alter rfl ⟨by decide, by decide⟩ rfl rfl (Nat.le_of_ble_eq_true rfl) ⟨by decide, by decide⟩ [0, 1] [] rfl (by decide) rfl (by decide) (by decide) dL_alter_4 (j_catchx X ⟨0, 7, 10, 19⟩ htab (by decide) (by decide) mw_H_1 hT.2.2.1 (fun q9 => ?_))
  refine j_pce (show _ = 10 from rfl) ?_
  refine j_astore (lv' := [(4, .ref q9), (0, .ref a_this), (1, .int x1), (2, .int x2), (3, .int x3)]) X dL_alter_10 (by decide) rfl (q := 12) rfl ?_
  refine j_iconst (v := nI 1) X dL_alter_12 (by decide) (q := 13) rfl ?_
  rw [hQ]
  exact j_iret X () dL_alter_13 rfl rfl
theorem cal_L_alter : CalW yL_alter cL_alter 5 (some .int) [(0, 7, 10, 19)] 4 := ⟨tb_at 108 (by decide +kernel) (by decide +kernel), tb_at 842 (by decide +kernel) (by decide +kernel), by decide +kernel, by decide +kernel, by decide +kernel⟩
theorem cwt_L_alter : Cond.static yL_alter ∈ tb := tb_at 841 (by decide +kernel) (by decide +kernel)
set_option maxHeartbeats 4000000 in
set_option maxRecDepth 100000 in
theorem c_L_alter_1 (l : Launch) (D : va_G) (ct : Nat → ClassId) (ts : Nat → Nat) (hl : l.stackTraces = false) (a_this a_this_toClient a_this_clientSide a_this_serverSide a_this_toServer a_this_toClient_bytes : Nat) (v_connections : Int32) (v_toClient_size : Nat) (x1 : Int32) (x2 : Int32) (x3 : Int32) (h_x : x1 = nI 1) (h_z : v_toClient_size = 0) (sz : Nat) : Met l yL_alter (Cond.codeWith yL_alter cL_alter 5 (some .int) [(0, 7, 10, 19)] :: tb) { frames := 7, cells := 1, slots := 6, locals := 105 } (PcX D ct SXL ts [.ref a_this, .int x1, .int x2, .int x3] [(a_this, .inr (11, [.ref a_this_clientSide, .ref a_this_serverSide, .ref a_this_toServer, .ref a_this_toClient, .int v_connections])), (a_this_toClient, .inr (6, [.ref a_this_toClient_bytes, .int (nI v_toClient_size)]))] sz) (va_Qi (fun (r : Int32) (_ : Unit) => r = nI 1) (fun _ => BG D ct (va_A [(a_this, .inr (11, [.ref a_this_clientSide, .ref a_this_serverSide, .ref a_this_toServer, .ref a_this_toClient, .int v_connections])), (a_this_toClient, .inr (6, [.ref a_this_toClient_bytes, .int (nI v_toClient_size)]))] sz) []) (va_A [(a_this, .inr (11, [.ref a_this_clientSide, .ref a_this_serverSide, .ref a_this_toServer, .ref a_this_toClient, .int v_connections])), (a_this_toClient, .inr (6, [.ref a_this_toClient_bytes, .int (nI v_toClient_size)]))] sz)) 1 6 (va_A [(a_this, .inr (11, [.ref a_this_clientSide, .ref a_this_serverSide, .ref a_this_toServer, .ref a_this_toClient, .int v_connections])), (a_this_toClient, .inr (6, [.ref a_this_toClient_bytes, .int (nI v_toClient_size)]))] sz) := by
  refine metH (l := l) (y := yL_alter) (cc := cL_alter) (maxL := 5) (ret := (some .int)) (hh := [(0, 7, 10, 19)]) (rm := { frames := 7, cells := 1, slots := 6, locals := 105 }) (D := D) (ct := ct) (L := SXL) (ts := ts) (av := [.ref a_this, .int x1, .int x2, .int x3]) (ws := [(a_this, .inr (11, [.ref a_this_clientSide, .ref a_this_serverSide, .ref a_this_toServer, .ref a_this_toClient, .int v_connections])), (a_this_toClient, .inr (6, [.ref a_this_toClient_bytes, .int (nI v_toClient_size)]))]) (sz := sz) (mc := 1) (ms := 6) (QcF := fun A => va_Qi (fun (r : Int32) (_ : Unit) => r = nI 1) (fun _ => BG D ct A []) A) (by decide) (Nat.le_of_ble_eq_true rfl) ?_
  intro p e s m below meth c A X hT htab
  obtain ⟨Q, hQ⟩ : ∃ Q, Q = MQ below (va_Qi (fun (r : Int32) (_ : Unit) => r = nI 1) (fun _ => BG D ct A []) A) [.ref a_this, .int x1, .int x2, .int x3].toArray s 1 6 A := ⟨_, rfl⟩
  rw [← hQ]
  refine j_lve (lv' := [(0, .ref a_this), (1, .int x1), (2, .int x2), (3, .int x3)]) rfl ?_
  refine j_aload_n X 0 dL_alter_0 rfl (q := 1) rfl ?_
  refine j_iload_n X 1 dL_alter_1 rfl (q := 2) rfl ?_
  refine j_iload_n X 2 dL_alter_2 rfl (q := 3) rfl ?_
  refine j_iload_n X 3 dL_alter_3 rfl (q := 4) rfl ?_
  refine j_callVx (As := [.int x1, .int x2, .int x3]) (rest := []) (wr := []) X hT (fun sz => c_X11_alter_1 l D ct ts hl a_this a_this_toClient a_this_clientSide a_this_serverSide a_this_toServer a_this_toClient_bytes v_connections v_toClient_size x1 x2 x3 h_x h_z sz) cal_X11_alter 0 rfl rfl mw_H_4 cwi_X11_alter cws_X11_alter rfl ⟨by decide, by decide⟩ rfl rfl (Nat.le_of_ble_eq_true rfl) ⟨by decide, by decide⟩ [0, 1] [] rfl (by decide) rfl (by decide) (by decide) dL_alter_4 (j_catchx X ⟨0, 7, 10, 19⟩ htab (by decide) (by decide) mw_H_1 hT.2.2.1 (fun q9 => ?_))
  refine j_pce (show _ = 10 from rfl) ?_
  refine j_astore (lv' := [(4, .ref q9), (0, .ref a_this), (1, .int x1), (2, .int x2), (3, .int x3)]) X dL_alter_10 (by decide) rfl (q := 12) rfl ?_
  refine j_iconst (v := nI 1) X dL_alter_12 (by decide) (q := 13) rfl ?_
  rw [hQ]
  exact j_iret X () dL_alter_13 rfl rfl
set_option maxHeartbeats 4000000 in
set_option maxRecDepth 100000 in
theorem c_L_alter_b (l : Launch) (D : va_G) (ct : Nat → ClassId) (ts : Nat → Nat) (hl : l.stackTraces = false) (a_this a_this_clientSide a_this_serverSide a_this_toServer a_this_toClient : Nat) (v_connections : Int32) (x1 : Int32) (x2 : Int32) (x3 : Int32) (h_b : x1 < 0 ∨ ¬ x1 ≤ nI 1) (sz : Nat) : Met l yL_alter (Cond.codeWith yL_alter cL_alter 5 (some .int) [(0, 7, 10, 19)] :: tb) { frames := 8, cells := 1, slots := 6, locals := 126 } (PcX D ct SXL ts [.ref a_this, .int x1, .int x2, .int x3] [(a_this, .inr (11, [.ref a_this_clientSide, .ref a_this_serverSide, .ref a_this_toServer, .ref a_this_toClient, .int v_connections]))] sz) (va_Qi (fun (r : Int32) (_ : Unit) => r = nI 1) (fun _ => BG D ct (va_A [(a_this, .inr (11, [.ref a_this_clientSide, .ref a_this_serverSide, .ref a_this_toServer, .ref a_this_toClient, .int v_connections]))] sz) []) (va_A [(a_this, .inr (11, [.ref a_this_clientSide, .ref a_this_serverSide, .ref a_this_toServer, .ref a_this_toClient, .int v_connections]))] sz)) 1 6 (va_A [(a_this, .inr (11, [.ref a_this_clientSide, .ref a_this_serverSide, .ref a_this_toServer, .ref a_this_toClient, .int v_connections]))] sz) := by
  refine metH (l := l) (y := yL_alter) (cc := cL_alter) (maxL := 5) (ret := (some .int)) (hh := [(0, 7, 10, 19)]) (rm := { frames := 8, cells := 1, slots := 6, locals := 126 }) (D := D) (ct := ct) (L := SXL) (ts := ts) (av := [.ref a_this, .int x1, .int x2, .int x3]) (ws := [(a_this, .inr (11, [.ref a_this_clientSide, .ref a_this_serverSide, .ref a_this_toServer, .ref a_this_toClient, .int v_connections]))]) (sz := sz) (mc := 1) (ms := 6) (QcF := fun A => va_Qi (fun (r : Int32) (_ : Unit) => r = nI 1) (fun _ => BG D ct A []) A) (by decide) (Nat.le_of_ble_eq_true rfl) ?_
  intro p e s m below meth c A X hT htab
  obtain ⟨Q, hQ⟩ : ∃ Q, Q = MQ below (va_Qi (fun (r : Int32) (_ : Unit) => r = nI 1) (fun _ => BG D ct A []) A) [.ref a_this, .int x1, .int x2, .int x3].toArray s 1 6 A := ⟨_, rfl⟩
  rw [← hQ]
  refine j_lve (lv' := [(0, .ref a_this), (1, .int x1), (2, .int x2), (3, .int x3)]) rfl ?_
  refine j_aload_n X 0 dL_alter_0 rfl (q := 1) rfl ?_
  refine j_iload_n X 1 dL_alter_1 rfl (q := 2) rfl ?_
  refine j_iload_n X 2 dL_alter_2 rfl (q := 3) rfl ?_
  refine j_iload_n X 3 dL_alter_3 rfl (q := 4) rfl ?_
  refine j_callVx (As := [.int x1, .int x2, .int x3]) (rest := []) (wr := []) X hT (fun sz => c_X11_alter_b l D ct ts hl a_this a_this_clientSide a_this_serverSide a_this_toServer a_this_toClient v_connections x1 x2 x3 h_b sz) cal_X11_alter 0 rfl rfl mw_H_4 cwi_X11_alter cws_X11_alter rfl ⟨by decide, by decide⟩ rfl rfl (Nat.le_of_ble_eq_true rfl) ⟨by decide, by decide⟩ [0] [] rfl (by decide) rfl (by decide) (by decide) dL_alter_4 (j_catchx X ⟨0, 7, 10, 19⟩ htab (by decide) (by decide) mw_H_1 hT.2.2.1 (fun q9 => ?_))
  refine j_pce (show _ = 10 from rfl) ?_
  refine j_astore (lv' := [(4, .ref q9), (0, .ref a_this), (1, .int x1), (2, .int x2), (3, .int x3)]) X dL_alter_10 (by decide) rfl (q := 12) rfl ?_
  refine j_iconst (v := nI 1) X dL_alter_12 (by decide) (q := 13) rfl ?_
  rw [hQ]
  exact j_iret X () dL_alter_13 rfl rfl
theorem dL_move_0 : decode cL_move 0 = .ok (.aload_n 3, 1) := by decide +kernel
theorem dL_move_1 : decode cL_move 1 = .ok (.iconst 0, 1) := by decide +kernel
theorem dL_move_2 : decode cL_move 2 = .ok (.aload_n 0, 1) := by decide +kernel
theorem dL_move_3 : decode cL_move 3 = .ok (.iload_n 1, 1) := by decide +kernel
theorem dL_move_4 : decode cL_move 4 = .ok (.iload_n 2, 1) := by decide +kernel
theorem dL_move_5 : decode cL_move 5 = .ok (.invokevirtual 35, 3) := by decide +kernel
theorem dL_move_8 : decode cL_move 8 = .ok (.i2l, 1) := by decide +kernel
theorem dL_move_9 : decode cL_move 9 = .ok (.lastore, 1) := by decide +kernel
theorem dL_move_10 : decode cL_move 10 = .ok (.goto 7, 3) := by decide +kernel
theorem dL_move_13 : decode cL_move 13 = .ok (.astore 4, 2) := by decide +kernel
theorem dL_move_15 : decode cL_move 15 = .ok (.iconst 1, 1) := by decide +kernel
theorem dL_move_16 : decode cL_move 16 = .ok (.ireturn, 1) := by decide +kernel
theorem dL_move_17 : decode cL_move 17 = .ok (.iconst 0, 1) := by decide +kernel
theorem dL_move_18 : decode cL_move 18 = .ok (.ireturn, 1) := by decide +kernel
theorem mw_H_5 : Cond.methodLink "GuardedTreeLaw" 35 yX11_move ∈ tb := tb_at 850 (by decide +kernel) (by decide +kernel)
set_option maxHeartbeats 4000000 in
set_option maxRecDepth 100000 in
theorem c_L_move (l : Launch) (D : va_G) (ct : Nat → ClassId) (ts : Nat → Nat) (a_this a_this_toServer a_this_toServer_bytes a_this_clientSide a_this_serverSide a_this_toClient a_out : Nat) (v_connections : Int32) (v_toServer_size : Nat) (f_toServer_bytes : Nat → Int32) (x1 : Int32) (x2 : Int32) (g_out : Nat → Int64) (h_x : x1 = nI 0) (h_z : v_toServer_size = 0) (sz : Nat) : Met l yL_move (Cond.codeWith yL_move cL_move 5 (some .int) [(0, 10, 13, 19)] :: tb) { frames := 2, cells := 0, slots := 0, locals := 47 } (PcX D ct SXL ts [.ref a_this, .int x1, .int x2, .ref a_out] [(a_this, .inr (11, [.ref a_this_clientSide, .ref a_this_serverSide, .ref a_this_toServer, .ref a_this_toClient, .int v_connections])), (a_this_toServer, .inr (6, [.ref a_this_toServer_bytes, .int (nI v_toServer_size)])), (a_this_toServer_bytes, .inl (ct 1, 3160, .inl f_toServer_bytes)), (a_out, .inl (ct 3, 1, .inr (.inl g_out)))] sz) (va_Qi (fun (r : Int32) (_ : Unit) => r = nI 0) (fun _ => BG D ct (va_A [(a_this, .inr (11, [.ref a_this_clientSide, .ref a_this_serverSide, .ref a_this_toServer, .ref a_this_toClient, .int v_connections])), (a_this_toServer, .inr (6, [.ref a_this_toServer_bytes, .int (nI v_toServer_size)])), (a_this_toServer_bytes, .inl (ct 1, 3160, .inl f_toServer_bytes)), (a_out, .inl (ct 3, 1, .inr (.inl g_out)))] sz) [(a_out, .inl (ct 3, 1, .inr (.inl (vp_updL g_out 0 (Int32.toInt64 (f_X11_move v_toServer_size f_toServer_bytes x2).1)))))]) (va_A [(a_this, .inr (11, [.ref a_this_clientSide, .ref a_this_serverSide, .ref a_this_toServer, .ref a_this_toClient, .int v_connections])), (a_this_toServer, .inr (6, [.ref a_this_toServer_bytes, .int (nI v_toServer_size)])), (a_this_toServer_bytes, .inl (ct 1, 3160, .inl f_toServer_bytes)), (a_out, .inl (ct 3, 1, .inr (.inl g_out)))] sz)) 0 0 (va_A [(a_this, .inr (11, [.ref a_this_clientSide, .ref a_this_serverSide, .ref a_this_toServer, .ref a_this_toClient, .int v_connections])), (a_this_toServer, .inr (6, [.ref a_this_toServer_bytes, .int (nI v_toServer_size)])), (a_this_toServer_bytes, .inl (ct 1, 3160, .inl f_toServer_bytes)), (a_out, .inl (ct 3, 1, .inr (.inl g_out)))] sz) := by
  refine metH (l := l) (y := yL_move) (cc := cL_move) (maxL := 5) (ret := (some .int)) (hh := [(0, 10, 13, 19)]) (rm := { frames := 2, cells := 0, slots := 0, locals := 47 }) (D := D) (ct := ct) (L := SXL) (ts := ts) (av := [.ref a_this, .int x1, .int x2, .ref a_out]) (ws := [(a_this, .inr (11, [.ref a_this_clientSide, .ref a_this_serverSide, .ref a_this_toServer, .ref a_this_toClient, .int v_connections])), (a_this_toServer, .inr (6, [.ref a_this_toServer_bytes, .int (nI v_toServer_size)])), (a_this_toServer_bytes, .inl (ct 1, 3160, .inl f_toServer_bytes)), (a_out, .inl (ct 3, 1, .inr (.inl g_out)))]) (sz := sz) (mc := 0) (ms := 0) (QcF := fun A => va_Qi (fun (r : Int32) (_ : Unit) => r = nI 0) (fun _ => BG D ct A [(a_out, .inl (ct 3, 1, .inr (.inl (vp_updL g_out 0 (Int32.toInt64 (f_X11_move v_toServer_size f_toServer_bytes x2).1)))))]) A) (by decide) (Nat.le_of_ble_eq_true rfl) ?_
  intro p e s m below meth c A X hT htab
  obtain ⟨Q, hQ⟩ : ∃ Q, Q = MQ below (va_Qi (fun (r : Int32) (_ : Unit) => r = nI 0) (fun _ => BG D ct A [(a_out, .inl (ct 3, 1, .inr (.inl (vp_updL g_out 0 (Int32.toInt64 (f_X11_move v_toServer_size f_toServer_bytes x2).1)))))]) A) [.ref a_this, .int x1, .int x2, .ref a_out].toArray s 0 0 A := ⟨_, rfl⟩
  rw [← hQ]
  refine j_lve (lv' := [(0, .ref a_this), (1, .int x1), (2, .int x2), (3, .ref a_out)]) rfl ?_
  refine j_aload_n X 3 dL_move_0 rfl (q := 1) rfl ?_
  refine j_iconst (v := nI 0) X dL_move_1 (by decide) (q := 2) rfl ?_
  refine j_aload_n X 0 dL_move_2 rfl (q := 3) rfl ?_
  refine j_iload_n X 1 dL_move_3 rfl (q := 4) rfl ?_
  refine j_iload_n X 2 dL_move_4 rfl (q := 5) rfl ?_
  refine j_callVi (As := [.int x1, .int x2]) (rest := [.int (nI 0), .ref a_out]) (wn := fun _ => [(a_out, .inl (ct 3, 1, .inr (.inl g_out)))]) (wr := [(a_out, .inl (ct 3, 1, .inr (.inl g_out)))]) X (fun sz => c_X11_move l D ct ts a_this a_this_toServer a_this_toServer_bytes a_this_clientSide a_this_serverSide a_this_toClient v_connections v_toServer_size f_toServer_bytes x1 x2 h_x h_z sz) cal_X11_move 0 rfl rfl mw_H_5 cwi_X11_move cws_X11_move rfl ⟨by decide, by decide⟩ rfl rfl (Nat.le_of_ble_eq_true rfl) ⟨by decide, by decide⟩ [0, 1, 2] [3] [0] rfl (by decide) rfl (by decide) (by decide) (fun _ => rfl) (by decide) dL_move_5 (q := 8) rfl (fun r u hu => ?_)
  have hr : r = (f_X11_move v_toServer_size f_toServer_bytes x2).1 := congrArg Prod.fst hu
  subst hr
  refine j_i2l X dL_move_8 (q := 9) rfl ?_
  refine j_last (ws2 := [(a_out, .inl (ct 3, 1, .inr (.inl (vp_updL g_out 0 (Int32.toInt64 (f_X11_move v_toServer_size f_toServer_bytes x2).1)))))]) X 0 rfl (vp_in_nI (by omega) (by omega)) dL_move_9 rfl (q := 10) rfl ?_
  refine j_goto (tgt := 17) X dL_move_10 (by decide) ?_
  refine j_iconst (v := nI 0) X dL_move_17 (by decide) (q := 18) rfl ?_
  rw [hQ]
  exact j_iret X () dL_move_18 rfl rfl
theorem cal_L_move : CalW yL_move cL_move 5 (some .int) [(0, 10, 13, 19)] 4 := ⟨tb_at 108 (by decide +kernel) (by decide +kernel), tb_at 849 (by decide +kernel) (by decide +kernel), by decide +kernel, by decide +kernel, by decide +kernel⟩
theorem cwt_L_move : Cond.static yL_move ∈ tb := tb_at 848 (by decide +kernel) (by decide +kernel)
set_option maxHeartbeats 4000000 in
set_option maxRecDepth 100000 in
theorem c_L_move_1 (l : Launch) (D : va_G) (ct : Nat → ClassId) (ts : Nat → Nat) (a_this a_this_toClient a_this_toClient_bytes a_this_clientSide a_this_serverSide a_this_toServer a_out : Nat) (v_connections : Int32) (v_toClient_size : Nat) (f_toClient_bytes : Nat → Int32) (x1 : Int32) (x2 : Int32) (g_out : Nat → Int64) (h_x : x1 = nI 1) (h_z : v_toClient_size = 0) (sz : Nat) : Met l yL_move (Cond.codeWith yL_move cL_move 5 (some .int) [(0, 10, 13, 19)] :: tb) { frames := 2, cells := 0, slots := 0, locals := 47 } (PcX D ct SXL ts [.ref a_this, .int x1, .int x2, .ref a_out] [(a_this, .inr (11, [.ref a_this_clientSide, .ref a_this_serverSide, .ref a_this_toServer, .ref a_this_toClient, .int v_connections])), (a_this_toClient, .inr (6, [.ref a_this_toClient_bytes, .int (nI v_toClient_size)])), (a_this_toClient_bytes, .inl (ct 1, 3160, .inl f_toClient_bytes)), (a_out, .inl (ct 3, 1, .inr (.inl g_out)))] sz) (va_Qi (fun (r : Int32) (_ : Unit) => r = nI 0) (fun _ => BG D ct (va_A [(a_this, .inr (11, [.ref a_this_clientSide, .ref a_this_serverSide, .ref a_this_toServer, .ref a_this_toClient, .int v_connections])), (a_this_toClient, .inr (6, [.ref a_this_toClient_bytes, .int (nI v_toClient_size)])), (a_this_toClient_bytes, .inl (ct 1, 3160, .inl f_toClient_bytes)), (a_out, .inl (ct 3, 1, .inr (.inl g_out)))] sz) [(a_out, .inl (ct 3, 1, .inr (.inl (vp_updL g_out 0 (Int32.toInt64 (f_X11_move_1 v_toClient_size f_toClient_bytes x2).1)))))]) (va_A [(a_this, .inr (11, [.ref a_this_clientSide, .ref a_this_serverSide, .ref a_this_toServer, .ref a_this_toClient, .int v_connections])), (a_this_toClient, .inr (6, [.ref a_this_toClient_bytes, .int (nI v_toClient_size)])), (a_this_toClient_bytes, .inl (ct 1, 3160, .inl f_toClient_bytes)), (a_out, .inl (ct 3, 1, .inr (.inl g_out)))] sz)) 0 0 (va_A [(a_this, .inr (11, [.ref a_this_clientSide, .ref a_this_serverSide, .ref a_this_toServer, .ref a_this_toClient, .int v_connections])), (a_this_toClient, .inr (6, [.ref a_this_toClient_bytes, .int (nI v_toClient_size)])), (a_this_toClient_bytes, .inl (ct 1, 3160, .inl f_toClient_bytes)), (a_out, .inl (ct 3, 1, .inr (.inl g_out)))] sz) := by
  refine metH (l := l) (y := yL_move) (cc := cL_move) (maxL := 5) (ret := (some .int)) (hh := [(0, 10, 13, 19)]) (rm := { frames := 2, cells := 0, slots := 0, locals := 47 }) (D := D) (ct := ct) (L := SXL) (ts := ts) (av := [.ref a_this, .int x1, .int x2, .ref a_out]) (ws := [(a_this, .inr (11, [.ref a_this_clientSide, .ref a_this_serverSide, .ref a_this_toServer, .ref a_this_toClient, .int v_connections])), (a_this_toClient, .inr (6, [.ref a_this_toClient_bytes, .int (nI v_toClient_size)])), (a_this_toClient_bytes, .inl (ct 1, 3160, .inl f_toClient_bytes)), (a_out, .inl (ct 3, 1, .inr (.inl g_out)))]) (sz := sz) (mc := 0) (ms := 0) (QcF := fun A => va_Qi (fun (r : Int32) (_ : Unit) => r = nI 0) (fun _ => BG D ct A [(a_out, .inl (ct 3, 1, .inr (.inl (vp_updL g_out 0 (Int32.toInt64 (f_X11_move_1 v_toClient_size f_toClient_bytes x2).1)))))]) A) (by decide) (Nat.le_of_ble_eq_true rfl) ?_
  intro p e s m below meth c A X hT htab
  obtain ⟨Q, hQ⟩ : ∃ Q, Q = MQ below (va_Qi (fun (r : Int32) (_ : Unit) => r = nI 0) (fun _ => BG D ct A [(a_out, .inl (ct 3, 1, .inr (.inl (vp_updL g_out 0 (Int32.toInt64 (f_X11_move_1 v_toClient_size f_toClient_bytes x2).1)))))]) A) [.ref a_this, .int x1, .int x2, .ref a_out].toArray s 0 0 A := ⟨_, rfl⟩
  rw [← hQ]
  refine j_lve (lv' := [(0, .ref a_this), (1, .int x1), (2, .int x2), (3, .ref a_out)]) rfl ?_
  refine j_aload_n X 3 dL_move_0 rfl (q := 1) rfl ?_
  refine j_iconst (v := nI 0) X dL_move_1 (by decide) (q := 2) rfl ?_
  refine j_aload_n X 0 dL_move_2 rfl (q := 3) rfl ?_
  refine j_iload_n X 1 dL_move_3 rfl (q := 4) rfl ?_
  refine j_iload_n X 2 dL_move_4 rfl (q := 5) rfl ?_
  refine j_callVi (As := [.int x1, .int x2]) (rest := [.int (nI 0), .ref a_out]) (wn := fun _ => [(a_out, .inl (ct 3, 1, .inr (.inl g_out)))]) (wr := [(a_out, .inl (ct 3, 1, .inr (.inl g_out)))]) X (fun sz => c_X11_move_1 l D ct ts a_this a_this_toClient a_this_toClient_bytes a_this_clientSide a_this_serverSide a_this_toServer v_connections v_toClient_size f_toClient_bytes x1 x2 h_x h_z sz) cal_X11_move 0 rfl rfl mw_H_5 cwi_X11_move cws_X11_move rfl ⟨by decide, by decide⟩ rfl rfl (Nat.le_of_ble_eq_true rfl) ⟨by decide, by decide⟩ [0, 1, 2] [3] [0] rfl (by decide) rfl (by decide) (by decide) (fun _ => rfl) (by decide) dL_move_5 (q := 8) rfl (fun r u hu => ?_)
  have hr : r = (f_X11_move_1 v_toClient_size f_toClient_bytes x2).1 := congrArg Prod.fst hu
  subst hr
  refine j_i2l X dL_move_8 (q := 9) rfl ?_
  refine j_last (ws2 := [(a_out, .inl (ct 3, 1, .inr (.inl (vp_updL g_out 0 (Int32.toInt64 (f_X11_move_1 v_toClient_size f_toClient_bytes x2).1)))))]) X 0 rfl (vp_in_nI (by omega) (by omega)) dL_move_9 rfl (q := 10) rfl ?_
  refine j_goto (tgt := 17) X dL_move_10 (by decide) ?_
  refine j_iconst (v := nI 0) X dL_move_17 (by decide) (q := 18) rfl ?_
  rw [hQ]
  exact j_iret X () dL_move_18 rfl rfl
set_option maxHeartbeats 4000000 in
set_option maxRecDepth 100000 in
theorem c_L_move_b (l : Launch) (D : va_G) (ct : Nat → ClassId) (ts : Nat → Nat) (hl : l.stackTraces = false) (a_this a_this_clientSide a_this_serverSide a_this_toServer a_this_toClient a_out : Nat) (v_connections : Int32) (x1 : Int32) (x2 : Int32) (g_out : Nat → Int64) (h_b : x1 < 0 ∨ ¬ x1 ≤ nI 1) (sz : Nat) : Met l yL_move (Cond.codeWith yL_move cL_move 5 (some .int) [(0, 10, 13, 19)] :: tb) { frames := 8, cells := 1, slots := 6, locals := 127 } (PcX D ct SXL ts [.ref a_this, .int x1, .int x2, .ref a_out] [(a_this, .inr (11, [.ref a_this_clientSide, .ref a_this_serverSide, .ref a_this_toServer, .ref a_this_toClient, .int v_connections])), (a_out, .inl (ct 3, 1, .inr (.inl g_out)))] sz) (va_Qi (fun (r : Int32) (_ : Unit) => r = nI 1) (fun _ => BG D ct (va_A [(a_this, .inr (11, [.ref a_this_clientSide, .ref a_this_serverSide, .ref a_this_toServer, .ref a_this_toClient, .int v_connections])), (a_out, .inl (ct 3, 1, .inr (.inl g_out)))] sz) [(a_out, .inl (ct 3, 1, .inr (.inl g_out)))]) (va_A [(a_this, .inr (11, [.ref a_this_clientSide, .ref a_this_serverSide, .ref a_this_toServer, .ref a_this_toClient, .int v_connections])), (a_out, .inl (ct 3, 1, .inr (.inl g_out)))] sz)) 1 6 (va_A [(a_this, .inr (11, [.ref a_this_clientSide, .ref a_this_serverSide, .ref a_this_toServer, .ref a_this_toClient, .int v_connections])), (a_out, .inl (ct 3, 1, .inr (.inl g_out)))] sz) := by
  refine metH (l := l) (y := yL_move) (cc := cL_move) (maxL := 5) (ret := (some .int)) (hh := [(0, 10, 13, 19)]) (rm := { frames := 8, cells := 1, slots := 6, locals := 127 }) (D := D) (ct := ct) (L := SXL) (ts := ts) (av := [.ref a_this, .int x1, .int x2, .ref a_out]) (ws := [(a_this, .inr (11, [.ref a_this_clientSide, .ref a_this_serverSide, .ref a_this_toServer, .ref a_this_toClient, .int v_connections])), (a_out, .inl (ct 3, 1, .inr (.inl g_out)))]) (sz := sz) (mc := 1) (ms := 6) (QcF := fun A => va_Qi (fun (r : Int32) (_ : Unit) => r = nI 1) (fun _ => BG D ct A [(a_out, .inl (ct 3, 1, .inr (.inl g_out)))]) A) (by decide) (Nat.le_of_ble_eq_true rfl) ?_
  intro p e s m below meth c A X hT htab
  obtain ⟨Q, hQ⟩ : ∃ Q, Q = MQ below (va_Qi (fun (r : Int32) (_ : Unit) => r = nI 1) (fun _ => BG D ct A [(a_out, .inl (ct 3, 1, .inr (.inl g_out)))]) A) [.ref a_this, .int x1, .int x2, .ref a_out].toArray s 1 6 A := ⟨_, rfl⟩
  rw [← hQ]
  refine j_lve (lv' := [(0, .ref a_this), (1, .int x1), (2, .int x2), (3, .ref a_out)]) rfl ?_
  refine j_aload_n X 3 dL_move_0 rfl (q := 1) rfl ?_
  refine j_iconst (v := nI 0) X dL_move_1 (by decide) (q := 2) rfl ?_
  refine j_aload_n X 0 dL_move_2 rfl (q := 3) rfl ?_
  refine j_iload_n X 1 dL_move_3 rfl (q := 4) rfl ?_
  refine j_iload_n X 2 dL_move_4 rfl (q := 5) rfl ?_
  refine j_callVx (As := [.int x1, .int x2]) (rest := [.int (nI 0), .ref a_out]) (wr := [(a_out, .inl (ct 3, 1, .inr (.inl g_out)))]) X hT (fun sz => c_X11_move_b l D ct ts hl a_this a_this_clientSide a_this_serverSide a_this_toServer a_this_toClient v_connections x1 x2 h_b sz) cal_X11_move 0 rfl rfl mw_H_5 cwi_X11_move cws_X11_move rfl ⟨by decide, by decide⟩ rfl rfl (Nat.le_of_ble_eq_true rfl) ⟨by decide, by decide⟩ [0] [1] rfl (by decide) rfl (by decide) (by decide) dL_move_5 (j_catchx X ⟨0, 10, 13, 19⟩ htab (by decide) (by decide) mw_H_1 hT.2.2.1 (fun q9 => ?_))
  refine j_pce (show _ = 13 from rfl) ?_
  refine j_astore (lv' := [(4, .ref q9), (0, .ref a_this), (1, .int x1), (2, .int x2), (3, .ref a_out)]) X dL_move_13 (by decide) rfl (q := 15) rfl ?_
  refine j_iconst (v := nI 1) X dL_move_15 (by decide) (q := 16) rfl ?_
  rw [hQ]
  exact j_iret X () dL_move_16 rfl rfl
theorem dL_ask_0 : decode cL_ask 0 = .ok (.aload 6, 2) := by decide +kernel
theorem dL_ask_2 : decode cL_ask 2 = .ok (.iconst 0, 1) := by decide +kernel
theorem dL_ask_3 : decode cL_ask 3 = .ok (.aload_n 0, 1) := by decide +kernel
theorem dL_ask_4 : decode cL_ask 4 = .ok (.iload_n 1, 1) := by decide +kernel
theorem dL_ask_5 : decode cL_ask 5 = .ok (.iload_n 2, 1) := by decide +kernel
theorem dL_ask_6 : decode cL_ask 6 = .ok (.iload_n 3, 1) := by decide +kernel
theorem dL_ask_7 : decode cL_ask 7 = .ok (.iload 4, 2) := by decide +kernel
theorem dL_ask_9 : decode cL_ask 9 = .ok (.iload 5, 2) := by decide +kernel
theorem dL_ask_11 : decode cL_ask 11 = .ok (.invokevirtual 7, 3) := by decide +kernel
theorem dL_ask_14 : decode cL_ask 14 = .ok (.i2l, 1) := by decide +kernel
theorem dL_ask_15 : decode cL_ask 15 = .ok (.lastore, 1) := by decide +kernel
theorem dL_ask_16 : decode cL_ask 16 = .ok (.goto 7, 3) := by decide +kernel
theorem dL_ask_19 : decode cL_ask 19 = .ok (.astore 7, 2) := by decide +kernel
theorem dL_ask_21 : decode cL_ask 21 = .ok (.iconst 1, 1) := by decide +kernel
theorem dL_ask_22 : decode cL_ask 22 = .ok (.ireturn, 1) := by decide +kernel
theorem dL_ask_23 : decode cL_ask 23 = .ok (.iconst 0, 1) := by decide +kernel
theorem dL_ask_24 : decode cL_ask 24 = .ok (.ireturn, 1) := by decide +kernel
theorem mw_H_6 : Cond.methodLink "GuardedTreeLaw" 7 yX11_ask ∈ tb := tb_at 627 (by decide +kernel) (by decide +kernel)
set_option maxHeartbeats 4000000 in
set_option maxRecDepth 100000 in
theorem c_L_ask (l : Launch) (D : va_G) (ct : Nat → ClassId) (ts : Nat → Nat) (a_this a_this_toServer a_this_clientSide a_this_clientSide_out a_this_serverSide a_this_toClient a_this_toServer_bytes a_this_clientSide_agreement a_this_clientSide_in a_this_clientSide_requests a_this_clientSide_words a_this_clientSide_out_packet a_this_clientSide_out_cipher a_this_clientSide_out_digest a_this_clientSide_out_sealKey a_out : Nat) (v_connections : Int32) (v_toServer_size : Nat) (v_clientSide_state : Int32) (v_clientSide_asked : Nat) (v_clientSide_wordCount : Nat) (v_clientSide_ungranted : Int32) (v_clientSide_out_allowance : Int32) (v_clientSide_out_size : Nat) (v_clientSide_out_length : Int32) (v_clientSide_out_payload : Nat) (v_clientSide_out_number : Int32) (x1 : Int32) (x2 : Int32) (x3 : Int32) (x4 : Int32) (x5 : Int32) (g_out : Nat → Int64) (h_k1 : ¬ x1 < 0) (h_k2 : x1 ≤ nI 9) (h_st : v_clientSide_state = nI 0) (h_a : v_clientSide_asked = 0) (h_z : v_toServer_size = 0) (sz : Nat) : Met l yL_ask (Cond.codeWith yL_ask cL_ask 8 (some .int) [(0, 16, 19, 13)] :: tb) { frames := 2, cells := 0, slots := 0, locals := 47 } (PcX D ct SXL ts [.ref a_this, .int x1, .int x2, .int x3, .int x4, .int x5, .ref a_out] [(a_this, .inr (11, [.ref a_this_clientSide, .ref a_this_serverSide, .ref a_this_toServer, .ref a_this_toClient, .int v_connections])), (a_this_toServer, .inr (6, [.ref a_this_toServer_bytes, .int (nI v_toServer_size)])), (a_this_clientSide, .inr (3, [.ref a_this_clientSide_agreement, .ref a_this_clientSide_in, .ref a_this_clientSide_out, .ref a_this_clientSide_requests, .ref a_this_clientSide_words, .int v_clientSide_state, .int (nI v_clientSide_asked), .int (nI v_clientSide_wordCount), .int v_clientSide_ungranted])), (a_this_clientSide_out, .inr (1, [.ref a_this_clientSide_out_packet, .ref a_this_clientSide_out_cipher, .ref a_this_clientSide_out_digest, .ref a_this_clientSide_out_sealKey, .int v_clientSide_out_allowance, .int (nI v_clientSide_out_size), .int v_clientSide_out_length, .int (nI v_clientSide_out_payload), .int v_clientSide_out_number])), (a_out, .inl (ct 3, 1, .inr (.inl g_out)))] sz) (va_Qi (fun (r : Int32) (_ : Unit) => r = nI 0) (fun _ => BG D ct (va_A [(a_this, .inr (11, [.ref a_this_clientSide, .ref a_this_serverSide, .ref a_this_toServer, .ref a_this_toClient, .int v_connections])), (a_this_toServer, .inr (6, [.ref a_this_toServer_bytes, .int (nI v_toServer_size)])), (a_this_clientSide, .inr (3, [.ref a_this_clientSide_agreement, .ref a_this_clientSide_in, .ref a_this_clientSide_out, .ref a_this_clientSide_requests, .ref a_this_clientSide_words, .int v_clientSide_state, .int (nI v_clientSide_asked), .int (nI v_clientSide_wordCount), .int v_clientSide_ungranted])), (a_this_clientSide_out, .inr (1, [.ref a_this_clientSide_out_packet, .ref a_this_clientSide_out_cipher, .ref a_this_clientSide_out_digest, .ref a_this_clientSide_out_sealKey, .int v_clientSide_out_allowance, .int (nI v_clientSide_out_size), .int v_clientSide_out_length, .int (nI v_clientSide_out_payload), .int v_clientSide_out_number])), (a_out, .inl (ct 3, 1, .inr (.inl g_out)))] sz) [(a_out, .inl (ct 3, 1, .inr (.inl (vp_updL g_out 0 (Int32.toInt64 (f_X11_ask v_toServer_size x1 x4))))))]) (va_A [(a_this, .inr (11, [.ref a_this_clientSide, .ref a_this_serverSide, .ref a_this_toServer, .ref a_this_toClient, .int v_connections])), (a_this_toServer, .inr (6, [.ref a_this_toServer_bytes, .int (nI v_toServer_size)])), (a_this_clientSide, .inr (3, [.ref a_this_clientSide_agreement, .ref a_this_clientSide_in, .ref a_this_clientSide_out, .ref a_this_clientSide_requests, .ref a_this_clientSide_words, .int v_clientSide_state, .int (nI v_clientSide_asked), .int (nI v_clientSide_wordCount), .int v_clientSide_ungranted])), (a_this_clientSide_out, .inr (1, [.ref a_this_clientSide_out_packet, .ref a_this_clientSide_out_cipher, .ref a_this_clientSide_out_digest, .ref a_this_clientSide_out_sealKey, .int v_clientSide_out_allowance, .int (nI v_clientSide_out_size), .int v_clientSide_out_length, .int (nI v_clientSide_out_payload), .int v_clientSide_out_number])), (a_out, .inl (ct 3, 1, .inr (.inl g_out)))] sz)) 0 0 (va_A [(a_this, .inr (11, [.ref a_this_clientSide, .ref a_this_serverSide, .ref a_this_toServer, .ref a_this_toClient, .int v_connections])), (a_this_toServer, .inr (6, [.ref a_this_toServer_bytes, .int (nI v_toServer_size)])), (a_this_clientSide, .inr (3, [.ref a_this_clientSide_agreement, .ref a_this_clientSide_in, .ref a_this_clientSide_out, .ref a_this_clientSide_requests, .ref a_this_clientSide_words, .int v_clientSide_state, .int (nI v_clientSide_asked), .int (nI v_clientSide_wordCount), .int v_clientSide_ungranted])), (a_this_clientSide_out, .inr (1, [.ref a_this_clientSide_out_packet, .ref a_this_clientSide_out_cipher, .ref a_this_clientSide_out_digest, .ref a_this_clientSide_out_sealKey, .int v_clientSide_out_allowance, .int (nI v_clientSide_out_size), .int v_clientSide_out_length, .int (nI v_clientSide_out_payload), .int v_clientSide_out_number])), (a_out, .inl (ct 3, 1, .inr (.inl g_out)))] sz) := by
  refine metH (l := l) (y := yL_ask) (cc := cL_ask) (maxL := 8) (ret := (some .int)) (hh := [(0, 16, 19, 13)]) (rm := { frames := 2, cells := 0, slots := 0, locals := 47 }) (D := D) (ct := ct) (L := SXL) (ts := ts) (av := [.ref a_this, .int x1, .int x2, .int x3, .int x4, .int x5, .ref a_out]) (ws := [(a_this, .inr (11, [.ref a_this_clientSide, .ref a_this_serverSide, .ref a_this_toServer, .ref a_this_toClient, .int v_connections])), (a_this_toServer, .inr (6, [.ref a_this_toServer_bytes, .int (nI v_toServer_size)])), (a_this_clientSide, .inr (3, [.ref a_this_clientSide_agreement, .ref a_this_clientSide_in, .ref a_this_clientSide_out, .ref a_this_clientSide_requests, .ref a_this_clientSide_words, .int v_clientSide_state, .int (nI v_clientSide_asked), .int (nI v_clientSide_wordCount), .int v_clientSide_ungranted])), (a_this_clientSide_out, .inr (1, [.ref a_this_clientSide_out_packet, .ref a_this_clientSide_out_cipher, .ref a_this_clientSide_out_digest, .ref a_this_clientSide_out_sealKey, .int v_clientSide_out_allowance, .int (nI v_clientSide_out_size), .int v_clientSide_out_length, .int (nI v_clientSide_out_payload), .int v_clientSide_out_number])), (a_out, .inl (ct 3, 1, .inr (.inl g_out)))]) (sz := sz) (mc := 0) (ms := 0) (QcF := fun A => va_Qi (fun (r : Int32) (_ : Unit) => r = nI 0) (fun _ => BG D ct A [(a_out, .inl (ct 3, 1, .inr (.inl (vp_updL g_out 0 (Int32.toInt64 (f_X11_ask v_toServer_size x1 x4))))))]) A) (by decide) (Nat.le_of_ble_eq_true rfl) ?_
  intro p e s m below meth c A X hT htab
  obtain ⟨Q, hQ⟩ : ∃ Q, Q = MQ below (va_Qi (fun (r : Int32) (_ : Unit) => r = nI 0) (fun _ => BG D ct A [(a_out, .inl (ct 3, 1, .inr (.inl (vp_updL g_out 0 (Int32.toInt64 (f_X11_ask v_toServer_size x1 x4))))))]) A) [.ref a_this, .int x1, .int x2, .int x3, .int x4, .int x5, .ref a_out].toArray s 0 0 A := ⟨_, rfl⟩
  rw [← hQ]
  refine j_lve (lv' := [(0, .ref a_this), (1, .int x1), (2, .int x2), (3, .int x3), (4, .int x4), (5, .int x5), (6, .ref a_out)]) rfl ?_
  refine j_aload X 6 dL_ask_0 rfl (q := 2) rfl ?_
  refine j_iconst (v := nI 0) X dL_ask_2 (by decide) (q := 3) rfl ?_
  refine j_aload_n X 0 dL_ask_3 rfl (q := 4) rfl ?_
  refine j_iload_n X 1 dL_ask_4 rfl (q := 5) rfl ?_
  refine j_iload_n X 2 dL_ask_5 rfl (q := 6) rfl ?_
  refine j_iload_n X 3 dL_ask_6 rfl (q := 7) rfl ?_
  refine j_iload X 4 dL_ask_7 rfl (q := 9) rfl ?_
  refine j_iload X 5 dL_ask_9 rfl (q := 11) rfl ?_
  refine j_callVi (As := [.int x1, .int x2, .int x3, .int x4, .int x5]) (rest := [.int (nI 0), .ref a_out]) (wn := fun _ => [(a_out, .inl (ct 3, 1, .inr (.inl g_out)))]) (wr := [(a_out, .inl (ct 3, 1, .inr (.inl g_out)))]) X (fun sz => c_X11_ask l D ct ts a_this a_this_toServer a_this_clientSide a_this_clientSide_out a_this_serverSide a_this_toClient a_this_toServer_bytes a_this_clientSide_agreement a_this_clientSide_in a_this_clientSide_requests a_this_clientSide_words a_this_clientSide_out_packet a_this_clientSide_out_cipher a_this_clientSide_out_digest a_this_clientSide_out_sealKey v_connections v_toServer_size v_clientSide_state v_clientSide_asked v_clientSide_wordCount v_clientSide_ungranted v_clientSide_out_allowance v_clientSide_out_size v_clientSide_out_length v_clientSide_out_payload v_clientSide_out_number x1 x2 x3 x4 x5 h_k1 h_k2 h_st h_a h_z sz) cal_X11_ask 0 rfl rfl mw_H_6 cwi_X11_ask cws_X11_ask rfl ⟨by decide, by decide⟩ rfl rfl (Nat.le_of_ble_eq_true rfl) ⟨by decide, by decide⟩ [0, 1, 2, 3] [4] [0] rfl (by decide) rfl (by decide) (by decide) (fun _ => rfl) (by decide) dL_ask_11 (q := 14) rfl (fun r u hu => ?_)
  have hr : r = (f_X11_ask v_toServer_size x1 x4) := hu
  subst hr
  refine j_i2l X dL_ask_14 (q := 15) rfl ?_
  refine j_last (ws2 := [(a_out, .inl (ct 3, 1, .inr (.inl (vp_updL g_out 0 (Int32.toInt64 (f_X11_ask v_toServer_size x1 x4))))))]) X 0 rfl (vp_in_nI (by omega) (by omega)) dL_ask_15 rfl (q := 16) rfl ?_
  refine j_goto (tgt := 23) X dL_ask_16 (by decide) ?_
  refine j_iconst (v := nI 0) X dL_ask_23 (by decide) (q := 24) rfl ?_
  rw [hQ]
  exact j_iret X () dL_ask_24 rfl rfl
theorem cal_L_ask : CalW yL_ask cL_ask 8 (some .int) [(0, 16, 19, 13)] 7 := ⟨tb_at 108 (by decide +kernel) (by decide +kernel), tb_at 625 (by decide +kernel) (by decide +kernel), by decide +kernel, by decide +kernel, by decide +kernel⟩
theorem cwt_L_ask : Cond.static yL_ask ∈ tb := tb_at 624 (by decide +kernel) (by decide +kernel)
theorem mw_H_7 : Cond.classLink "GuardedTreeLaw" 13 EIA ∈ tb := tb_at 626 (by decide +kernel) (by decide +kernel)
set_option maxHeartbeats 4000000 in
set_option maxRecDepth 100000 in
theorem c_L_ask_b (l : Launch) (D : va_G) (ct : Nat → ClassId) (ts : Nat → Nat) (hl : l.stackTraces = false) (a_this a_this_clientSide a_this_serverSide a_this_toServer a_this_toClient a_out : Nat) (v_connections : Int32) (x1 : Int32) (x2 : Int32) (x3 : Int32) (x4 : Int32) (x5 : Int32) (g_out : Nat → Int64) (h_b : x1 < 0 ∨ ¬ x1 ≤ nI 9) (sz : Nat) : Met l yL_ask (Cond.codeWith yL_ask cL_ask 8 (some .int) [(0, 16, 19, 13)] :: tb) { frames := 7, cells := 1, slots := 6, locals := 107 } (PcX D ct SXL ts [.ref a_this, .int x1, .int x2, .int x3, .int x4, .int x5, .ref a_out] [(a_this, .inr (11, [.ref a_this_clientSide, .ref a_this_serverSide, .ref a_this_toServer, .ref a_this_toClient, .int v_connections])), (a_out, .inl (ct 3, 1, .inr (.inl g_out)))] sz) (va_Qi (fun (r : Int32) (_ : Unit) => r = nI 1) (fun _ => BG D ct (va_A [(a_this, .inr (11, [.ref a_this_clientSide, .ref a_this_serverSide, .ref a_this_toServer, .ref a_this_toClient, .int v_connections])), (a_out, .inl (ct 3, 1, .inr (.inl g_out)))] sz) [(a_out, .inl (ct 3, 1, .inr (.inl g_out)))]) (va_A [(a_this, .inr (11, [.ref a_this_clientSide, .ref a_this_serverSide, .ref a_this_toServer, .ref a_this_toClient, .int v_connections])), (a_out, .inl (ct 3, 1, .inr (.inl g_out)))] sz)) 1 6 (va_A [(a_this, .inr (11, [.ref a_this_clientSide, .ref a_this_serverSide, .ref a_this_toServer, .ref a_this_toClient, .int v_connections])), (a_out, .inl (ct 3, 1, .inr (.inl g_out)))] sz) := by
  refine metH (l := l) (y := yL_ask) (cc := cL_ask) (maxL := 8) (ret := (some .int)) (hh := [(0, 16, 19, 13)]) (rm := { frames := 7, cells := 1, slots := 6, locals := 107 }) (D := D) (ct := ct) (L := SXL) (ts := ts) (av := [.ref a_this, .int x1, .int x2, .int x3, .int x4, .int x5, .ref a_out]) (ws := [(a_this, .inr (11, [.ref a_this_clientSide, .ref a_this_serverSide, .ref a_this_toServer, .ref a_this_toClient, .int v_connections])), (a_out, .inl (ct 3, 1, .inr (.inl g_out)))]) (sz := sz) (mc := 1) (ms := 6) (QcF := fun A => va_Qi (fun (r : Int32) (_ : Unit) => r = nI 1) (fun _ => BG D ct A [(a_out, .inl (ct 3, 1, .inr (.inl g_out)))]) A) (by decide) (Nat.le_of_ble_eq_true rfl) ?_
  intro p e s m below meth c A X hT htab
  obtain ⟨Q, hQ⟩ : ∃ Q, Q = MQ below (va_Qi (fun (r : Int32) (_ : Unit) => r = nI 1) (fun _ => BG D ct A [(a_out, .inl (ct 3, 1, .inr (.inl g_out)))]) A) [.ref a_this, .int x1, .int x2, .int x3, .int x4, .int x5, .ref a_out].toArray s 1 6 A := ⟨_, rfl⟩
  rw [← hQ]
  refine j_lve (lv' := [(0, .ref a_this), (1, .int x1), (2, .int x2), (3, .int x3), (4, .int x4), (5, .int x5), (6, .ref a_out)]) rfl ?_
  refine j_aload X 6 dL_ask_0 rfl (q := 2) rfl ?_
  refine j_iconst (v := nI 0) X dL_ask_2 (by decide) (q := 3) rfl ?_
  refine j_aload_n X 0 dL_ask_3 rfl (q := 4) rfl ?_
  refine j_iload_n X 1 dL_ask_4 rfl (q := 5) rfl ?_
  refine j_iload_n X 2 dL_ask_5 rfl (q := 6) rfl ?_
  refine j_iload_n X 3 dL_ask_6 rfl (q := 7) rfl ?_
  refine j_iload X 4 dL_ask_7 rfl (q := 9) rfl ?_
  refine j_iload X 5 dL_ask_9 rfl (q := 11) rfl ?_
  refine j_callVx (As := [.int x1, .int x2, .int x3, .int x4, .int x5]) (rest := [.int (nI 0), .ref a_out]) (wr := [(a_out, .inl (ct 3, 1, .inr (.inl g_out)))]) X hT (fun sz => c_X11_ask_b l D ct ts hl a_this a_this_clientSide a_this_serverSide a_this_toServer a_this_toClient v_connections x1 x2 x3 x4 x5 h_b sz) cal_X11_ask 0 rfl rfl mw_H_6 cwi_X11_ask cws_X11_ask rfl ⟨by decide, by decide⟩ rfl rfl (Nat.le_of_ble_eq_true rfl) ⟨by decide, by decide⟩ [0] [1] rfl (by decide) rfl (by decide) (by decide) dL_ask_11 (j_catchx X ⟨0, 16, 19, 13⟩ htab (by decide) (by decide) mw_H_7 hT.2.2.2.1 (fun q9 => ?_))
  refine j_pce (show _ = 19 from rfl) ?_
  refine j_astore (lv' := [(7, .ref q9), (0, .ref a_this), (1, .int x1), (2, .int x2), (3, .int x3), (4, .int x4), (5, .int x5), (6, .ref a_out)]) X dL_ask_19 (by decide) rfl (q := 21) rfl ?_
  refine j_iconst (v := nI 1) X dL_ask_21 (by decide) (q := 22) rfl ?_
  rw [hQ]
  exact j_iret X () dL_ask_22 rfl rfl
theorem dL_data_0 : decode cL_data 0 = .ok (.aload_n 3, 1) := by decide +kernel
theorem dL_data_1 : decode cL_data 1 = .ok (.iconst 0, 1) := by decide +kernel
theorem dL_data_2 : decode cL_data 2 = .ok (.aload_n 0, 1) := by decide +kernel
theorem dL_data_3 : decode cL_data 3 = .ok (.iload_n 1, 1) := by decide +kernel
theorem dL_data_4 : decode cL_data 4 = .ok (.iload_n 2, 1) := by decide +kernel
theorem dL_data_5 : decode cL_data 5 = .ok (.invokevirtual 15, 3) := by decide +kernel
theorem dL_data_8 : decode cL_data 8 = .ok (.i2l, 1) := by decide +kernel
theorem dL_data_9 : decode cL_data 9 = .ok (.lastore, 1) := by decide +kernel
theorem dL_data_10 : decode cL_data 10 = .ok (.goto 7, 3) := by decide +kernel
theorem dL_data_13 : decode cL_data 13 = .ok (.astore 4, 2) := by decide +kernel
theorem dL_data_15 : decode cL_data 15 = .ok (.iconst 1, 1) := by decide +kernel
theorem dL_data_16 : decode cL_data 16 = .ok (.ireturn, 1) := by decide +kernel
theorem dL_data_17 : decode cL_data 17 = .ok (.iconst 0, 1) := by decide +kernel
theorem dL_data_18 : decode cL_data 18 = .ok (.ireturn, 1) := by decide +kernel
theorem mw_H_8 : Cond.methodLink "GuardedTreeLaw" 15 yX11_data ∈ tb := tb_at 796 (by decide +kernel) (by decide +kernel)
set_option maxHeartbeats 4000000 in
set_option maxRecDepth 100000 in
theorem c_L_data (l : Launch) (D : va_G) (ct : Nat → ClassId) (ts : Nat → Nat) (hl : l.stackTraces = false) (a_this a_this_clientSide a_this_serverSide a_this_toServer a_this_toClient a_this_clientSide_agreement a_this_clientSide_in a_this_clientSide_out a_this_clientSide_requests a_this_clientSide_words a_out : Nat) (v_connections : Int32) (v_clientSide_state : Int32) (v_clientSide_asked : Nat) (v_clientSide_wordCount : Nat) (v_clientSide_ungranted : Int32) (x1 : Int32) (x2 : Int32) (g_out : Nat → Int64) (h_a : v_clientSide_asked = 0) (sz : Nat) : Met l yL_data (Cond.codeWith yL_data cL_data 5 (some .int) [(0, 10, 13, 19)] :: tb) { frames := 7, cells := 1, slots := 6, locals := 104 } (PcX D ct SXL ts [.ref a_this, .int x1, .int x2, .ref a_out] [(a_this, .inr (11, [.ref a_this_clientSide, .ref a_this_serverSide, .ref a_this_toServer, .ref a_this_toClient, .int v_connections])), (a_this_clientSide, .inr (3, [.ref a_this_clientSide_agreement, .ref a_this_clientSide_in, .ref a_this_clientSide_out, .ref a_this_clientSide_requests, .ref a_this_clientSide_words, .int v_clientSide_state, .int (nI v_clientSide_asked), .int (nI v_clientSide_wordCount), .int v_clientSide_ungranted])), (a_out, .inl (ct 3, 1, .inr (.inl g_out)))] sz) (va_Qi (fun (r : Int32) (_ : Unit) => r = nI 1) (fun _ => BG D ct (va_A [(a_this, .inr (11, [.ref a_this_clientSide, .ref a_this_serverSide, .ref a_this_toServer, .ref a_this_toClient, .int v_connections])), (a_this_clientSide, .inr (3, [.ref a_this_clientSide_agreement, .ref a_this_clientSide_in, .ref a_this_clientSide_out, .ref a_this_clientSide_requests, .ref a_this_clientSide_words, .int v_clientSide_state, .int (nI v_clientSide_asked), .int (nI v_clientSide_wordCount), .int v_clientSide_ungranted])), (a_out, .inl (ct 3, 1, .inr (.inl g_out)))] sz) [(a_out, .inl (ct 3, 1, .inr (.inl g_out)))]) (va_A [(a_this, .inr (11, [.ref a_this_clientSide, .ref a_this_serverSide, .ref a_this_toServer, .ref a_this_toClient, .int v_connections])), (a_this_clientSide, .inr (3, [.ref a_this_clientSide_agreement, .ref a_this_clientSide_in, .ref a_this_clientSide_out, .ref a_this_clientSide_requests, .ref a_this_clientSide_words, .int v_clientSide_state, .int (nI v_clientSide_asked), .int (nI v_clientSide_wordCount), .int v_clientSide_ungranted])), (a_out, .inl (ct 3, 1, .inr (.inl g_out)))] sz)) 1 6 (va_A [(a_this, .inr (11, [.ref a_this_clientSide, .ref a_this_serverSide, .ref a_this_toServer, .ref a_this_toClient, .int v_connections])), (a_this_clientSide, .inr (3, [.ref a_this_clientSide_agreement, .ref a_this_clientSide_in, .ref a_this_clientSide_out, .ref a_this_clientSide_requests, .ref a_this_clientSide_words, .int v_clientSide_state, .int (nI v_clientSide_asked), .int (nI v_clientSide_wordCount), .int v_clientSide_ungranted])), (a_out, .inl (ct 3, 1, .inr (.inl g_out)))] sz) := by
  refine metH (l := l) (y := yL_data) (cc := cL_data) (maxL := 5) (ret := (some .int)) (hh := [(0, 10, 13, 19)]) (rm := { frames := 7, cells := 1, slots := 6, locals := 104 }) (D := D) (ct := ct) (L := SXL) (ts := ts) (av := [.ref a_this, .int x1, .int x2, .ref a_out]) (ws := [(a_this, .inr (11, [.ref a_this_clientSide, .ref a_this_serverSide, .ref a_this_toServer, .ref a_this_toClient, .int v_connections])), (a_this_clientSide, .inr (3, [.ref a_this_clientSide_agreement, .ref a_this_clientSide_in, .ref a_this_clientSide_out, .ref a_this_clientSide_requests, .ref a_this_clientSide_words, .int v_clientSide_state, .int (nI v_clientSide_asked), .int (nI v_clientSide_wordCount), .int v_clientSide_ungranted])), (a_out, .inl (ct 3, 1, .inr (.inl g_out)))]) (sz := sz) (mc := 1) (ms := 6) (QcF := fun A => va_Qi (fun (r : Int32) (_ : Unit) => r = nI 1) (fun _ => BG D ct A [(a_out, .inl (ct 3, 1, .inr (.inl g_out)))]) A) (by decide) (Nat.le_of_ble_eq_true rfl) ?_
  intro p e s m below meth c A X hT htab
  obtain ⟨Q, hQ⟩ : ∃ Q, Q = MQ below (va_Qi (fun (r : Int32) (_ : Unit) => r = nI 1) (fun _ => BG D ct A [(a_out, .inl (ct 3, 1, .inr (.inl g_out)))]) A) [.ref a_this, .int x1, .int x2, .ref a_out].toArray s 1 6 A := ⟨_, rfl⟩
  rw [← hQ]
  refine j_lve (lv' := [(0, .ref a_this), (1, .int x1), (2, .int x2), (3, .ref a_out)]) rfl ?_
  refine j_aload_n X 3 dL_data_0 rfl (q := 1) rfl ?_
  refine j_iconst (v := nI 0) X dL_data_1 (by decide) (q := 2) rfl ?_
  refine j_aload_n X 0 dL_data_2 rfl (q := 3) rfl ?_
  refine j_iload_n X 1 dL_data_3 rfl (q := 4) rfl ?_
  refine j_iload_n X 2 dL_data_4 rfl (q := 5) rfl ?_
  refine j_callVx (As := [.int x1, .int x2]) (rest := [.int (nI 0), .ref a_out]) (wr := [(a_out, .inl (ct 3, 1, .inr (.inl g_out)))]) X hT (fun sz => c_X11_data l D ct ts hl a_this a_this_clientSide a_this_serverSide a_this_toServer a_this_toClient a_this_clientSide_agreement a_this_clientSide_in a_this_clientSide_out a_this_clientSide_requests a_this_clientSide_words v_connections v_clientSide_state v_clientSide_asked v_clientSide_wordCount v_clientSide_ungranted x1 x2 h_a sz) cal_X11_data 0 rfl rfl mw_H_8 cwi_X11_data cws_X11_data rfl ⟨by decide, by decide⟩ rfl rfl (Nat.le_of_ble_eq_true rfl) ⟨by decide, by decide⟩ [0, 1] [2] rfl (by decide) rfl (by decide) (by decide) dL_data_5 (j_catchx X ⟨0, 10, 13, 19⟩ htab (by decide) (by decide) mw_H_1 hT.2.2.1 (fun q9 => ?_))
  refine j_pce (show _ = 13 from rfl) ?_
  refine j_astore (lv' := [(4, .ref q9), (0, .ref a_this), (1, .int x1), (2, .int x2), (3, .ref a_out)]) X dL_data_13 (by decide) rfl (q := 15) rfl ?_
  refine j_iconst (v := nI 1) X dL_data_15 (by decide) (q := 16) rfl ?_
  rw [hQ]
  exact j_iret X () dL_data_16 rfl rfl
theorem cal_L_data : CalW yL_data cL_data 5 (some .int) [(0, 10, 13, 19)] 4 := ⟨tb_at 108 (by decide +kernel) (by decide +kernel), tb_at 794 (by decide +kernel) (by decide +kernel), by decide +kernel, by decide +kernel, by decide +kernel⟩
theorem cwt_L_data : Cond.static yL_data ∈ tb := tb_at 793 (by decide +kernel) (by decide +kernel)
