theorem mx0 {x : Int32} {n : Nat} (h : n = 0) : (if nI 0 < (if nI n < x then nI n else x) then (if nI n < x then nI n else x) else nI 0) = nI 0 := by
  subst h
  by_cases h2 : nI 0 < x
  · rw [if_pos h2]
    split <;> rfl
  · rw [if_neg h2, if_neg h2]
theorem lt0_no {x : Int32} {n : Nat} (hn : n = 0) (h1 : ¬ x < 0) (h2 : x < nI n) : False := by
  subst hn
  exact h1 h2
theorem kd_no {x : Int32} (h1 : ¬ x < 0) (h2 : x ≤ nI 9) : True := trivial
theorem mw_X3_find_0 : Cond.fieldLink "GuardedTree$Client" 58 "GuardedTree$Client" "asked" "I" ∈ tb := tb_at 318 (by decide +kernel) (by decide +kernel)
theorem dX3_find_0 : decode cX3_find 0 = .ok (.iload_n 1, 1) := by decide +kernel
theorem dX3_find_1 : decode cX3_find 1 = .ok (.iconst 1, 1) := by decide +kernel
theorem dX3_find_2 : decode cX3_find 2 = .ok (.if_icmp .lt 22, 3) := by decide +kernel
theorem dX3_find_5 : decode cX3_find 5 = .ok (.iload_n 1, 1) := by decide +kernel
theorem dX3_find_6 : decode cX3_find 6 = .ok (.aload_n 0, 1) := by decide +kernel
theorem dX3_find_7 : decode cX3_find 7 = .ok (.getfield 58, 3) := by decide +kernel
theorem dX3_find_10 : decode cX3_find 10 = .ok (.if_icmp .gt 14, 3) := by decide +kernel
theorem dX3_find_13 : decode cX3_find 13 = .ok (.aload_n 0, 1) := by decide +kernel
theorem dX3_find_14 : decode cX3_find 14 = .ok (.getfield 30, 3) := by decide +kernel
theorem dX3_find_17 : decode cX3_find 17 = .ok (.iload_n 1, 1) := by decide +kernel
theorem dX3_find_18 : decode cX3_find 18 = .ok (.iconst 1, 1) := by decide +kernel
theorem dX3_find_19 : decode cX3_find 19 = .ok (.isub, 1) := by decide +kernel
theorem dX3_find_20 : decode cX3_find 20 = .ok (.aaload, 1) := by decide +kernel
theorem dX3_find_21 : decode cX3_find 21 = .ok (.goto 4, 3) := by decide +kernel
theorem dX3_find_24 : decode cX3_find 24 = .ok (.aconst_null, 1) := by decide +kernel
theorem dX3_find_25 : decode cX3_find 25 = .ok (.areturn, 1) := by decide +kernel
noncomputable def f_X3_find (x1 : Int32) : Unit :=
  if x1 < (nI 1) then
  (())
  else
  (())
set_option maxHeartbeats 4000000 in
set_option maxRecDepth 100000 in
theorem c_X3_find (l : Launch) (D : va_G) (ct : Nat → ClassId) (ts : Nat → Nat) (a_this a_this_agreement a_this_in a_this_out a_this_requests a_this_words : Nat) (v_state : Int32) (v_asked : Nat) (v_wordCount : Nat) (v_ungranted : Int32) (x1 : Int32)  (h_a : v_asked = 0)  (sz : Nat) : Met l yX3_find (Cond.code yX3_find cX3_find 2 (some (.object "GuardedTree$Request")) :: tb) { frames := 0, cells := 0, slots := 0, locals := 0 } (PcG D ct SXL ts [.ref a_this, .int x1] [(a_this, .inr (3, [.ref a_this_agreement, .ref a_this_in, .ref a_this_out, .ref a_this_requests, .ref a_this_words, .int v_state, .int (nI v_asked), .int (nI v_wordCount), .int v_ungranted]))] sz) (va_Qq (fun (r : Option Nat) (u : Unit) => r = none ∧ u = f_X3_find x1) (fun u => BG D ct (va_A [(a_this, .inr (3, [.ref a_this_agreement, .ref a_this_in, .ref a_this_out, .ref a_this_requests, .ref a_this_words, .int v_state, .int (nI v_asked), .int (nI v_wordCount), .int v_ungranted]))] sz) [(a_this, .inr (3, [.ref a_this_agreement, .ref a_this_in, .ref a_this_out, .ref a_this_requests, .ref a_this_words, .int v_state, .int (nI v_asked), .int (nI v_wordCount), .int v_ungranted]))]) (va_A [(a_this, .inr (3, [.ref a_this_agreement, .ref a_this_in, .ref a_this_out, .ref a_this_requests, .ref a_this_words, .int v_state, .int (nI v_asked), .int (nI v_wordCount), .int v_ungranted]))] sz)) 0 0 (va_A [(a_this, .inr (3, [.ref a_this_agreement, .ref a_this_in, .ref a_this_out, .ref a_this_requests, .ref a_this_words, .int v_state, .int (nI v_asked), .int (nI v_wordCount), .int v_ungranted]))] sz) := by
  refine metJ (l := l) (y := yX3_find) (cc := cX3_find) (maxL := 2) (ret := (some (.object "GuardedTree$Request"))) (rm := { frames := 0, cells := 0, slots := 0, locals := 0 }) (D := D) (ct := ct) (L := SXL) (ts := ts) (av := [.ref a_this, .int x1]) (ws := [(a_this, .inr (3, [.ref a_this_agreement, .ref a_this_in, .ref a_this_out, .ref a_this_requests, .ref a_this_words, .int v_state, .int (nI v_asked), .int (nI v_wordCount), .int v_ungranted]))]) (sz := sz) (mc := 0) (ms := 0) (QcF := fun A => va_Qq (fun (r : Option Nat) (u : Unit) => r = none ∧ u = f_X3_find x1) (fun u => BG D ct A [(a_this, .inr (3, [.ref a_this_agreement, .ref a_this_in, .ref a_this_out, .ref a_this_requests, .ref a_this_words, .int v_state, .int (nI v_asked), .int (nI v_wordCount), .int v_ungranted]))]) A) (by decide) (Nat.le_of_ble_eq_true rfl) ?_
  intro p e s m below meth c A X hnm
  obtain ⟨Q, hQ⟩ : ∃ Q, Q = MQ below (va_Qq (fun (r : Option Nat) (u : Unit) => r = none ∧ u = f_X3_find x1) (fun u => BG D ct A [(a_this, .inr (3, [.ref a_this_agreement, .ref a_this_in, .ref a_this_out, .ref a_this_requests, .ref a_this_words, .int v_state, .int (nI v_asked), .int (nI v_wordCount), .int v_ungranted]))]) A) [.ref a_this, .int x1].toArray s 0 0 A := ⟨_, rfl⟩
  rw [← hQ]
  refine j_lve (lv' := [(0, .ref a_this), (1, .int x1)]) rfl ?_
  refine j_iload_n X 1 dX3_find_0 rfl (q := 1) rfl ?_
  refine j_iconst (v := nI 1) X dX3_find_1 (by decide) (q := 2) rfl ?_
  refine j_icmp_lt (tgt := 24) X dX3_find_2 (by decide) (q := 5) rfl (fun c1 => ?_) (fun c1 => ?_)
  · skip
    refine j_null X dX3_find_24 (q := 25) rfl ?_
    rw [hQ]
    exact j_aretn X (()) (by first | exact Or.inl ⟨_, rfl⟩ | exact Or.inr ⟨_, rfl⟩) dX3_find_25 (by first | rfl | (simp only [f_X3_find, if_pos c1]; done) | (simp only [f_X3_find, if_pos c1]; rfl)) rfl
  · skip
    refine j_iload_n X 1 dX3_find_5 rfl (q := 6) rfl ?_
    refine j_aload_n X 0 dX3_find_6 rfl (q := 7) rfl ?_
    refine j_get (f := 6) X 0 inT3 rfl rfl (by decide) mw_X3_find_0 rfl dX3_find_7 (q := 10) rfl ?_
    refine j_icmp_gt (tgt := 24) X dX3_find_10 (by decide) (q := 13) rfl (fun c2 => ?_) (fun c2 => ?_)
    · skip
      refine j_null X dX3_find_24 (q := 25) rfl ?_
      rw [hQ]
      exact j_aretn X (()) (by first | exact Or.inl ⟨_, rfl⟩ | exact Or.inr ⟨_, rfl⟩) dX3_find_25 (by first | rfl | (simp only [f_X3_find, if_neg c1, if_pos c2]; done) | (simp only [f_X3_find, if_neg c1, if_pos c2]; rfl)) rfl
    · skip
      exact (fr_ids2 h_a (by assumption) (by assumption)).elim
theorem cal_X3_find : Cal yX3_find cX3_find 2 (some (.object "GuardedTree$Request")) 1 := ⟨tb_at 110 (by decide +kernel) (by decide +kernel), tb_at 610 (by decide +kernel) (by decide +kernel), by decide +kernel, by decide +kernel, by decide +kernel⟩
theorem cwi_X3_find : Cond.instanceMethod yX3_find ∈ tb := tb_at 608 (by decide +kernel) (by decide +kernel)
theorem cws_X3_find : Cond.selects yX3_find.cls yX3_find yX3_find ∈ tb := tb_at 609 (by decide +kernel) (by decide +kernel)
theorem mw_X11_status_0 : Cond.fieldLink "GuardedTree" 10 "GuardedTree" "clientSide" "LGuardedTree$Client;" ∈ tb := tb_at 471 (by decide +kernel) (by decide +kernel)
theorem mw_X11_status_1 : Cond.methodLink "GuardedTree" 97 yX3_find ∈ tb := tb_at 607 (by decide +kernel) (by decide +kernel)
theorem dX11_status_0 : decode cX11_status 0 = .ok (.aload_n 0, 1) := by decide +kernel
theorem dX11_status_1 : decode cX11_status 1 = .ok (.getfield 10, 3) := by decide +kernel
theorem dX11_status_4 : decode cX11_status 4 = .ok (.iload_n 1, 1) := by decide +kernel
theorem dX11_status_5 : decode cX11_status 5 = .ok (.invokevirtual 97, 3) := by decide +kernel
theorem dX11_status_8 : decode cX11_status 8 = .ok (.astore_n 2, 1) := by decide +kernel
theorem dX11_status_9 : decode cX11_status 9 = .ok (.aload_n 2, 1) := by decide +kernel
theorem dX11_status_10 : decode cX11_status 10 = .ok (.ifnonnull 6, 3) := by decide +kernel
theorem dX11_status_13 : decode cX11_status 13 = .ok (.bipush (-102), 2) := by decide +kernel
theorem dX11_status_15 : decode cX11_status 15 = .ok (.ireturn, 1) := by decide +kernel
theorem dX11_status_16 : decode cX11_status 16 = .ok (.aload_n 2, 1) := by decide +kernel
theorem dX11_status_17 : decode cX11_status 17 = .ok (.getfield 101, 3) := by decide +kernel
theorem dX11_status_20 : decode cX11_status 20 = .ok (.ifCond .eq 8, 3) := by decide +kernel
theorem dX11_status_23 : decode cX11_status 23 = .ok (.bipush (-100), 2) := by decide +kernel
theorem dX11_status_25 : decode cX11_status 25 = .ok (.goto 7, 3) := by decide +kernel
theorem dX11_status_28 : decode cX11_status 28 = .ok (.aload_n 2, 1) := by decide +kernel
theorem dX11_status_29 : decode cX11_status 29 = .ok (.getfield 106, 3) := by decide +kernel
theorem dX11_status_32 : decode cX11_status 32 = .ok (.ireturn, 1) := by decide +kernel
noncomputable def f_X11_status  : Int32 :=
  (-102)
set_option maxHeartbeats 4000000 in
set_option maxRecDepth 100000 in
theorem c_X11_status (l : Launch) (D : va_G) (ct : Nat → ClassId) (ts : Nat → Nat) (a_this a_this_clientSide a_this_serverSide a_this_toServer a_this_toClient a_this_clientSide_agreement a_this_clientSide_in a_this_clientSide_out a_this_clientSide_requests a_this_clientSide_words : Nat) (v_connections : Int32) (v_clientSide_state : Int32) (v_clientSide_asked : Nat) (v_clientSide_wordCount : Nat) (v_clientSide_ungranted : Int32) (x1 : Int32)  (h_a : v_clientSide_asked = 0)  (sz : Nat) : Met l yX11_status (Cond.code yX11_status cX11_status 3 (some .int) :: tb) { frames := 1, cells := 0, slots := 0, locals := 21 } (PcG D ct SXL ts [.ref a_this, .int x1] [(a_this, .inr (11, [.ref a_this_clientSide, .ref a_this_serverSide, .ref a_this_toServer, .ref a_this_toClient, .int v_connections])), (a_this_clientSide, .inr (3, [.ref a_this_clientSide_agreement, .ref a_this_clientSide_in, .ref a_this_clientSide_out, .ref a_this_clientSide_requests, .ref a_this_clientSide_words, .int v_clientSide_state, .int (nI v_clientSide_asked), .int (nI v_clientSide_wordCount), .int v_clientSide_ungranted]))] sz) (va_Qi (fun (r : Int32) (u : Unit) => r = f_X11_status ) (fun u => BG D ct (va_A [(a_this, .inr (11, [.ref a_this_clientSide, .ref a_this_serverSide, .ref a_this_toServer, .ref a_this_toClient, .int v_connections])), (a_this_clientSide, .inr (3, [.ref a_this_clientSide_agreement, .ref a_this_clientSide_in, .ref a_this_clientSide_out, .ref a_this_clientSide_requests, .ref a_this_clientSide_words, .int v_clientSide_state, .int (nI v_clientSide_asked), .int (nI v_clientSide_wordCount), .int v_clientSide_ungranted]))] sz) [(a_this, .inr (11, [.ref a_this_clientSide, .ref a_this_serverSide, .ref a_this_toServer, .ref a_this_toClient, .int v_connections])), (a_this_clientSide, .inr (3, [.ref a_this_clientSide_agreement, .ref a_this_clientSide_in, .ref a_this_clientSide_out, .ref a_this_clientSide_requests, .ref a_this_clientSide_words, .int v_clientSide_state, .int (nI v_clientSide_asked), .int (nI v_clientSide_wordCount), .int v_clientSide_ungranted]))]) (va_A [(a_this, .inr (11, [.ref a_this_clientSide, .ref a_this_serverSide, .ref a_this_toServer, .ref a_this_toClient, .int v_connections])), (a_this_clientSide, .inr (3, [.ref a_this_clientSide_agreement, .ref a_this_clientSide_in, .ref a_this_clientSide_out, .ref a_this_clientSide_requests, .ref a_this_clientSide_words, .int v_clientSide_state, .int (nI v_clientSide_asked), .int (nI v_clientSide_wordCount), .int v_clientSide_ungranted]))] sz)) 0 0 (va_A [(a_this, .inr (11, [.ref a_this_clientSide, .ref a_this_serverSide, .ref a_this_toServer, .ref a_this_toClient, .int v_connections])), (a_this_clientSide, .inr (3, [.ref a_this_clientSide_agreement, .ref a_this_clientSide_in, .ref a_this_clientSide_out, .ref a_this_clientSide_requests, .ref a_this_clientSide_words, .int v_clientSide_state, .int (nI v_clientSide_asked), .int (nI v_clientSide_wordCount), .int v_clientSide_ungranted]))] sz) := by
  refine metJ (l := l) (y := yX11_status) (cc := cX11_status) (maxL := 3) (ret := (some .int)) (rm := { frames := 1, cells := 0, slots := 0, locals := 21 }) (D := D) (ct := ct) (L := SXL) (ts := ts) (av := [.ref a_this, .int x1]) (ws := [(a_this, .inr (11, [.ref a_this_clientSide, .ref a_this_serverSide, .ref a_this_toServer, .ref a_this_toClient, .int v_connections])), (a_this_clientSide, .inr (3, [.ref a_this_clientSide_agreement, .ref a_this_clientSide_in, .ref a_this_clientSide_out, .ref a_this_clientSide_requests, .ref a_this_clientSide_words, .int v_clientSide_state, .int (nI v_clientSide_asked), .int (nI v_clientSide_wordCount), .int v_clientSide_ungranted]))]) (sz := sz) (mc := 0) (ms := 0) (QcF := fun A => va_Qi (fun (r : Int32) (u : Unit) => r = f_X11_status ) (fun u => BG D ct A [(a_this, .inr (11, [.ref a_this_clientSide, .ref a_this_serverSide, .ref a_this_toServer, .ref a_this_toClient, .int v_connections])), (a_this_clientSide, .inr (3, [.ref a_this_clientSide_agreement, .ref a_this_clientSide_in, .ref a_this_clientSide_out, .ref a_this_clientSide_requests, .ref a_this_clientSide_words, .int v_clientSide_state, .int (nI v_clientSide_asked), .int (nI v_clientSide_wordCount), .int v_clientSide_ungranted]))]) A) (by decide) (Nat.le_of_ble_eq_true rfl) ?_
  intro p e s m below meth c A X hnm
  obtain ⟨Q, hQ⟩ : ∃ Q, Q = MQ below (va_Qi (fun (r : Int32) (u : Unit) => r = f_X11_status ) (fun u => BG D ct A [(a_this, .inr (11, [.ref a_this_clientSide, .ref a_this_serverSide, .ref a_this_toServer, .ref a_this_toClient, .int v_connections])), (a_this_clientSide, .inr (3, [.ref a_this_clientSide_agreement, .ref a_this_clientSide_in, .ref a_this_clientSide_out, .ref a_this_clientSide_requests, .ref a_this_clientSide_words, .int v_clientSide_state, .int (nI v_clientSide_asked), .int (nI v_clientSide_wordCount), .int v_clientSide_ungranted]))]) A) [.ref a_this, .int x1].toArray s 0 0 A := ⟨_, rfl⟩
  rw [← hQ]
  refine j_lve (lv' := [(0, .ref a_this), (1, .int x1)]) rfl ?_
  refine j_aload_n X 0 dX11_status_0 rfl (q := 1) rfl ?_
  refine j_get (f := 0) X 0 inT11 rfl rfl (by decide) mw_X11_status_0 rfl dX11_status_1 (q := 4) rfl ?_
  refine j_iload_n X 1 dX11_status_4 rfl (q := 5) rfl ?_
  refine j_callVn (As := [.int x1]) (rest := []) (wn := (fun u1 => [(a_this, .inr (11, [.ref a_this_clientSide, .ref a_this_serverSide, .ref a_this_toServer, .ref a_this_toClient, .int v_connections])), (a_this_clientSide, .inr (3, [.ref a_this_clientSide_agreement, .ref a_this_clientSide_in, .ref a_this_clientSide_out, .ref a_this_clientSide_requests, .ref a_this_clientSide_words, .int v_clientSide_state, .int (nI v_clientSide_asked), .int (nI v_clientSide_wordCount), .int v_clientSide_ungranted]))])) (wr := [(a_this, .inr (11, [.ref a_this_clientSide, .ref a_this_serverSide, .ref a_this_toServer, .ref a_this_toClient, .int v_connections]))]) X (fun sz => c_X3_find l D ct ts a_this_clientSide a_this_clientSide_agreement a_this_clientSide_in a_this_clientSide_out a_this_clientSide_requests a_this_clientSide_words v_clientSide_state v_clientSide_asked v_clientSide_wordCount v_clientSide_ungranted x1 (by first | omega | assumption) sz) cal_X3_find 1 rfl rfl mw_X11_status_1 cwi_X3_find cws_X3_find rfl ⟨by decide, by decide⟩ rfl rfl (Nat.le_of_ble_eq_true rfl) ⟨by decide, by decide⟩ [1] [0] [0, 1] rfl (by decide) rfl (by decide) (by decide) (fun _ => rfl) (by decide) dX11_status_5 (q := 8) rfl (fun u1 hu1 => ?_)
  refine j_astoreN_n (lv' := [(2, .null), (0, .ref a_this), (1, .int x1)]) X dX11_status_8 (by decide) rfl (q := 9) rfl ?_
  refine j_aloadN_n X 0 dX11_status_9 rfl (q := 10) rfl ?_
  refine j_ifnonnullN (x := 0) X dX11_status_10 (q := 13) rfl ?_
  refine j_bipush (v := -102) X dX11_status_13 (by decide) (q := 15) rfl ?_
  rw [hQ]
  exact j_iret X (()) dX11_status_15 rfl rfl
theorem cal_X11_status : Cal yX11_status cX11_status 3 (some .int) 1 := ⟨tb_at 109 (by decide +kernel) (by decide +kernel), tb_at 606 (by decide +kernel) (by decide +kernel), by decide +kernel, by decide +kernel, by decide +kernel⟩
theorem cwi_X11_status : Cond.instanceMethod yX11_status ∈ tb := tb_at 604 (by decide +kernel) (by decide +kernel)
theorem cws_X11_status : Cond.selects yX11_status.cls yX11_status yX11_status ∈ tb := tb_at 605 (by decide +kernel) (by decide +kernel)
theorem mw_X11_line_0 : Cond.fieldLink "GuardedTree" 26 "GuardedTree" "toServer" "LGuardedTree$Line;" ∈ tb := tb_at 473 (by decide +kernel) (by decide +kernel)
theorem dX11_line_0 : decode cX11_line 0 = .ok (.iload_n 1, 1) := by decide +kernel
theorem dX11_line_1 : decode cX11_line 1 = .ok (.ifCond .lt 8, 3) := by decide +kernel
theorem dX11_line_4 : decode cX11_line 4 = .ok (.iload_n 1, 1) := by decide +kernel
theorem dX11_line_5 : decode cX11_line 5 = .ok (.iconst 1, 1) := by decide +kernel
theorem dX11_line_6 : decode cX11_line 6 = .ok (.if_icmp .le 11, 3) := by decide +kernel
theorem dX11_line_9 : decode cX11_line 9 = .ok (.new 113, 3) := by decide +kernel
theorem dX11_line_12 : decode cX11_line 12 = .ok (.dup, 1) := by decide +kernel
theorem dX11_line_13 : decode cX11_line 13 = .ok (.invokespecial 115, 3) := by decide +kernel
theorem dX11_line_16 : decode cX11_line 16 = .ok (.athrow, 1) := by decide +kernel
theorem dX11_line_17 : decode cX11_line 17 = .ok (.iload_n 1, 1) := by decide +kernel
theorem dX11_line_18 : decode cX11_line 18 = .ok (.ifCond .ne 10, 3) := by decide +kernel
theorem dX11_line_21 : decode cX11_line 21 = .ok (.aload_n 0, 1) := by decide +kernel
theorem dX11_line_22 : decode cX11_line 22 = .ok (.getfield 26, 3) := by decide +kernel
theorem dX11_line_25 : decode cX11_line 25 = .ok (.goto 7, 3) := by decide +kernel
theorem dX11_line_28 : decode cX11_line 28 = .ok (.aload_n 0, 1) := by decide +kernel
theorem dX11_line_29 : decode cX11_line 29 = .ok (.getfield 30, 3) := by decide +kernel
theorem dX11_line_32 : decode cX11_line 32 = .ok (.areturn, 1) := by decide +kernel
noncomputable def f_X11_line  : Unit :=
  ()
set_option maxHeartbeats 4000000 in
set_option maxRecDepth 100000 in
theorem c_X11_line (l : Launch) (D : va_G) (ct : Nat → ClassId) (ts : Nat → Nat) (a_this a_this_clientSide a_this_serverSide a_this_toServer a_this_toClient : Nat) (v_connections : Int32) (x1 : Int32)  (h_x : x1 = nI 0)  (sz : Nat) : Met l yX11_line (Cond.code yX11_line cX11_line 2 (some (.object "GuardedTree$Line")) :: tb) { frames := 0, cells := 0, slots := 0, locals := 0 } (PcG D ct SXL ts [.ref a_this, .int x1] [(a_this, .inr (11, [.ref a_this_clientSide, .ref a_this_serverSide, .ref a_this_toServer, .ref a_this_toClient, .int v_connections]))] sz) (va_Qr (fun u : Unit => u = f_X11_line ) (fun u a t => a = a_this_toServer ∧ BG D ct (va_A [(a_this, .inr (11, [.ref a_this_clientSide, .ref a_this_serverSide, .ref a_this_toServer, .ref a_this_toClient, .int v_connections]))] sz) [(a_this, .inr (11, [.ref a_this_clientSide, .ref a_this_serverSide, .ref a_this_toServer, .ref a_this_toClient, .int v_connections]))] t) (va_A [(a_this, .inr (11, [.ref a_this_clientSide, .ref a_this_serverSide, .ref a_this_toServer, .ref a_this_toClient, .int v_connections]))] sz)) 0 0 (va_A [(a_this, .inr (11, [.ref a_this_clientSide, .ref a_this_serverSide, .ref a_this_toServer, .ref a_this_toClient, .int v_connections]))] sz) := by
  refine metJ (l := l) (y := yX11_line) (cc := cX11_line) (maxL := 2) (ret := (some (.object "GuardedTree$Line"))) (rm := { frames := 0, cells := 0, slots := 0, locals := 0 }) (D := D) (ct := ct) (L := SXL) (ts := ts) (av := [.ref a_this, .int x1]) (ws := [(a_this, .inr (11, [.ref a_this_clientSide, .ref a_this_serverSide, .ref a_this_toServer, .ref a_this_toClient, .int v_connections]))]) (sz := sz) (mc := 0) (ms := 0) (QcF := fun A => va_Qr (fun u : Unit => u = f_X11_line ) (fun u a t => a = a_this_toServer ∧ BG D ct A [(a_this, .inr (11, [.ref a_this_clientSide, .ref a_this_serverSide, .ref a_this_toServer, .ref a_this_toClient, .int v_connections]))] t) A) (by decide) (Nat.le_of_ble_eq_true rfl) ?_
  intro p e s m below meth c A X hnm
  obtain ⟨Q, hQ⟩ : ∃ Q, Q = MQ below (va_Qr (fun u : Unit => u = f_X11_line ) (fun u a t => a = a_this_toServer ∧ BG D ct A [(a_this, .inr (11, [.ref a_this_clientSide, .ref a_this_serverSide, .ref a_this_toServer, .ref a_this_toClient, .int v_connections]))] t) A) [.ref a_this, .int x1].toArray s 0 0 A := ⟨_, rfl⟩
  rw [← hQ]
  refine j_lve (lv' := [(0, .ref a_this), (1, .int x1)]) rfl ?_
  refine j_iload_n X 1 dX11_line_0 rfl (q := 1) rfl ?_
  refine j_if_lt (tgt := 9) X dX11_line_1 (by decide) (q := 4) rfl (fun c1 => ?_) (fun c1 => ?_)
  · skip
    subst h_x; exact absurd c1 (by decide)
  · skip
    refine j_iload_n X 1 dX11_line_4 rfl (q := 5) rfl ?_
    refine j_iconst (v := nI 1) X dX11_line_5 (by decide) (q := 6) rfl ?_
    refine j_icmp_le (tgt := 17) X dX11_line_6 (by decide) (q := 9) rfl (fun c2 => ?_) (fun c2 => ?_)
    · skip
      refine j_iload_n X 1 dX11_line_17 rfl (q := 18) rfl ?_
      refine j_if_ne (tgt := 28) X dX11_line_18 (by decide) (q := 21) rfl (fun c3 => ?_) (fun c3 => ?_)
      · skip
        subst h_x; exact absurd c3 (by decide)
      · skip
        refine j_aload_n X 0 dX11_line_21 rfl (q := 22) rfl ?_
        refine j_get (f := 2) X 0 inT11 rfl rfl (by decide) mw_X11_line_0 rfl dX11_line_22 (q := 25) rfl ?_
        refine j_goto (tgt := 32) X dX11_line_25 (by decide) ?_
        rw [hQ]
        exact j_aret X (()) (by first | exact Or.inl ⟨_, rfl⟩ | exact Or.inr ⟨_, rfl⟩) dX11_line_32 (by first | rfl | (simp only [f_X11_line, if_pos c2]; done) | (simp only [f_X11_line, if_pos c2]; rfl)) rfl
    · skip
      subst h_x; exact absurd c2 (by decide)
theorem cal_X11_line : Cal yX11_line cX11_line 2 (some (.object "GuardedTree$Line")) 1 := ⟨tb_at 109 (by decide +kernel) (by decide +kernel), tb_at 832 (by decide +kernel) (by decide +kernel), by decide +kernel, by decide +kernel, by decide +kernel⟩
theorem cwi_X11_line : Cond.instanceMethod yX11_line ∈ tb := tb_at 831 (by decide +kernel) (by decide +kernel)
theorem cws_X11_line : Cond.selects yX11_line.cls yX11_line yX11_line ∈ tb := tb_at 13 (by decide +kernel) (by decide +kernel)
theorem mw_X11_line_1_0 : Cond.fieldLink "GuardedTree" 30 "GuardedTree" "toClient" "LGuardedTree$Line;" ∈ tb := tb_at 474 (by decide +kernel) (by decide +kernel)
noncomputable def f_X11_line_1  : Unit :=
  ()
set_option maxHeartbeats 4000000 in
set_option maxRecDepth 100000 in
theorem c_X11_line_1 (l : Launch) (D : va_G) (ct : Nat → ClassId) (ts : Nat → Nat) (a_this a_this_clientSide a_this_serverSide a_this_toServer a_this_toClient : Nat) (v_connections : Int32) (x1 : Int32)  (h_x : x1 = nI 1)  (sz : Nat) : Met l yX11_line (Cond.code yX11_line cX11_line 2 (some (.object "GuardedTree$Line")) :: tb) { frames := 0, cells := 0, slots := 0, locals := 0 } (PcG D ct SXL ts [.ref a_this, .int x1] [(a_this, .inr (11, [.ref a_this_clientSide, .ref a_this_serverSide, .ref a_this_toServer, .ref a_this_toClient, .int v_connections]))] sz) (va_Qr (fun u : Unit => u = f_X11_line_1 ) (fun u a t => a = a_this_toClient ∧ BG D ct (va_A [(a_this, .inr (11, [.ref a_this_clientSide, .ref a_this_serverSide, .ref a_this_toServer, .ref a_this_toClient, .int v_connections]))] sz) [(a_this, .inr (11, [.ref a_this_clientSide, .ref a_this_serverSide, .ref a_this_toServer, .ref a_this_toClient, .int v_connections]))] t) (va_A [(a_this, .inr (11, [.ref a_this_clientSide, .ref a_this_serverSide, .ref a_this_toServer, .ref a_this_toClient, .int v_connections]))] sz)) 0 0 (va_A [(a_this, .inr (11, [.ref a_this_clientSide, .ref a_this_serverSide, .ref a_this_toServer, .ref a_this_toClient, .int v_connections]))] sz) := by
  refine metJ (l := l) (y := yX11_line) (cc := cX11_line) (maxL := 2) (ret := (some (.object "GuardedTree$Line"))) (rm := { frames := 0, cells := 0, slots := 0, locals := 0 }) (D := D) (ct := ct) (L := SXL) (ts := ts) (av := [.ref a_this, .int x1]) (ws := [(a_this, .inr (11, [.ref a_this_clientSide, .ref a_this_serverSide, .ref a_this_toServer, .ref a_this_toClient, .int v_connections]))]) (sz := sz) (mc := 0) (ms := 0) (QcF := fun A => va_Qr (fun u : Unit => u = f_X11_line_1 ) (fun u a t => a = a_this_toClient ∧ BG D ct A [(a_this, .inr (11, [.ref a_this_clientSide, .ref a_this_serverSide, .ref a_this_toServer, .ref a_this_toClient, .int v_connections]))] t) A) (by decide) (Nat.le_of_ble_eq_true rfl) ?_
  intro p e s m below meth c A X hnm
  obtain ⟨Q, hQ⟩ : ∃ Q, Q = MQ below (va_Qr (fun u : Unit => u = f_X11_line_1 ) (fun u a t => a = a_this_toClient ∧ BG D ct A [(a_this, .inr (11, [.ref a_this_clientSide, .ref a_this_serverSide, .ref a_this_toServer, .ref a_this_toClient, .int v_connections]))] t) A) [.ref a_this, .int x1].toArray s 0 0 A := ⟨_, rfl⟩
  rw [← hQ]
  refine j_lve (lv' := [(0, .ref a_this), (1, .int x1)]) rfl ?_
  refine j_iload_n X 1 dX11_line_0 rfl (q := 1) rfl ?_
  refine j_if_lt (tgt := 9) X dX11_line_1 (by decide) (q := 4) rfl (fun c1 => ?_) (fun c1 => ?_)
  · skip
    subst h_x; exact absurd c1 (by decide)
  · skip
    refine j_iload_n X 1 dX11_line_4 rfl (q := 5) rfl ?_
    refine j_iconst (v := nI 1) X dX11_line_5 (by decide) (q := 6) rfl ?_
    refine j_icmp_le (tgt := 17) X dX11_line_6 (by decide) (q := 9) rfl (fun c2 => ?_) (fun c2 => ?_)
    · skip
      refine j_iload_n X 1 dX11_line_17 rfl (q := 18) rfl ?_
      refine j_if_ne (tgt := 28) X dX11_line_18 (by decide) (q := 21) rfl (fun c3 => ?_) (fun c3 => ?_)
      · skip
        refine j_aload_n X 0 dX11_line_28 rfl (q := 29) rfl ?_
        refine j_get (f := 3) X 0 inT11 rfl rfl (by decide) mw_X11_line_1_0 rfl dX11_line_29 (q := 32) rfl ?_
        rw [hQ]
        exact j_aret X (()) (by first | exact Or.inl ⟨_, rfl⟩ | exact Or.inr ⟨_, rfl⟩) dX11_line_32 (by first | rfl | (simp only [f_X11_line_1, if_pos c2, if_neg c3]; done) | (simp only [f_X11_line_1, if_pos c2, if_neg c3]; rfl)) rfl
      · skip
        subst h_x; exact absurd c3 (by decide)
    · skip
      subst h_x; exact absurd c2 (by decide)
theorem mw_X11_way_0 : Cond.fieldLink "GuardedTree" 124 "GuardedTree$Line" "size" "I" ∈ tb := tb_at 465 (by decide +kernel) (by decide +kernel)
theorem mw_X11_way_1 : Cond.methodLink "GuardedTree" 120 yX11_line ∈ tb := tb_at 829 (by decide +kernel) (by decide +kernel)
theorem dX11_way_0 : decode cX11_way 0 = .ok (.aload_n 0, 1) := by decide +kernel
theorem dX11_way_1 : decode cX11_way 1 = .ok (.iload_n 1, 1) := by decide +kernel
theorem dX11_way_2 : decode cX11_way 2 = .ok (.invokevirtual 120, 3) := by decide +kernel
theorem dX11_way_5 : decode cX11_way 5 = .ok (.getfield 124, 3) := by decide +kernel
theorem dX11_way_8 : decode cX11_way 8 = .ok (.ireturn, 1) := by decide +kernel
noncomputable def f_X11_way (v_toServer_size : Nat) : Int32 :=
  nI v_toServer_size
set_option maxHeartbeats 4000000 in
set_option maxRecDepth 100000 in
theorem c_X11_way (l : Launch) (D : va_G) (ct : Nat → ClassId) (ts : Nat → Nat) (a_this a_this_toServer a_this_clientSide a_this_serverSide a_this_toClient a_this_toServer_bytes : Nat) (v_connections : Int32) (v_toServer_size : Nat) (x1 : Int32)  (h_x : x1 = nI 0)  (sz : Nat) : Met l yX11_way (Cond.code yX11_way cX11_way 2 (some .int) :: tb) { frames := 1, cells := 0, slots := 0, locals := 21 } (PcG D ct SXL ts [.ref a_this, .int x1] [(a_this, .inr (11, [.ref a_this_clientSide, .ref a_this_serverSide, .ref a_this_toServer, .ref a_this_toClient, .int v_connections])), (a_this_toServer, .inr (6, [.ref a_this_toServer_bytes, .int (nI v_toServer_size)]))] sz) (va_Qi (fun (r : Int32) (u : Unit) => r = f_X11_way v_toServer_size) (fun u => BG D ct (va_A [(a_this, .inr (11, [.ref a_this_clientSide, .ref a_this_serverSide, .ref a_this_toServer, .ref a_this_toClient, .int v_connections])), (a_this_toServer, .inr (6, [.ref a_this_toServer_bytes, .int (nI v_toServer_size)]))] sz) [(a_this, .inr (11, [.ref a_this_clientSide, .ref a_this_serverSide, .ref a_this_toServer, .ref a_this_toClient, .int v_connections])), (a_this_toServer, .inr (6, [.ref a_this_toServer_bytes, .int (nI v_toServer_size)]))]) (va_A [(a_this, .inr (11, [.ref a_this_clientSide, .ref a_this_serverSide, .ref a_this_toServer, .ref a_this_toClient, .int v_connections])), (a_this_toServer, .inr (6, [.ref a_this_toServer_bytes, .int (nI v_toServer_size)]))] sz)) 0 0 (va_A [(a_this, .inr (11, [.ref a_this_clientSide, .ref a_this_serverSide, .ref a_this_toServer, .ref a_this_toClient, .int v_connections])), (a_this_toServer, .inr (6, [.ref a_this_toServer_bytes, .int (nI v_toServer_size)]))] sz) := by
  refine metJ (l := l) (y := yX11_way) (cc := cX11_way) (maxL := 2) (ret := (some .int)) (rm := { frames := 1, cells := 0, slots := 0, locals := 21 }) (D := D) (ct := ct) (L := SXL) (ts := ts) (av := [.ref a_this, .int x1]) (ws := [(a_this, .inr (11, [.ref a_this_clientSide, .ref a_this_serverSide, .ref a_this_toServer, .ref a_this_toClient, .int v_connections])), (a_this_toServer, .inr (6, [.ref a_this_toServer_bytes, .int (nI v_toServer_size)]))]) (sz := sz) (mc := 0) (ms := 0) (QcF := fun A => va_Qi (fun (r : Int32) (u : Unit) => r = f_X11_way v_toServer_size) (fun u => BG D ct A [(a_this, .inr (11, [.ref a_this_clientSide, .ref a_this_serverSide, .ref a_this_toServer, .ref a_this_toClient, .int v_connections])), (a_this_toServer, .inr (6, [.ref a_this_toServer_bytes, .int (nI v_toServer_size)]))]) A) (by decide) (Nat.le_of_ble_eq_true rfl) ?_
  intro p e s m below meth c A X hnm
  obtain ⟨Q, hQ⟩ : ∃ Q, Q = MQ below (va_Qi (fun (r : Int32) (u : Unit) => r = f_X11_way v_toServer_size) (fun u => BG D ct A [(a_this, .inr (11, [.ref a_this_clientSide, .ref a_this_serverSide, .ref a_this_toServer, .ref a_this_toClient, .int v_connections])), (a_this_toServer, .inr (6, [.ref a_this_toServer_bytes, .int (nI v_toServer_size)]))]) A) [.ref a_this, .int x1].toArray s 0 0 A := ⟨_, rfl⟩
  rw [← hQ]
  refine j_lve (lv' := [(0, .ref a_this), (1, .int x1)]) rfl ?_
  refine j_aload_n X 0 dX11_way_0 rfl (q := 1) rfl ?_
  refine j_iload_n X 1 dX11_way_1 rfl (q := 2) rfl ?_
  refine j_callVr (As := [.int x1]) (rest := []) (wn := (fun u1 => [(a_this, .inr (11, [.ref a_this_clientSide, .ref a_this_serverSide, .ref a_this_toServer, .ref a_this_toClient, .int v_connections])), (a_this_toServer, .inr (6, [.ref a_this_toServer_bytes, .int (nI v_toServer_size)]))])) (wr := [(a_this_toServer, .inr (6, [.ref a_this_toServer_bytes, .int (nI v_toServer_size)]))]) X (fun sz => c_X11_line l D ct ts a_this a_this_clientSide a_this_serverSide a_this_toServer a_this_toClient v_connections x1 (by first | omega | assumption) sz) cal_X11_line 0 rfl rfl mw_X11_way_1 cwi_X11_line cws_X11_line rfl ⟨by decide, by decide⟩ rfl rfl (Nat.le_of_ble_eq_true rfl) ⟨by decide, by decide⟩ [0] [1] [1, 0] rfl (by decide) rfl (by decide) (by decide) (fun _ => rfl) (by decide) dX11_way_2 (q := 5) rfl (fun u1 hu1 => ?_)
  refine j_get (f := 1) X 1 inT6 rfl rfl (by decide) mw_X11_way_0 rfl dX11_way_5 (q := 8) rfl ?_
  rw [hQ]
  exact j_iret X (()) dX11_way_8 rfl rfl
theorem cal_X11_way : Cal yX11_way cX11_way 2 (some .int) 1 := ⟨tb_at 109 (by decide +kernel) (by decide +kernel), tb_at 828 (by decide +kernel) (by decide +kernel), by decide +kernel, by decide +kernel, by decide +kernel⟩
theorem cwi_X11_way : Cond.instanceMethod yX11_way ∈ tb := tb_at 826 (by decide +kernel) (by decide +kernel)
theorem cws_X11_way : Cond.selects yX11_way.cls yX11_way yX11_way ∈ tb := tb_at 827 (by decide +kernel) (by decide +kernel)
theorem mw_X11_way_1_0 : Cond.fieldLink "GuardedTree" 124 "GuardedTree$Line" "size" "I" ∈ tb := tb_at 465 (by decide +kernel) (by decide +kernel)
theorem mw_X11_way_1_1 : Cond.methodLink "GuardedTree" 120 yX11_line ∈ tb := tb_at 829 (by decide +kernel) (by decide +kernel)
noncomputable def f_X11_way_1 (v_toClient_size : Nat) : Int32 :=
  nI v_toClient_size
set_option maxHeartbeats 4000000 in
set_option maxRecDepth 100000 in
theorem c_X11_way_1 (l : Launch) (D : va_G) (ct : Nat → ClassId) (ts : Nat → Nat) (a_this a_this_toClient a_this_clientSide a_this_serverSide a_this_toServer a_this_toClient_bytes : Nat) (v_connections : Int32) (v_toClient_size : Nat) (x1 : Int32)  (h_x : x1 = nI 1)  (sz : Nat) : Met l yX11_way (Cond.code yX11_way cX11_way 2 (some .int) :: tb) { frames := 1, cells := 0, slots := 0, locals := 21 } (PcG D ct SXL ts [.ref a_this, .int x1] [(a_this, .inr (11, [.ref a_this_clientSide, .ref a_this_serverSide, .ref a_this_toServer, .ref a_this_toClient, .int v_connections])), (a_this_toClient, .inr (6, [.ref a_this_toClient_bytes, .int (nI v_toClient_size)]))] sz) (va_Qi (fun (r : Int32) (u : Unit) => r = f_X11_way_1 v_toClient_size) (fun u => BG D ct (va_A [(a_this, .inr (11, [.ref a_this_clientSide, .ref a_this_serverSide, .ref a_this_toServer, .ref a_this_toClient, .int v_connections])), (a_this_toClient, .inr (6, [.ref a_this_toClient_bytes, .int (nI v_toClient_size)]))] sz) [(a_this, .inr (11, [.ref a_this_clientSide, .ref a_this_serverSide, .ref a_this_toServer, .ref a_this_toClient, .int v_connections])), (a_this_toClient, .inr (6, [.ref a_this_toClient_bytes, .int (nI v_toClient_size)]))]) (va_A [(a_this, .inr (11, [.ref a_this_clientSide, .ref a_this_serverSide, .ref a_this_toServer, .ref a_this_toClient, .int v_connections])), (a_this_toClient, .inr (6, [.ref a_this_toClient_bytes, .int (nI v_toClient_size)]))] sz)) 0 0 (va_A [(a_this, .inr (11, [.ref a_this_clientSide, .ref a_this_serverSide, .ref a_this_toServer, .ref a_this_toClient, .int v_connections])), (a_this_toClient, .inr (6, [.ref a_this_toClient_bytes, .int (nI v_toClient_size)]))] sz) := by
  refine metJ (l := l) (y := yX11_way) (cc := cX11_way) (maxL := 2) (ret := (some .int)) (rm := { frames := 1, cells := 0, slots := 0, locals := 21 }) (D := D) (ct := ct) (L := SXL) (ts := ts) (av := [.ref a_this, .int x1]) (ws := [(a_this, .inr (11, [.ref a_this_clientSide, .ref a_this_serverSide, .ref a_this_toServer, .ref a_this_toClient, .int v_connections])), (a_this_toClient, .inr (6, [.ref a_this_toClient_bytes, .int (nI v_toClient_size)]))]) (sz := sz) (mc := 0) (ms := 0) (QcF := fun A => va_Qi (fun (r : Int32) (u : Unit) => r = f_X11_way_1 v_toClient_size) (fun u => BG D ct A [(a_this, .inr (11, [.ref a_this_clientSide, .ref a_this_serverSide, .ref a_this_toServer, .ref a_this_toClient, .int v_connections])), (a_this_toClient, .inr (6, [.ref a_this_toClient_bytes, .int (nI v_toClient_size)]))]) A) (by decide) (Nat.le_of_ble_eq_true rfl) ?_
  intro p e s m below meth c A X hnm
  obtain ⟨Q, hQ⟩ : ∃ Q, Q = MQ below (va_Qi (fun (r : Int32) (u : Unit) => r = f_X11_way_1 v_toClient_size) (fun u => BG D ct A [(a_this, .inr (11, [.ref a_this_clientSide, .ref a_this_serverSide, .ref a_this_toServer, .ref a_this_toClient, .int v_connections])), (a_this_toClient, .inr (6, [.ref a_this_toClient_bytes, .int (nI v_toClient_size)]))]) A) [.ref a_this, .int x1].toArray s 0 0 A := ⟨_, rfl⟩
  rw [← hQ]
  refine j_lve (lv' := [(0, .ref a_this), (1, .int x1)]) rfl ?_
  refine j_aload_n X 0 dX11_way_0 rfl (q := 1) rfl ?_
  refine j_iload_n X 1 dX11_way_1 rfl (q := 2) rfl ?_
  refine j_callVr (As := [.int x1]) (rest := []) (wn := (fun u1 => [(a_this, .inr (11, [.ref a_this_clientSide, .ref a_this_serverSide, .ref a_this_toServer, .ref a_this_toClient, .int v_connections])), (a_this_toClient, .inr (6, [.ref a_this_toClient_bytes, .int (nI v_toClient_size)]))])) (wr := [(a_this_toClient, .inr (6, [.ref a_this_toClient_bytes, .int (nI v_toClient_size)]))]) X (fun sz => c_X11_line_1 l D ct ts a_this a_this_clientSide a_this_serverSide a_this_toServer a_this_toClient v_connections x1 (by first | omega | assumption) sz) cal_X11_line 0 rfl rfl mw_X11_way_1_1 cwi_X11_line cws_X11_line rfl ⟨by decide, by decide⟩ rfl rfl (Nat.le_of_ble_eq_true rfl) ⟨by decide, by decide⟩ [0] [1] [1, 0] rfl (by decide) rfl (by decide) (by decide) (fun _ => rfl) (by decide) dX11_way_2 (q := 5) rfl (fun u1 hu1 => ?_)
  refine j_get (f := 1) X 1 inT6 rfl rfl (by decide) mw_X11_way_1_0 rfl dX11_way_5 (q := 8) rfl ?_
  rw [hQ]
  exact j_iret X (()) dX11_way_8 rfl rfl
theorem mw_X11_credit_0 : Cond.fieldLink "GuardedTree" 10 "GuardedTree" "clientSide" "LGuardedTree$Client;" ∈ tb := tb_at 471 (by decide +kernel) (by decide +kernel)
theorem mw_X11_credit_1 : Cond.fieldLink "GuardedTree" 57 "GuardedTree$Client" "state" "I" ∈ tb := tb_at 317 (by decide +kernel) (by decide +kernel)
theorem dX11_credit_0 : decode cX11_credit 0 = .ok (.iload_n 1, 1) := by decide +kernel
theorem dX11_credit_1 : decode cX11_credit 1 = .ok (.ifCond .lt 8, 3) := by decide +kernel
theorem dX11_credit_4 : decode cX11_credit 4 = .ok (.iload_n 1, 1) := by decide +kernel
theorem dX11_credit_5 : decode cX11_credit 5 = .ok (.iconst 1, 1) := by decide +kernel
theorem dX11_credit_6 : decode cX11_credit 6 = .ok (.if_icmp .le 11, 3) := by decide +kernel
theorem dX11_credit_9 : decode cX11_credit 9 = .ok (.new 113, 3) := by decide +kernel
theorem dX11_credit_12 : decode cX11_credit 12 = .ok (.dup, 1) := by decide +kernel
theorem dX11_credit_13 : decode cX11_credit 13 = .ok (.invokespecial 115, 3) := by decide +kernel
theorem dX11_credit_16 : decode cX11_credit 16 = .ok (.athrow, 1) := by decide +kernel
theorem dX11_credit_17 : decode cX11_credit 17 = .ok (.iload_n 1, 1) := by decide +kernel
theorem dX11_credit_18 : decode cX11_credit 18 = .ok (.ifCond .ne 29, 3) := by decide +kernel
theorem dX11_credit_21 : decode cX11_credit 21 = .ok (.aload_n 0, 1) := by decide +kernel
theorem dX11_credit_22 : decode cX11_credit 22 = .ok (.getfield 10, 3) := by decide +kernel
theorem dX11_credit_25 : decode cX11_credit 25 = .ok (.getfield 57, 3) := by decide +kernel
theorem dX11_credit_28 : decode cX11_credit 28 = .ok (.iconst 2, 1) := by decide +kernel
theorem dX11_credit_29 : decode cX11_credit 29 = .ok (.if_icmp .ne 16, 3) := by decide +kernel
theorem dX11_credit_32 : decode cX11_credit 32 = .ok (.aload_n 0, 1) := by decide +kernel
theorem dX11_credit_33 : decode cX11_credit 33 = .ok (.getfield 10, 3) := by decide +kernel
theorem dX11_credit_36 : decode cX11_credit 36 = .ok (.getfield 84, 3) := by decide +kernel
theorem dX11_credit_39 : decode cX11_credit 39 = .ok (.getfield 116, 3) := by decide +kernel
theorem dX11_credit_42 : decode cX11_credit 42 = .ok (.goto 4, 3) := by decide +kernel
theorem dX11_credit_45 : decode cX11_credit 45 = .ok (.iconst 0, 1) := by decide +kernel
theorem dX11_credit_46 : decode cX11_credit 46 = .ok (.ireturn, 1) := by decide +kernel
theorem dX11_credit_47 : decode cX11_credit 47 = .ok (.aload_n 0, 1) := by decide +kernel
theorem dX11_credit_48 : decode cX11_credit 48 = .ok (.getfield 19, 3) := by decide +kernel
theorem dX11_credit_51 : decode cX11_credit 51 = .ok (.getfield 60, 3) := by decide +kernel
theorem dX11_credit_54 : decode cX11_credit 54 = .ok (.iconst 2, 1) := by decide +kernel
theorem dX11_credit_55 : decode cX11_credit 55 = .ok (.if_icmp .ne 16, 3) := by decide +kernel
theorem dX11_credit_58 : decode cX11_credit 58 = .ok (.aload_n 0, 1) := by decide +kernel
theorem dX11_credit_59 : decode cX11_credit 59 = .ok (.getfield 19, 3) := by decide +kernel
theorem dX11_credit_62 : decode cX11_credit 62 = .ok (.getfield 119, 3) := by decide +kernel
theorem dX11_credit_65 : decode cX11_credit 65 = .ok (.getfield 116, 3) := by decide +kernel
theorem dX11_credit_68 : decode cX11_credit 68 = .ok (.goto 4, 3) := by decide +kernel
theorem dX11_credit_71 : decode cX11_credit 71 = .ok (.iconst 0, 1) := by decide +kernel
theorem dX11_credit_72 : decode cX11_credit 72 = .ok (.ireturn, 1) := by decide +kernel
noncomputable def f_X11_credit  : Int32 :=
  nI 0
set_option maxHeartbeats 4000000 in
set_option maxRecDepth 100000 in
theorem c_X11_credit (l : Launch) (D : va_G) (ct : Nat → ClassId) (ts : Nat → Nat) (a_this a_this_clientSide a_this_serverSide a_this_toServer a_this_toClient a_this_clientSide_agreement a_this_clientSide_in a_this_clientSide_out a_this_clientSide_requests a_this_clientSide_words : Nat) (v_connections : Int32) (v_clientSide_state : Int32) (v_clientSide_asked : Nat) (v_clientSide_wordCount : Nat) (v_clientSide_ungranted : Int32) (x1 : Int32)  (h_x : x1 = nI 0) (h_st : v_clientSide_state = nI 0)  (sz : Nat) : Met l yX11_credit (Cond.code yX11_credit cX11_credit 2 (some .int) :: tb) { frames := 0, cells := 0, slots := 0, locals := 0 } (PcG D ct SXL ts [.ref a_this, .int x1] [(a_this, .inr (11, [.ref a_this_clientSide, .ref a_this_serverSide, .ref a_this_toServer, .ref a_this_toClient, .int v_connections])), (a_this_clientSide, .inr (3, [.ref a_this_clientSide_agreement, .ref a_this_clientSide_in, .ref a_this_clientSide_out, .ref a_this_clientSide_requests, .ref a_this_clientSide_words, .int v_clientSide_state, .int (nI v_clientSide_asked), .int (nI v_clientSide_wordCount), .int v_clientSide_ungranted]))] sz) (va_Qi (fun (r : Int32) (u : Unit) => r = f_X11_credit ) (fun u => BG D ct (va_A [(a_this, .inr (11, [.ref a_this_clientSide, .ref a_this_serverSide, .ref a_this_toServer, .ref a_this_toClient, .int v_connections])), (a_this_clientSide, .inr (3, [.ref a_this_clientSide_agreement, .ref a_this_clientSide_in, .ref a_this_clientSide_out, .ref a_this_clientSide_requests, .ref a_this_clientSide_words, .int v_clientSide_state, .int (nI v_clientSide_asked), .int (nI v_clientSide_wordCount), .int v_clientSide_ungranted]))] sz) [(a_this, .inr (11, [.ref a_this_clientSide, .ref a_this_serverSide, .ref a_this_toServer, .ref a_this_toClient, .int v_connections])), (a_this_clientSide, .inr (3, [.ref a_this_clientSide_agreement, .ref a_this_clientSide_in, .ref a_this_clientSide_out, .ref a_this_clientSide_requests, .ref a_this_clientSide_words, .int v_clientSide_state, .int (nI v_clientSide_asked), .int (nI v_clientSide_wordCount), .int v_clientSide_ungranted]))]) (va_A [(a_this, .inr (11, [.ref a_this_clientSide, .ref a_this_serverSide, .ref a_this_toServer, .ref a_this_toClient, .int v_connections])), (a_this_clientSide, .inr (3, [.ref a_this_clientSide_agreement, .ref a_this_clientSide_in, .ref a_this_clientSide_out, .ref a_this_clientSide_requests, .ref a_this_clientSide_words, .int v_clientSide_state, .int (nI v_clientSide_asked), .int (nI v_clientSide_wordCount), .int v_clientSide_ungranted]))] sz)) 0 0 (va_A [(a_this, .inr (11, [.ref a_this_clientSide, .ref a_this_serverSide, .ref a_this_toServer, .ref a_this_toClient, .int v_connections])), (a_this_clientSide, .inr (3, [.ref a_this_clientSide_agreement, .ref a_this_clientSide_in, .ref a_this_clientSide_out, .ref a_this_clientSide_requests, .ref a_this_clientSide_words, .int v_clientSide_state, .int (nI v_clientSide_asked), .int (nI v_clientSide_wordCount), .int v_clientSide_ungranted]))] sz) := by
  refine metJ (l := l) (y := yX11_credit) (cc := cX11_credit) (maxL := 2) (ret := (some .int)) (rm := { frames := 0, cells := 0, slots := 0, locals := 0 }) (D := D) (ct := ct) (L := SXL) (ts := ts) (av := [.ref a_this, .int x1]) (ws := [(a_this, .inr (11, [.ref a_this_clientSide, .ref a_this_serverSide, .ref a_this_toServer, .ref a_this_toClient, .int v_connections])), (a_this_clientSide, .inr (3, [.ref a_this_clientSide_agreement, .ref a_this_clientSide_in, .ref a_this_clientSide_out, .ref a_this_clientSide_requests, .ref a_this_clientSide_words, .int v_clientSide_state, .int (nI v_clientSide_asked), .int (nI v_clientSide_wordCount), .int v_clientSide_ungranted]))]) (sz := sz) (mc := 0) (ms := 0) (QcF := fun A => va_Qi (fun (r : Int32) (u : Unit) => r = f_X11_credit ) (fun u => BG D ct A [(a_this, .inr (11, [.ref a_this_clientSide, .ref a_this_serverSide, .ref a_this_toServer, .ref a_this_toClient, .int v_connections])), (a_this_clientSide, .inr (3, [.ref a_this_clientSide_agreement, .ref a_this_clientSide_in, .ref a_this_clientSide_out, .ref a_this_clientSide_requests, .ref a_this_clientSide_words, .int v_clientSide_state, .int (nI v_clientSide_asked), .int (nI v_clientSide_wordCount), .int v_clientSide_ungranted]))]) A) (by decide) (Nat.le_of_ble_eq_true rfl) ?_
  intro p e s m below meth c A X hnm
  obtain ⟨Q, hQ⟩ : ∃ Q, Q = MQ below (va_Qi (fun (r : Int32) (u : Unit) => r = f_X11_credit ) (fun u => BG D ct A [(a_this, .inr (11, [.ref a_this_clientSide, .ref a_this_serverSide, .ref a_this_toServer, .ref a_this_toClient, .int v_connections])), (a_this_clientSide, .inr (3, [.ref a_this_clientSide_agreement, .ref a_this_clientSide_in, .ref a_this_clientSide_out, .ref a_this_clientSide_requests, .ref a_this_clientSide_words, .int v_clientSide_state, .int (nI v_clientSide_asked), .int (nI v_clientSide_wordCount), .int v_clientSide_ungranted]))]) A) [.ref a_this, .int x1].toArray s 0 0 A := ⟨_, rfl⟩
  rw [← hQ]
  refine j_lve (lv' := [(0, .ref a_this), (1, .int x1)]) rfl ?_
  refine j_iload_n X 1 dX11_credit_0 rfl (q := 1) rfl ?_
  refine j_if_lt (tgt := 9) X dX11_credit_1 (by decide) (q := 4) rfl (fun c1 => ?_) (fun c1 => ?_)
  · skip
    subst h_x; exact absurd c1 (by decide)
  · skip
    refine j_iload_n X 1 dX11_credit_4 rfl (q := 5) rfl ?_
    refine j_iconst (v := nI 1) X dX11_credit_5 (by decide) (q := 6) rfl ?_
    refine j_icmp_le (tgt := 17) X dX11_credit_6 (by decide) (q := 9) rfl (fun c2 => ?_) (fun c2 => ?_)
    · skip
      refine j_iload_n X 1 dX11_credit_17 rfl (q := 18) rfl ?_
      refine j_if_ne (tgt := 47) X dX11_credit_18 (by decide) (q := 21) rfl (fun c3 => ?_) (fun c3 => ?_)
      · skip
        subst h_x; exact absurd c3 (by decide)
      · skip
        refine j_aload_n X 0 dX11_credit_21 rfl (q := 22) rfl ?_
        refine j_get (f := 0) X 0 inT11 rfl rfl (by decide) mw_X11_credit_0 rfl dX11_credit_22 (q := 25) rfl ?_
        refine j_get (f := 5) X 1 inT3 rfl rfl (by decide) mw_X11_credit_1 rfl dX11_credit_25 (q := 28) rfl ?_
        refine j_iconst (v := nI 2) X dX11_credit_28 (by decide) (q := 29) rfl ?_
        refine j_icmp_ne (tgt := 45) X dX11_credit_29 (by decide) (q := 32) rfl (fun c4 => ?_) (fun c4 => ?_)
        · skip
          refine j_iconst (v := nI 0) X dX11_credit_45 (by decide) (q := 46) rfl ?_
          rw [hQ]
          exact j_iret X (()) dX11_credit_46 (by first | rfl | (simp only [f_X11_credit, if_pos c2, if_neg c4]; done) | (simp only [f_X11_credit, if_pos c2, if_neg c4]; rfl)) rfl
        · skip
          exact absurd (h_st.symm.trans c4) (by decide)
    · skip
      subst h_x; exact absurd c2 (by decide)
theorem cal_X11_credit : Cal yX11_credit cX11_credit 2 (some .int) 1 := ⟨tb_at 109 (by decide +kernel) (by decide +kernel), tb_at 821 (by decide +kernel) (by decide +kernel), by decide +kernel, by decide +kernel, by decide +kernel⟩
theorem cwi_X11_credit : Cond.instanceMethod yX11_credit ∈ tb := tb_at 819 (by decide +kernel) (by decide +kernel)
theorem cws_X11_credit : Cond.selects yX11_credit.cls yX11_credit yX11_credit ∈ tb := tb_at 820 (by decide +kernel) (by decide +kernel)
theorem mw_X11_credit_1_0 : Cond.fieldLink "GuardedTree" 19 "GuardedTree" "serverSide" "LGuardedTree$Server;" ∈ tb := tb_at 472 (by decide +kernel) (by decide +kernel)
theorem mw_X11_credit_1_1 : Cond.fieldLink "GuardedTree" 60 "GuardedTree$Server" "state" "I" ∈ tb := tb_at 420 (by decide +kernel) (by decide +kernel)
noncomputable def f_X11_credit_1  : Int32 :=
  nI 0
set_option maxHeartbeats 4000000 in
set_option maxRecDepth 100000 in
theorem c_X11_credit_1 (l : Launch) (D : va_G) (ct : Nat → ClassId) (ts : Nat → Nat) (a_this a_this_serverSide a_this_clientSide a_this_toServer a_this_toClient a_this_serverSide_agreement a_this_serverSide_in a_this_serverSide_out a_this_serverSide_tree a_this_serverSide_disk a_this_serverSide_numbers a_this_serverSide_answers a_this_serverSide_counts a_this_serverSide_costs a_this_serverSide_bytes : Nat) (v_connections : Int32) (v_serverSide_state : Int32) (v_serverSide_first : Nat) (v_serverSide_waiting : Nat) (v_serverSide_ungranted : Int32) (v_serverSide_answered : Int32) (x1 : Int32)  (h_x : x1 = nI 1) (h_st : v_serverSide_state = nI 0)  (sz : Nat) : Met l yX11_credit (Cond.code yX11_credit cX11_credit 2 (some .int) :: tb) { frames := 0, cells := 0, slots := 0, locals := 0 } (PcG D ct SXL ts [.ref a_this, .int x1] [(a_this, .inr (11, [.ref a_this_clientSide, .ref a_this_serverSide, .ref a_this_toServer, .ref a_this_toClient, .int v_connections])), (a_this_serverSide, .inr (9, [.ref a_this_serverSide_agreement, .ref a_this_serverSide_in, .ref a_this_serverSide_out, .ref a_this_serverSide_tree, .ref a_this_serverSide_disk, .ref a_this_serverSide_numbers, .ref a_this_serverSide_answers, .ref a_this_serverSide_counts, .ref a_this_serverSide_costs, .ref a_this_serverSide_bytes, .int v_serverSide_state, .int (nI v_serverSide_first), .int (nI v_serverSide_waiting), .int v_serverSide_ungranted, .int v_serverSide_answered]))] sz) (va_Qi (fun (r : Int32) (u : Unit) => r = f_X11_credit_1 ) (fun u => BG D ct (va_A [(a_this, .inr (11, [.ref a_this_clientSide, .ref a_this_serverSide, .ref a_this_toServer, .ref a_this_toClient, .int v_connections])), (a_this_serverSide, .inr (9, [.ref a_this_serverSide_agreement, .ref a_this_serverSide_in, .ref a_this_serverSide_out, .ref a_this_serverSide_tree, .ref a_this_serverSide_disk, .ref a_this_serverSide_numbers, .ref a_this_serverSide_answers, .ref a_this_serverSide_counts, .ref a_this_serverSide_costs, .ref a_this_serverSide_bytes, .int v_serverSide_state, .int (nI v_serverSide_first), .int (nI v_serverSide_waiting), .int v_serverSide_ungranted, .int v_serverSide_answered]))] sz) [(a_this, .inr (11, [.ref a_this_clientSide, .ref a_this_serverSide, .ref a_this_toServer, .ref a_this_toClient, .int v_connections])), (a_this_serverSide, .inr (9, [.ref a_this_serverSide_agreement, .ref a_this_serverSide_in, .ref a_this_serverSide_out, .ref a_this_serverSide_tree, .ref a_this_serverSide_disk, .ref a_this_serverSide_numbers, .ref a_this_serverSide_answers, .ref a_this_serverSide_counts, .ref a_this_serverSide_costs, .ref a_this_serverSide_bytes, .int v_serverSide_state, .int (nI v_serverSide_first), .int (nI v_serverSide_waiting), .int v_serverSide_ungranted, .int v_serverSide_answered]))]) (va_A [(a_this, .inr (11, [.ref a_this_clientSide, .ref a_this_serverSide, .ref a_this_toServer, .ref a_this_toClient, .int v_connections])), (a_this_serverSide, .inr (9, [.ref a_this_serverSide_agreement, .ref a_this_serverSide_in, .ref a_this_serverSide_out, .ref a_this_serverSide_tree, .ref a_this_serverSide_disk, .ref a_this_serverSide_numbers, .ref a_this_serverSide_answers, .ref a_this_serverSide_counts, .ref a_this_serverSide_costs, .ref a_this_serverSide_bytes, .int v_serverSide_state, .int (nI v_serverSide_first), .int (nI v_serverSide_waiting), .int v_serverSide_ungranted, .int v_serverSide_answered]))] sz)) 0 0 (va_A [(a_this, .inr (11, [.ref a_this_clientSide, .ref a_this_serverSide, .ref a_this_toServer, .ref a_this_toClient, .int v_connections])), (a_this_serverSide, .inr (9, [.ref a_this_serverSide_agreement, .ref a_this_serverSide_in, .ref a_this_serverSide_out, .ref a_this_serverSide_tree, .ref a_this_serverSide_disk, .ref a_this_serverSide_numbers, .ref a_this_serverSide_answers, .ref a_this_serverSide_counts, .ref a_this_serverSide_costs, .ref a_this_serverSide_bytes, .int v_serverSide_state, .int (nI v_serverSide_first), .int (nI v_serverSide_waiting), .int v_serverSide_ungranted, .int v_serverSide_answered]))] sz) := by
  refine metJ (l := l) (y := yX11_credit) (cc := cX11_credit) (maxL := 2) (ret := (some .int)) (rm := { frames := 0, cells := 0, slots := 0, locals := 0 }) (D := D) (ct := ct) (L := SXL) (ts := ts) (av := [.ref a_this, .int x1]) (ws := [(a_this, .inr (11, [.ref a_this_clientSide, .ref a_this_serverSide, .ref a_this_toServer, .ref a_this_toClient, .int v_connections])), (a_this_serverSide, .inr (9, [.ref a_this_serverSide_agreement, .ref a_this_serverSide_in, .ref a_this_serverSide_out, .ref a_this_serverSide_tree, .ref a_this_serverSide_disk, .ref a_this_serverSide_numbers, .ref a_this_serverSide_answers, .ref a_this_serverSide_counts, .ref a_this_serverSide_costs, .ref a_this_serverSide_bytes, .int v_serverSide_state, .int (nI v_serverSide_first), .int (nI v_serverSide_waiting), .int v_serverSide_ungranted, .int v_serverSide_answered]))]) (sz := sz) (mc := 0) (ms := 0) (QcF := fun A => va_Qi (fun (r : Int32) (u : Unit) => r = f_X11_credit_1 ) (fun u => BG D ct A [(a_this, .inr (11, [.ref a_this_clientSide, .ref a_this_serverSide, .ref a_this_toServer, .ref a_this_toClient, .int v_connections])), (a_this_serverSide, .inr (9, [.ref a_this_serverSide_agreement, .ref a_this_serverSide_in, .ref a_this_serverSide_out, .ref a_this_serverSide_tree, .ref a_this_serverSide_disk, .ref a_this_serverSide_numbers, .ref a_this_serverSide_answers, .ref a_this_serverSide_counts, .ref a_this_serverSide_costs, .ref a_this_serverSide_bytes, .int v_serverSide_state, .int (nI v_serverSide_first), .int (nI v_serverSide_waiting), .int v_serverSide_ungranted, .int v_serverSide_answered]))]) A) (by decide) (Nat.le_of_ble_eq_true rfl) ?_
  intro p e s m below meth c A X hnm
  obtain ⟨Q, hQ⟩ : ∃ Q, Q = MQ below (va_Qi (fun (r : Int32) (u : Unit) => r = f_X11_credit_1 ) (fun u => BG D ct A [(a_this, .inr (11, [.ref a_this_clientSide, .ref a_this_serverSide, .ref a_this_toServer, .ref a_this_toClient, .int v_connections])), (a_this_serverSide, .inr (9, [.ref a_this_serverSide_agreement, .ref a_this_serverSide_in, .ref a_this_serverSide_out, .ref a_this_serverSide_tree, .ref a_this_serverSide_disk, .ref a_this_serverSide_numbers, .ref a_this_serverSide_answers, .ref a_this_serverSide_counts, .ref a_this_serverSide_costs, .ref a_this_serverSide_bytes, .int v_serverSide_state, .int (nI v_serverSide_first), .int (nI v_serverSide_waiting), .int v_serverSide_ungranted, .int v_serverSide_answered]))]) A) [.ref a_this, .int x1].toArray s 0 0 A := ⟨_, rfl⟩
  rw [← hQ]
  refine j_lve (lv' := [(0, .ref a_this), (1, .int x1)]) rfl ?_
  refine j_iload_n X 1 dX11_credit_0 rfl (q := 1) rfl ?_
  refine j_if_lt (tgt := 9) X dX11_credit_1 (by decide) (q := 4) rfl (fun c1 => ?_) (fun c1 => ?_)
  · skip
    subst h_x; exact absurd c1 (by decide)
  · skip
    refine j_iload_n X 1 dX11_credit_4 rfl (q := 5) rfl ?_
    refine j_iconst (v := nI 1) X dX11_credit_5 (by decide) (q := 6) rfl ?_
    refine j_icmp_le (tgt := 17) X dX11_credit_6 (by decide) (q := 9) rfl (fun c2 => ?_) (fun c2 => ?_)
    · skip
      refine j_iload_n X 1 dX11_credit_17 rfl (q := 18) rfl ?_
      refine j_if_ne (tgt := 47) X dX11_credit_18 (by decide) (q := 21) rfl (fun c3 => ?_) (fun c3 => ?_)
      · skip
        refine j_aload_n X 0 dX11_credit_47 rfl (q := 48) rfl ?_
        refine j_get (f := 1) X 0 inT11 rfl rfl (by decide) mw_X11_credit_1_0 rfl dX11_credit_48 (q := 51) rfl ?_
        refine j_get (f := 10) X 1 inT9 rfl rfl (by decide) mw_X11_credit_1_1 rfl dX11_credit_51 (q := 54) rfl ?_
        refine j_iconst (v := nI 2) X dX11_credit_54 (by decide) (q := 55) rfl ?_
        refine j_icmp_ne (tgt := 71) X dX11_credit_55 (by decide) (q := 58) rfl (fun c4 => ?_) (fun c4 => ?_)
        · skip
          refine j_iconst (v := nI 0) X dX11_credit_71 (by decide) (q := 72) rfl ?_
          rw [hQ]
          exact j_iret X (()) dX11_credit_72 (by first | rfl | (simp only [f_X11_credit_1, if_pos c2, if_neg c3, if_neg c4]; done) | (simp only [f_X11_credit_1, if_pos c2, if_neg c3, if_neg c4]; rfl)) rfl
        · skip
          exact absurd (h_st.symm.trans c4) (by decide)
      · skip
        subst h_x; exact absurd c3 (by decide)
    · skip
      subst h_x; exact absurd c2 (by decide)
theorem mw_X11_move_0 : Cond.fieldLink "GuardedTree" 124 "GuardedTree$Line" "size" "I" ∈ tb := tb_at 465 (by decide +kernel) (by decide +kernel)
theorem mw_X11_move_1 : Cond.methodLink "GuardedTree" 120 yX11_line ∈ tb := tb_at 829 (by decide +kernel) (by decide +kernel)
theorem mw_X11_move_2 : Cond.methodLink "GuardedTree" 128 Lib.Math.min.name ∈ tb := tb_at 854 (by decide +kernel) (by decide +kernel)
theorem mw_X11_move_3 : Cond.static Lib.Math.min.name ∈ tb := tb_at 855 (by decide +kernel) (by decide +kernel)
theorem mw_X11_move_4 : Cond.initialized "java/lang/Math" ∈ tb := tb_at 127 (by decide +kernel) (by decide +kernel)
theorem mw_X11_move_5 : Cond.code Lib.Math.min.name Lib.Math.min.code 2 (some .int) ∈ tb := tb_at 856 (by decide +kernel) (by decide +kernel)
theorem mw_X11_move_6 : Cond.methodLink "GuardedTree" 133 Lib.Math.max.name ∈ tb := tb_at 857 (by decide +kernel) (by decide +kernel)
theorem mw_X11_move_7 : Cond.static Lib.Math.max.name ∈ tb := tb_at 858 (by decide +kernel) (by decide +kernel)
theorem mw_X11_move_8 : Cond.code Lib.Math.max.name Lib.Math.max.code 2 (some .int) ∈ tb := tb_at 859 (by decide +kernel) (by decide +kernel)
theorem mw_X11_move_9 : Cond.methodLink "GuardedTree" 140 yX6_drop ∈ tb := tb_at 1121 (by decide +kernel) (by decide +kernel)
theorem dX11_move_0 : decode cX11_move 0 = .ok (.aload_n 0, 1) := by decide +kernel
theorem dX11_move_1 : decode cX11_move 1 = .ok (.iload_n 1, 1) := by decide +kernel
theorem dX11_move_2 : decode cX11_move 2 = .ok (.invokevirtual 120, 3) := by decide +kernel
theorem dX11_move_5 : decode cX11_move 5 = .ok (.astore_n 3, 1) := by decide +kernel
theorem dX11_move_6 : decode cX11_move 6 = .ok (.iconst 0, 1) := by decide +kernel
theorem dX11_move_7 : decode cX11_move 7 = .ok (.iload_n 2, 1) := by decide +kernel
theorem dX11_move_8 : decode cX11_move 8 = .ok (.aload_n 3, 1) := by decide +kernel
theorem dX11_move_9 : decode cX11_move 9 = .ok (.getfield 124, 3) := by decide +kernel
theorem dX11_move_12 : decode cX11_move 12 = .ok (.invokestatic 128, 3) := by decide +kernel
theorem dX11_move_15 : decode cX11_move 15 = .ok (.invokestatic 133, 3) := by decide +kernel
theorem dX11_move_18 : decode cX11_move 18 = .ok (.istore 4, 2) := by decide +kernel
theorem dX11_move_20 : decode cX11_move 20 = .ok (.iconst 0, 1) := by decide +kernel
theorem dX11_move_21 : decode cX11_move 21 = .ok (.istore 5, 2) := by decide +kernel
theorem dX11_move_23 : decode cX11_move 23 = .ok (.iload 5, 2) := by decide +kernel
theorem dX11_move_25 : decode cX11_move 25 = .ok (.iload 4, 2) := by decide +kernel
theorem dX11_move_27 : decode cX11_move 27 = .ok (.if_icmp .ge 60, 3) := by decide +kernel
theorem dX11_move_30 : decode cX11_move 30 = .ok (.iload_n 1, 1) := by decide +kernel
theorem dX11_move_31 : decode cX11_move 31 = .ok (.ifCond .ne 28, 3) := by decide +kernel
theorem dX11_move_34 : decode cX11_move 34 = .ok (.aload_n 0, 1) := by decide +kernel
theorem dX11_move_35 : decode cX11_move 35 = .ok (.getfield 19, 3) := by decide +kernel
theorem dX11_move_38 : decode cX11_move 38 = .ok (.aload_n 3, 1) := by decide +kernel
theorem dX11_move_39 : decode cX11_move 39 = .ok (.getfield 127, 3) := by decide +kernel
theorem dX11_move_42 : decode cX11_move 42 = .ok (.iload 5, 2) := by decide +kernel
theorem dX11_move_44 : decode cX11_move 44 = .ok (.baload, 1) := by decide +kernel
theorem dX11_move_45 : decode cX11_move 45 = .ok (.sipush 255, 3) := by decide +kernel
theorem dX11_move_48 : decode cX11_move 48 = .ok (.iand, 1) := by decide +kernel
theorem dX11_move_49 : decode cX11_move 49 = .ok (.aload_n 0, 1) := by decide +kernel
theorem dX11_move_50 : decode cX11_move 50 = .ok (.getfield 30, 3) := by decide +kernel
theorem dX11_move_53 : decode cX11_move 53 = .ok (.invokevirtual 136, 3) := by decide +kernel
theorem dX11_move_56 : decode cX11_move 56 = .ok (.goto 25, 3) := by decide +kernel
theorem dX11_move_59 : decode cX11_move 59 = .ok (.aload_n 0, 1) := by decide +kernel
theorem dX11_move_60 : decode cX11_move 60 = .ok (.getfield 10, 3) := by decide +kernel
theorem dX11_move_63 : decode cX11_move 63 = .ok (.aload_n 3, 1) := by decide +kernel
theorem dX11_move_64 : decode cX11_move 64 = .ok (.getfield 127, 3) := by decide +kernel
theorem dX11_move_67 : decode cX11_move 67 = .ok (.iload 5, 2) := by decide +kernel
theorem dX11_move_69 : decode cX11_move 69 = .ok (.baload, 1) := by decide +kernel
theorem dX11_move_70 : decode cX11_move 70 = .ok (.sipush 255, 3) := by decide +kernel
theorem dX11_move_73 : decode cX11_move 73 = .ok (.iand, 1) := by decide +kernel
theorem dX11_move_74 : decode cX11_move 74 = .ok (.aload_n 0, 1) := by decide +kernel
theorem dX11_move_75 : decode cX11_move 75 = .ok (.getfield 26, 3) := by decide +kernel
theorem dX11_move_78 : decode cX11_move 78 = .ok (.invokevirtual 139, 3) := by decide +kernel
theorem dX11_move_81 : decode cX11_move 81 = .ok (.iinc 5 1, 3) := by decide +kernel
theorem dX11_move_84 : decode cX11_move 84 = .ok (.goto (-61), 3) := by decide +kernel
theorem dX11_move_87 : decode cX11_move 87 = .ok (.aload_n 3, 1) := by decide +kernel
theorem dX11_move_88 : decode cX11_move 88 = .ok (.iload 4, 2) := by decide +kernel
theorem dX11_move_90 : decode cX11_move 90 = .ok (.invokevirtual 140, 3) := by decide +kernel
theorem dX11_move_93 : decode cX11_move 93 = .ok (.iload 4, 2) := by decide +kernel
theorem dX11_move_95 : decode cX11_move 95 = .ok (.ireturn, 1) := by decide +kernel
noncomputable def X11_move_l23  (k23_4 : Nat) (t23_4 : Unit) : (Unit) ⊕ (Unit) :=
  .inr (())
noncomputable def f_X11_move (v_toServer_size : Nat) (f_toServer_bytes : Nat → Int32) (x2 : Int32) : Int32 × (Nat) × (Nat → Int32) :=
  let y3 := if (nI 0) < (if (nI v_toServer_size) < x2 then (nI v_toServer_size) else x2) then (if (nI v_toServer_size) < x2 then (nI v_toServer_size) else x2) else (nI 0)
  let g23_5 := mrg (itx X11_move_l23 1 0 (()))
  let u7 := f_X6_drop v_toServer_size f_toServer_bytes y3.toNatClampNeg
  (y3, u7.1, u7.2)
set_option maxHeartbeats 4000000 in
set_option maxRecDepth 100000 in
theorem c_X11_move (l : Launch) (D : va_G) (ct : Nat → ClassId) (ts : Nat → Nat) (a_this a_this_toServer a_this_toServer_bytes a_this_clientSide a_this_serverSide a_this_toClient : Nat) (v_connections : Int32) (v_toServer_size : Nat) (f_toServer_bytes : Nat → Int32) (x1 : Int32) (x2 : Int32)  (h_x : x1 = nI 0) (h_z : v_toServer_size = 0)  (sz : Nat) : Met l yX11_move (Cond.code yX11_move cX11_move 6 (some .int) :: tb) { frames := 1, cells := 0, slots := 0, locals := 22 } (PcG D ct SXL ts [.ref a_this, .int x1, .int x2] [(a_this, .inr (11, [.ref a_this_clientSide, .ref a_this_serverSide, .ref a_this_toServer, .ref a_this_toClient, .int v_connections])), (a_this_toServer, .inr (6, [.ref a_this_toServer_bytes, .int (nI v_toServer_size)])), (a_this_toServer_bytes, .inl (ct 1, 3160, .inl f_toServer_bytes))] sz) (va_Qi (fun (r : Int32) (u : (Nat) × (Nat → Int32)) => (r, u) = f_X11_move v_toServer_size f_toServer_bytes x2) (fun u => BG D ct (va_A [(a_this, .inr (11, [.ref a_this_clientSide, .ref a_this_serverSide, .ref a_this_toServer, .ref a_this_toClient, .int v_connections])), (a_this_toServer, .inr (6, [.ref a_this_toServer_bytes, .int (nI v_toServer_size)])), (a_this_toServer_bytes, .inl (ct 1, 3160, .inl f_toServer_bytes))] sz) [(a_this, .inr (11, [.ref a_this_clientSide, .ref a_this_serverSide, .ref a_this_toServer, .ref a_this_toClient, .int v_connections])), (a_this_toServer, .inr (6, [.ref a_this_toServer_bytes, .int (nI u.1)])), (a_this_toServer_bytes, .inl (ct 1, 3160, .inl u.2))]) (va_A [(a_this, .inr (11, [.ref a_this_clientSide, .ref a_this_serverSide, .ref a_this_toServer, .ref a_this_toClient, .int v_connections])), (a_this_toServer, .inr (6, [.ref a_this_toServer_bytes, .int (nI v_toServer_size)])), (a_this_toServer_bytes, .inl (ct 1, 3160, .inl f_toServer_bytes))] sz)) 0 0 (va_A [(a_this, .inr (11, [.ref a_this_clientSide, .ref a_this_serverSide, .ref a_this_toServer, .ref a_this_toClient, .int v_connections])), (a_this_toServer, .inr (6, [.ref a_this_toServer_bytes, .int (nI v_toServer_size)])), (a_this_toServer_bytes, .inl (ct 1, 3160, .inl f_toServer_bytes))] sz) := by
  refine metJ (l := l) (y := yX11_move) (cc := cX11_move) (maxL := 6) (ret := (some .int)) (rm := { frames := 1, cells := 0, slots := 0, locals := 22 }) (D := D) (ct := ct) (L := SXL) (ts := ts) (av := [.ref a_this, .int x1, .int x2]) (ws := [(a_this, .inr (11, [.ref a_this_clientSide, .ref a_this_serverSide, .ref a_this_toServer, .ref a_this_toClient, .int v_connections])), (a_this_toServer, .inr (6, [.ref a_this_toServer_bytes, .int (nI v_toServer_size)])), (a_this_toServer_bytes, .inl (ct 1, 3160, .inl f_toServer_bytes))]) (sz := sz) (mc := 0) (ms := 0) (QcF := fun A => va_Qi (fun (r : Int32) (u : (Nat) × (Nat → Int32)) => (r, u) = f_X11_move v_toServer_size f_toServer_bytes x2) (fun u => BG D ct A [(a_this, .inr (11, [.ref a_this_clientSide, .ref a_this_serverSide, .ref a_this_toServer, .ref a_this_toClient, .int v_connections])), (a_this_toServer, .inr (6, [.ref a_this_toServer_bytes, .int (nI u.1)])), (a_this_toServer_bytes, .inl (ct 1, 3160, .inl u.2))]) A) (by decide) (Nat.le_of_ble_eq_true rfl) ?_
  intro p e s m below meth c A X hnm
  obtain ⟨Q, hQ⟩ : ∃ Q, Q = MQ below (va_Qi (fun (r : Int32) (u : (Nat) × (Nat → Int32)) => (r, u) = f_X11_move v_toServer_size f_toServer_bytes x2) (fun u => BG D ct A [(a_this, .inr (11, [.ref a_this_clientSide, .ref a_this_serverSide, .ref a_this_toServer, .ref a_this_toClient, .int v_connections])), (a_this_toServer, .inr (6, [.ref a_this_toServer_bytes, .int (nI u.1)])), (a_this_toServer_bytes, .inl (ct 1, 3160, .inl u.2))]) A) [.ref a_this, .int x1, .int x2].toArray s 0 0 A := ⟨_, rfl⟩
  rw [← hQ]
  refine j_lve (lv' := [(0, .ref a_this), (1, .int x1), (2, .int x2)]) rfl ?_
  refine j_aload_n X 0 dX11_move_0 rfl (q := 1) rfl ?_
  refine j_iload_n X 1 dX11_move_1 rfl (q := 2) rfl ?_
  refine j_callVr (As := [.int x1]) (rest := []) (wn := (fun u1 => [(a_this, .inr (11, [.ref a_this_clientSide, .ref a_this_serverSide, .ref a_this_toServer, .ref a_this_toClient, .int v_connections])), (a_this_toServer, .inr (6, [.ref a_this_toServer_bytes, .int (nI v_toServer_size)])), (a_this_toServer_bytes, .inl (ct 1, 3160, .inl f_toServer_bytes))])) (wr := [(a_this_toServer, .inr (6, [.ref a_this_toServer_bytes, .int (nI v_toServer_size)])), (a_this_toServer_bytes, .inl (ct 1, 3160, .inl f_toServer_bytes))]) X (fun sz => c_X11_line l D ct ts a_this a_this_clientSide a_this_serverSide a_this_toServer a_this_toClient v_connections x1 (by first | omega | assumption) sz) cal_X11_line 0 rfl rfl mw_X11_move_1 cwi_X11_line cws_X11_line rfl ⟨by decide, by decide⟩ rfl rfl (Nat.le_of_ble_eq_true rfl) ⟨by decide, by decide⟩ [0] [1, 2] [2, 0, 1] rfl (by decide) rfl (by decide) (by decide) (fun _ => rfl) (by decide) dX11_move_2 (q := 5) rfl (fun u1 hu1 => ?_)
  refine j_astore_n (lv' := [(3, .ref a_this_toServer), (0, .ref a_this), (1, .int x1), (2, .int x2)]) X dX11_move_5 (by decide) rfl (q := 6) rfl ?_
  refine j_iconst (v := nI 0) X dX11_move_6 (by decide) (q := 7) rfl ?_
  refine j_iload_n X 3 dX11_move_7 rfl (q := 8) rfl ?_
  refine j_aload_n X 0 dX11_move_8 rfl (q := 9) rfl ?_
  refine j_get (f := 1) X 1 inT6 rfl rfl (by decide) mw_X11_move_0 rfl dX11_move_9 (q := 12) rfl ?_
  refine j_mmin X mw_X11_move_2 mw_X11_move_3 mw_X11_move_4 mw_X11_move_5 (Nat.le_of_ble_eq_true rfl) (Nat.le_of_ble_eq_true rfl) (Nat.le_of_ble_eq_true rfl) (Nat.le_of_ble_eq_true rfl) dX11_move_12 (q := 15) rfl ?_
  refine j_mmax X mw_X11_move_6 mw_X11_move_7 mw_X11_move_4 mw_X11_move_8 (Nat.le_of_ble_eq_true rfl) (Nat.le_of_ble_eq_true rfl) (Nat.le_of_ble_eq_true rfl) (Nat.le_of_ble_eq_true rfl) dX11_move_15 (q := 18) rfl ?_
  refine j_topi (fun y3 e_y3 => ?_)
  refine j_istore (lv' := [(4, .int y3), (3, .ref a_this_toServer), (0, .ref a_this), (1, .int x1), (2, .int x2)]) X dX11_move_18 (by decide) rfl (q := 20) rfl ?_
  refine j_iconst (v := nI 0) X dX11_move_20 (by decide) (q := 21) rfl ?_
  refine j_istore (lv' := [(5, .int (nI 0)), (4, .int y3), (3, .ref a_this_toServer), (0, .ref a_this), (1, .int x1), (2, .int x2)]) X dX11_move_21 (by decide) rfl (q := 23) rfl ?_
  refine j_lv (lv' := [(0, .ref a_this), (1, .int x1), (2, .int x2), (3, .ref a_this_toServer), (4, .int y3), (5, .int (nI 0))]) [3, 4, 5, 2, 1, 0] rfl ?_
  have KE23_4 : ∀ g23_5 : Unit, g23_5 = mrg (itx X11_move_l23 1 0 (())) → J p l e { frames := 1, cells := 0, slots := 0, locals := 22 } s m [.ref a_this, .int x1, .int x2].toArray below meth c D A 6 Q 0 0 [(a_this, .inr (11, [.ref a_this_clientSide, .ref a_this_serverSide, .ref a_this_toServer, .ref a_this_toClient, .int v_connections])), (a_this_toServer, .inr (6, [.ref a_this_toServer_bytes, .int (nI v_toServer_size)])), (a_this_toServer_bytes, .inl (ct 1, 3160, .inl f_toServer_bytes))] [(0, .ref a_this), (1, .int x1), (2, .int x2), (3, .ref a_this_toServer), (4, .int y3), (5, .int (nI 0))] [] 87 := by
    intro g23_5 e_g23_5 
    refine j_aload_n X 3 dX11_move_87 rfl (q := 88) rfl ?_
    refine j_iload X 4 dX11_move_88 rfl (q := 90) rfl ?_
    obtain ⟨hna6, hna6b⟩ := nz_of (x := y3) (n := 0) (by decide) ⟨0, by decide, (by rw [e_y3]; exact mx0 h_z)⟩
    refine j_stk (st2 := [.int (nI y3.toNatClampNeg), .ref a_this_toServer]) (by rw [← hna6]) ?_
    refine j_callVv (As := [.int (nI y3.toNatClampNeg)]) (rest := []) (wn := (fun u7 => [(a_this, .inr (11, [.ref a_this_clientSide, .ref a_this_serverSide, .ref a_this_toServer, .ref a_this_toClient, .int v_connections])), (a_this_toServer, .inr (6, [.ref a_this_toServer_bytes, .int (nI u7.1)])), (a_this_toServer_bytes, .inl (ct 1, 3160, .inl u7.2))])) (wr := [(a_this, .inr (11, [.ref a_this_clientSide, .ref a_this_serverSide, .ref a_this_toServer, .ref a_this_toClient, .int v_connections]))]) X (fun sz => c_X6_drop l D ct ts a_this_toServer a_this_toServer_bytes v_toServer_size f_toServer_bytes y3.toNatClampNeg (by first | omega | assumption) (by first | omega | assumption) sz) cal_X6_drop 1 rfl rfl mw_X11_move_9 cwi_X6_drop cws_X6_drop rfl ⟨by decide, by decide⟩ rfl rfl (Nat.le_of_ble_eq_true rfl) ⟨by decide, by decide⟩ [1, 2] [0] [0, 1, 2] rfl (by decide) rfl (by decide) (by decide) (fun _ => rfl) (by decide) dX11_move_90 (q := 93) rfl (fun u7 hu7 => ?_)
    refine j_iload X 4 dX11_move_93 rfl (q := 95) rfl ?_
    rw [hQ]
    exact j_iret X ((u7.1, u7.2)) dX11_move_95 (by subst e_y3; subst e_g23_5; subst hu7; rfl) rfl
  have LP23_4 : ∀ (r23_4 k23_4 : Nat) (t23_4 : Unit), itx X11_move_l23 1 0 (()) = itx X11_move_l23 r23_4 k23_4 t23_4 → (0 < r23_4) → J p l e { frames := 1, cells := 0, slots := 0, locals := 22 } s m [.ref a_this, .int x1, .int x2].toArray below meth c D A 6 Q 0 0 [(a_this, .inr (11, [.ref a_this_clientSide, .ref a_this_serverSide, .ref a_this_toServer, .ref a_this_toClient, .int v_connections])), (a_this_toServer, .inr (6, [.ref a_this_toServer_bytes, .int (nI v_toServer_size)])), (a_this_toServer_bytes, .inl (ct 1, 3160, .inl f_toServer_bytes))] [(0, .ref a_this), (1, .int x1), (2, .int x2), (3, .ref a_this_toServer), (4, .int y3), (5, .int (nI 0))] [] 23 := by
    intro r23_4
    induction r23_4 with
    | zero =>
      intro k23_4 t23_4 e_t23_4 hi0_t23_4
      exfalso; omega
    | succ r23_4 ih23_4 =>
      intro k23_4 t23_4 e_t23_4 hi0_t23_4
      refine j_iload X 5 dX11_move_23 rfl (q := 25) rfl ?_
      refine j_iload X 4 dX11_move_25 rfl (q := 27) rfl ?_
      refine j_icmp_ge (tgt := 87) X dX11_move_27 (by decide) (q := 30) rfl (fun c9 => ?_) (fun c9 => ?_)
      · skip
        refine j_lv (lv' := [(0, .ref a_this), (1, .int x1), (2, .int x2), (3, .ref a_this_toServer), (4, .int y3), (5, .int (nI 0))]) [0, 1, 2, 3, 4, 5] rfl ?_
        have hb10 : X11_move_l23 k23_4 t23_4 = .inr (()) := (by first | rfl | (simp only [X11_move_l23, if_pos c9]; done) | (simp only [X11_move_l23, if_pos c9]; rfl))
        exact KE23_4 (()) (by rw [e_t23_4, itx_out hb10]; try rfl) 
      · skip
        exact absurd (show y3 ≤ nI 0 by rw [e_y3, mx0 h_z]; decide) c9
  exact LP23_4 1 0 (()) rfl (show 0 < 1 from by omega)
theorem cal_X11_move : Cal yX11_move cX11_move 6 (some .int) 2 := ⟨tb_at 109 (by decide +kernel) (by decide +kernel), tb_at 853 (by decide +kernel) (by decide +kernel), by decide +kernel, by decide +kernel, by decide +kernel⟩
theorem cwi_X11_move : Cond.instanceMethod yX11_move ∈ tb := tb_at 851 (by decide +kernel) (by decide +kernel)
theorem cws_X11_move : Cond.selects yX11_move.cls yX11_move yX11_move ∈ tb := tb_at 852 (by decide +kernel) (by decide +kernel)
theorem mw_X11_move_1_0 : Cond.fieldLink "GuardedTree" 124 "GuardedTree$Line" "size" "I" ∈ tb := tb_at 465 (by decide +kernel) (by decide +kernel)
theorem mw_X11_move_1_1 : Cond.methodLink "GuardedTree" 120 yX11_line ∈ tb := tb_at 829 (by decide +kernel) (by decide +kernel)
theorem mw_X11_move_1_2 : Cond.methodLink "GuardedTree" 128 Lib.Math.min.name ∈ tb := tb_at 854 (by decide +kernel) (by decide +kernel)
theorem mw_X11_move_1_3 : Cond.static Lib.Math.min.name ∈ tb := tb_at 855 (by decide +kernel) (by decide +kernel)
theorem mw_X11_move_1_4 : Cond.initialized "java/lang/Math" ∈ tb := tb_at 127 (by decide +kernel) (by decide +kernel)
theorem mw_X11_move_1_5 : Cond.code Lib.Math.min.name Lib.Math.min.code 2 (some .int) ∈ tb := tb_at 856 (by decide +kernel) (by decide +kernel)
theorem mw_X11_move_1_6 : Cond.methodLink "GuardedTree" 133 Lib.Math.max.name ∈ tb := tb_at 857 (by decide +kernel) (by decide +kernel)
theorem mw_X11_move_1_7 : Cond.static Lib.Math.max.name ∈ tb := tb_at 858 (by decide +kernel) (by decide +kernel)
theorem mw_X11_move_1_8 : Cond.code Lib.Math.max.name Lib.Math.max.code 2 (some .int) ∈ tb := tb_at 859 (by decide +kernel) (by decide +kernel)
theorem mw_X11_move_1_9 : Cond.methodLink "GuardedTree" 140 yX6_drop ∈ tb := tb_at 1121 (by decide +kernel) (by decide +kernel)
noncomputable def X11_move_1_l23  (k23_4 : Nat) (t23_4 : Unit) : (Unit) ⊕ (Unit) :=
  .inr (())
noncomputable def f_X11_move_1 (v_toClient_size : Nat) (f_toClient_bytes : Nat → Int32) (x2 : Int32) : Int32 × (Nat) × (Nat → Int32) :=
  let y3 := if (nI 0) < (if (nI v_toClient_size) < x2 then (nI v_toClient_size) else x2) then (if (nI v_toClient_size) < x2 then (nI v_toClient_size) else x2) else (nI 0)
  let g23_5 := mrg (itx X11_move_1_l23 1 0 (()))
  let u7 := f_X6_drop v_toClient_size f_toClient_bytes y3.toNatClampNeg
  (y3, u7.1, u7.2)
set_option maxHeartbeats 4000000 in
set_option maxRecDepth 100000 in
theorem c_X11_move_1 (l : Launch) (D : va_G) (ct : Nat → ClassId) (ts : Nat → Nat) (a_this a_this_toClient a_this_toClient_bytes a_this_clientSide a_this_serverSide a_this_toServer : Nat) (v_connections : Int32) (v_toClient_size : Nat) (f_toClient_bytes : Nat → Int32) (x1 : Int32) (x2 : Int32)  (h_x : x1 = nI 1) (h_z : v_toClient_size = 0)  (sz : Nat) : Met l yX11_move (Cond.code yX11_move cX11_move 6 (some .int) :: tb) { frames := 1, cells := 0, slots := 0, locals := 22 } (PcG D ct SXL ts [.ref a_this, .int x1, .int x2] [(a_this, .inr (11, [.ref a_this_clientSide, .ref a_this_serverSide, .ref a_this_toServer, .ref a_this_toClient, .int v_connections])), (a_this_toClient, .inr (6, [.ref a_this_toClient_bytes, .int (nI v_toClient_size)])), (a_this_toClient_bytes, .inl (ct 1, 3160, .inl f_toClient_bytes))] sz) (va_Qi (fun (r : Int32) (u : (Nat) × (Nat → Int32)) => (r, u) = f_X11_move_1 v_toClient_size f_toClient_bytes x2) (fun u => BG D ct (va_A [(a_this, .inr (11, [.ref a_this_clientSide, .ref a_this_serverSide, .ref a_this_toServer, .ref a_this_toClient, .int v_connections])), (a_this_toClient, .inr (6, [.ref a_this_toClient_bytes, .int (nI v_toClient_size)])), (a_this_toClient_bytes, .inl (ct 1, 3160, .inl f_toClient_bytes))] sz) [(a_this, .inr (11, [.ref a_this_clientSide, .ref a_this_serverSide, .ref a_this_toServer, .ref a_this_toClient, .int v_connections])), (a_this_toClient, .inr (6, [.ref a_this_toClient_bytes, .int (nI u.1)])), (a_this_toClient_bytes, .inl (ct 1, 3160, .inl u.2))]) (va_A [(a_this, .inr (11, [.ref a_this_clientSide, .ref a_this_serverSide, .ref a_this_toServer, .ref a_this_toClient, .int v_connections])), (a_this_toClient, .inr (6, [.ref a_this_toClient_bytes, .int (nI v_toClient_size)])), (a_this_toClient_bytes, .inl (ct 1, 3160, .inl f_toClient_bytes))] sz)) 0 0 (va_A [(a_this, .inr (11, [.ref a_this_clientSide, .ref a_this_serverSide, .ref a_this_toServer, .ref a_this_toClient, .int v_connections])), (a_this_toClient, .inr (6, [.ref a_this_toClient_bytes, .int (nI v_toClient_size)])), (a_this_toClient_bytes, .inl (ct 1, 3160, .inl f_toClient_bytes))] sz) := by
  refine metJ (l := l) (y := yX11_move) (cc := cX11_move) (maxL := 6) (ret := (some .int)) (rm := { frames := 1, cells := 0, slots := 0, locals := 22 }) (D := D) (ct := ct) (L := SXL) (ts := ts) (av := [.ref a_this, .int x1, .int x2]) (ws := [(a_this, .inr (11, [.ref a_this_clientSide, .ref a_this_serverSide, .ref a_this_toServer, .ref a_this_toClient, .int v_connections])), (a_this_toClient, .inr (6, [.ref a_this_toClient_bytes, .int (nI v_toClient_size)])), (a_this_toClient_bytes, .inl (ct 1, 3160, .inl f_toClient_bytes))]) (sz := sz) (mc := 0) (ms := 0) (QcF := fun A => va_Qi (fun (r : Int32) (u : (Nat) × (Nat → Int32)) => (r, u) = f_X11_move_1 v_toClient_size f_toClient_bytes x2) (fun u => BG D ct A [(a_this, .inr (11, [.ref a_this_clientSide, .ref a_this_serverSide, .ref a_this_toServer, .ref a_this_toClient, .int v_connections])), (a_this_toClient, .inr (6, [.ref a_this_toClient_bytes, .int (nI u.1)])), (a_this_toClient_bytes, .inl (ct 1, 3160, .inl u.2))]) A) (by decide) (Nat.le_of_ble_eq_true rfl) ?_
  intro p e s m below meth c A X hnm
  obtain ⟨Q, hQ⟩ : ∃ Q, Q = MQ below (va_Qi (fun (r : Int32) (u : (Nat) × (Nat → Int32)) => (r, u) = f_X11_move_1 v_toClient_size f_toClient_bytes x2) (fun u => BG D ct A [(a_this, .inr (11, [.ref a_this_clientSide, .ref a_this_serverSide, .ref a_this_toServer, .ref a_this_toClient, .int v_connections])), (a_this_toClient, .inr (6, [.ref a_this_toClient_bytes, .int (nI u.1)])), (a_this_toClient_bytes, .inl (ct 1, 3160, .inl u.2))]) A) [.ref a_this, .int x1, .int x2].toArray s 0 0 A := ⟨_, rfl⟩
  rw [← hQ]
  refine j_lve (lv' := [(0, .ref a_this), (1, .int x1), (2, .int x2)]) rfl ?_
  refine j_aload_n X 0 dX11_move_0 rfl (q := 1) rfl ?_
  refine j_iload_n X 1 dX11_move_1 rfl (q := 2) rfl ?_
  refine j_callVr (As := [.int x1]) (rest := []) (wn := (fun u1 => [(a_this, .inr (11, [.ref a_this_clientSide, .ref a_this_serverSide, .ref a_this_toServer, .ref a_this_toClient, .int v_connections])), (a_this_toClient, .inr (6, [.ref a_this_toClient_bytes, .int (nI v_toClient_size)])), (a_this_toClient_bytes, .inl (ct 1, 3160, .inl f_toClient_bytes))])) (wr := [(a_this_toClient, .inr (6, [.ref a_this_toClient_bytes, .int (nI v_toClient_size)])), (a_this_toClient_bytes, .inl (ct 1, 3160, .inl f_toClient_bytes))]) X (fun sz => c_X11_line_1 l D ct ts a_this a_this_clientSide a_this_serverSide a_this_toServer a_this_toClient v_connections x1 (by first | omega | assumption) sz) cal_X11_line 0 rfl rfl mw_X11_move_1_1 cwi_X11_line cws_X11_line rfl ⟨by decide, by decide⟩ rfl rfl (Nat.le_of_ble_eq_true rfl) ⟨by decide, by decide⟩ [0] [1, 2] [2, 0, 1] rfl (by decide) rfl (by decide) (by decide) (fun _ => rfl) (by decide) dX11_move_2 (q := 5) rfl (fun u1 hu1 => ?_)
  refine j_astore_n (lv' := [(3, .ref a_this_toClient), (0, .ref a_this), (1, .int x1), (2, .int x2)]) X dX11_move_5 (by decide) rfl (q := 6) rfl ?_
  refine j_iconst (v := nI 0) X dX11_move_6 (by decide) (q := 7) rfl ?_
  refine j_iload_n X 3 dX11_move_7 rfl (q := 8) rfl ?_
  refine j_aload_n X 0 dX11_move_8 rfl (q := 9) rfl ?_
  refine j_get (f := 1) X 1 inT6 rfl rfl (by decide) mw_X11_move_1_0 rfl dX11_move_9 (q := 12) rfl ?_
  refine j_mmin X mw_X11_move_1_2 mw_X11_move_1_3 mw_X11_move_1_4 mw_X11_move_1_5 (Nat.le_of_ble_eq_true rfl) (Nat.le_of_ble_eq_true rfl) (Nat.le_of_ble_eq_true rfl) (Nat.le_of_ble_eq_true rfl) dX11_move_12 (q := 15) rfl ?_
  refine j_mmax X mw_X11_move_1_6 mw_X11_move_1_7 mw_X11_move_1_4 mw_X11_move_1_8 (Nat.le_of_ble_eq_true rfl) (Nat.le_of_ble_eq_true rfl) (Nat.le_of_ble_eq_true rfl) (Nat.le_of_ble_eq_true rfl) dX11_move_15 (q := 18) rfl ?_
  refine j_topi (fun y3 e_y3 => ?_)
  refine j_istore (lv' := [(4, .int y3), (3, .ref a_this_toClient), (0, .ref a_this), (1, .int x1), (2, .int x2)]) X dX11_move_18 (by decide) rfl (q := 20) rfl ?_
  refine j_iconst (v := nI 0) X dX11_move_20 (by decide) (q := 21) rfl ?_
  refine j_istore (lv' := [(5, .int (nI 0)), (4, .int y3), (3, .ref a_this_toClient), (0, .ref a_this), (1, .int x1), (2, .int x2)]) X dX11_move_21 (by decide) rfl (q := 23) rfl ?_
  refine j_lv (lv' := [(0, .ref a_this), (1, .int x1), (2, .int x2), (3, .ref a_this_toClient), (4, .int y3), (5, .int (nI 0))]) [3, 4, 5, 2, 1, 0] rfl ?_
  have KE23_4 : ∀ g23_5 : Unit, g23_5 = mrg (itx X11_move_1_l23 1 0 (())) → J p l e { frames := 1, cells := 0, slots := 0, locals := 22 } s m [.ref a_this, .int x1, .int x2].toArray below meth c D A 6 Q 0 0 [(a_this, .inr (11, [.ref a_this_clientSide, .ref a_this_serverSide, .ref a_this_toServer, .ref a_this_toClient, .int v_connections])), (a_this_toClient, .inr (6, [.ref a_this_toClient_bytes, .int (nI v_toClient_size)])), (a_this_toClient_bytes, .inl (ct 1, 3160, .inl f_toClient_bytes))] [(0, .ref a_this), (1, .int x1), (2, .int x2), (3, .ref a_this_toClient), (4, .int y3), (5, .int (nI 0))] [] 87 := by
    intro g23_5 e_g23_5 
    refine j_aload_n X 3 dX11_move_87 rfl (q := 88) rfl ?_
    refine j_iload X 4 dX11_move_88 rfl (q := 90) rfl ?_
    obtain ⟨hna6, hna6b⟩ := nz_of (x := y3) (n := 0) (by decide) ⟨0, by decide, (by rw [e_y3]; exact mx0 h_z)⟩
    refine j_stk (st2 := [.int (nI y3.toNatClampNeg), .ref a_this_toClient]) (by rw [← hna6]) ?_
    refine j_callVv (As := [.int (nI y3.toNatClampNeg)]) (rest := []) (wn := (fun u7 => [(a_this, .inr (11, [.ref a_this_clientSide, .ref a_this_serverSide, .ref a_this_toServer, .ref a_this_toClient, .int v_connections])), (a_this_toClient, .inr (6, [.ref a_this_toClient_bytes, .int (nI u7.1)])), (a_this_toClient_bytes, .inl (ct 1, 3160, .inl u7.2))])) (wr := [(a_this, .inr (11, [.ref a_this_clientSide, .ref a_this_serverSide, .ref a_this_toServer, .ref a_this_toClient, .int v_connections]))]) X (fun sz => c_X6_drop l D ct ts a_this_toClient a_this_toClient_bytes v_toClient_size f_toClient_bytes y3.toNatClampNeg (by first | omega | assumption) (by first | omega | assumption) sz) cal_X6_drop 1 rfl rfl mw_X11_move_1_9 cwi_X6_drop cws_X6_drop rfl ⟨by decide, by decide⟩ rfl rfl (Nat.le_of_ble_eq_true rfl) ⟨by decide, by decide⟩ [1, 2] [0] [0, 1, 2] rfl (by decide) rfl (by decide) (by decide) (fun _ => rfl) (by decide) dX11_move_90 (q := 93) rfl (fun u7 hu7 => ?_)
    refine j_iload X 4 dX11_move_93 rfl (q := 95) rfl ?_
    rw [hQ]
    exact j_iret X ((u7.1, u7.2)) dX11_move_95 (by subst e_y3; subst e_g23_5; subst hu7; rfl) rfl
  have LP23_4 : ∀ (r23_4 k23_4 : Nat) (t23_4 : Unit), itx X11_move_1_l23 1 0 (()) = itx X11_move_1_l23 r23_4 k23_4 t23_4 → (0 < r23_4) → J p l e { frames := 1, cells := 0, slots := 0, locals := 22 } s m [.ref a_this, .int x1, .int x2].toArray below meth c D A 6 Q 0 0 [(a_this, .inr (11, [.ref a_this_clientSide, .ref a_this_serverSide, .ref a_this_toServer, .ref a_this_toClient, .int v_connections])), (a_this_toClient, .inr (6, [.ref a_this_toClient_bytes, .int (nI v_toClient_size)])), (a_this_toClient_bytes, .inl (ct 1, 3160, .inl f_toClient_bytes))] [(0, .ref a_this), (1, .int x1), (2, .int x2), (3, .ref a_this_toClient), (4, .int y3), (5, .int (nI 0))] [] 23 := by
    intro r23_4
    induction r23_4 with
    | zero =>
      intro k23_4 t23_4 e_t23_4 hi0_t23_4
      exfalso; omega
    | succ r23_4 ih23_4 =>
      intro k23_4 t23_4 e_t23_4 hi0_t23_4
      refine j_iload X 5 dX11_move_23 rfl (q := 25) rfl ?_
      refine j_iload X 4 dX11_move_25 rfl (q := 27) rfl ?_
      refine j_icmp_ge (tgt := 87) X dX11_move_27 (by decide) (q := 30) rfl (fun c9 => ?_) (fun c9 => ?_)
      · skip
        refine j_lv (lv' := [(0, .ref a_this), (1, .int x1), (2, .int x2), (3, .ref a_this_toClient), (4, .int y3), (5, .int (nI 0))]) [0, 1, 2, 3, 4, 5] rfl ?_
        have hb10 : X11_move_1_l23 k23_4 t23_4 = .inr (()) := (by first | rfl | (simp only [X11_move_1_l23, if_pos c9]; done) | (simp only [X11_move_1_l23, if_pos c9]; rfl))
        exact KE23_4 (()) (by rw [e_t23_4, itx_out hb10]; try rfl) 
      · skip
        exact absurd (show y3 ≤ nI 0 by rw [e_y3, mx0 h_z]; decide) c9
  exact LP23_4 1 0 (()) rfl (show 0 < 1 from by omega)
theorem mw_X11_ask_0 : Cond.fieldLink "GuardedTree" 26 "GuardedTree" "toServer" "LGuardedTree$Line;" ∈ tb := tb_at 473 (by decide +kernel) (by decide +kernel)
theorem mw_X11_ask_1 : Cond.fieldLink "GuardedTree" 10 "GuardedTree" "clientSide" "LGuardedTree$Client;" ∈ tb := tb_at 471 (by decide +kernel) (by decide +kernel)
theorem mw_X11_ask_2 : Cond.methodLink "GuardedTree" 68 yX11_dataBytes ∈ tb := tb_at 693 (by decide +kernel) (by decide +kernel)
theorem mw_X11_ask_3 : Cond.methodLink "GuardedTree" 72 yX6_isFull ∈ tb := tb_at 696 (by decide +kernel) (by decide +kernel)
theorem mw_X11_ask_4 : Cond.methodLink "GuardedTree" 76 yX3_maySend ∈ tb := tb_at 700 (by decide +kernel) (by decide +kernel)
theorem dX11_ask_0 : decode cX11_ask 0 = .ok (.iload_n 1, 1) := by decide +kernel
theorem dX11_ask_1 : decode cX11_ask 1 = .ok (.ifCond .lt 9, 3) := by decide +kernel
theorem dX11_ask_4 : decode cX11_ask 4 = .ok (.iload_n 1, 1) := by decide +kernel
theorem dX11_ask_5 : decode cX11_ask 5 = .ok (.bipush 9, 2) := by decide +kernel
theorem dX11_ask_7 : decode cX11_ask 7 = .ok (.if_icmp .le 11, 3) := by decide +kernel
theorem dX11_ask_10 : decode cX11_ask 10 = .ok (.new 65, 3) := by decide +kernel
theorem dX11_ask_13 : decode cX11_ask 13 = .ok (.dup, 1) := by decide +kernel
theorem dX11_ask_14 : decode cX11_ask 14 = .ok (.invokespecial 67, 3) := by decide +kernel
theorem dX11_ask_17 : decode cX11_ask 17 = .ok (.athrow, 1) := by decide +kernel
theorem dX11_ask_18 : decode cX11_ask 18 = .ok (.bipush 22, 2) := by decide +kernel
theorem dX11_ask_20 : decode cX11_ask 20 = .ok (.iload_n 1, 1) := by decide +kernel
theorem dX11_ask_21 : decode cX11_ask 21 = .ok (.iload 4, 2) := by decide +kernel
theorem dX11_ask_23 : decode cX11_ask 23 = .ok (.invokestatic 68, 3) := by decide +kernel
theorem dX11_ask_26 : decode cX11_ask 26 = .ok (.iadd, 1) := by decide +kernel
theorem dX11_ask_27 : decode cX11_ask 27 = .ok (.istore 6, 2) := by decide +kernel
theorem dX11_ask_29 : decode cX11_ask 29 = .ok (.aload_n 0, 1) := by decide +kernel
theorem dX11_ask_30 : decode cX11_ask 30 = .ok (.getfield 26, 3) := by decide +kernel
theorem dX11_ask_33 : decode cX11_ask 33 = .ok (.invokevirtual 72, 3) := by decide +kernel
theorem dX11_ask_36 : decode cX11_ask 36 = .ok (.ifCond .ne 15, 3) := by decide +kernel
theorem dX11_ask_39 : decode cX11_ask 39 = .ok (.aload_n 0, 1) := by decide +kernel
theorem dX11_ask_40 : decode cX11_ask 40 = .ok (.getfield 10, 3) := by decide +kernel
theorem dX11_ask_43 : decode cX11_ask 43 = .ok (.iload 6, 2) := by decide +kernel
theorem dX11_ask_45 : decode cX11_ask 45 = .ok (.invokevirtual 76, 3) := by decide +kernel
theorem dX11_ask_48 : decode cX11_ask 48 = .ok (.ifCond .ne 5, 3) := by decide +kernel
theorem dX11_ask_51 : decode cX11_ask 51 = .ok (.iconst (-1), 1) := by decide +kernel
theorem dX11_ask_52 : decode cX11_ask 52 = .ok (.ireturn, 1) := by decide +kernel
theorem dX11_ask_53 : decode cX11_ask 53 = .ok (.aload_n 0, 1) := by decide +kernel
theorem dX11_ask_54 : decode cX11_ask 54 = .ok (.getfield 10, 3) := by decide +kernel
theorem dX11_ask_57 : decode cX11_ask 57 = .ok (.iload_n 1, 1) := by decide +kernel
theorem dX11_ask_58 : decode cX11_ask 58 = .ok (.iload_n 2, 1) := by decide +kernel
theorem dX11_ask_59 : decode cX11_ask 59 = .ok (.iload_n 3, 1) := by decide +kernel
theorem dX11_ask_60 : decode cX11_ask 60 = .ok (.iload 4, 2) := by decide +kernel
theorem dX11_ask_62 : decode cX11_ask 62 = .ok (.iload 5, 2) := by decide +kernel
theorem dX11_ask_64 : decode cX11_ask 64 = .ok (.invokevirtual 80, 3) := by decide +kernel
theorem dX11_ask_67 : decode cX11_ask 67 = .ok (.aload_n 0, 1) := by decide +kernel
theorem dX11_ask_68 : decode cX11_ask 68 = .ok (.getfield 10, 3) := by decide +kernel
theorem dX11_ask_71 : decode cX11_ask 71 = .ok (.getfield 84, 3) := by decide +kernel
theorem dX11_ask_74 : decode cX11_ask 74 = .ok (.aload_n 0, 1) := by decide +kernel
theorem dX11_ask_75 : decode cX11_ask 75 = .ok (.getfield 26, 3) := by decide +kernel
theorem dX11_ask_78 : decode cX11_ask 78 = .ok (.invokevirtual 88, 3) := by decide +kernel
theorem dX11_ask_81 : decode cX11_ask 81 = .ok (.aload_n 0, 1) := by decide +kernel
theorem dX11_ask_82 : decode cX11_ask 82 = .ok (.getfield 10, 3) := by decide +kernel
theorem dX11_ask_85 : decode cX11_ask 85 = .ok (.getfield 94, 3) := by decide +kernel
theorem dX11_ask_88 : decode cX11_ask 88 = .ok (.ireturn, 1) := by decide +kernel
noncomputable def f_X11_ask (v_toServer_size : Nat) (x1 : Int32) (x4 : Int32) : Int32 :=
  let y6 := (nI 22) + (f_X11_dataBytes x1 x4)
  if (f_X6_isFull v_toServer_size) = 0 then
  ((-1))
  else
  ((-1))
set_option maxHeartbeats 4000000 in
set_option maxRecDepth 100000 in
theorem c_X11_ask (l : Launch) (D : va_G) (ct : Nat → ClassId) (ts : Nat → Nat) (a_this a_this_toServer a_this_clientSide a_this_clientSide_out a_this_serverSide a_this_toClient a_this_toServer_bytes a_this_clientSide_agreement a_this_clientSide_in a_this_clientSide_requests a_this_clientSide_words a_this_clientSide_out_packet a_this_clientSide_out_cipher a_this_clientSide_out_digest a_this_clientSide_out_sealKey : Nat) (v_connections : Int32) (v_toServer_size : Nat) (v_clientSide_state : Int32) (v_clientSide_asked : Nat) (v_clientSide_wordCount : Nat) (v_clientSide_ungranted : Int32) (v_clientSide_out_allowance : Int32) (v_clientSide_out_size : Nat) (v_clientSide_out_length : Int32) (v_clientSide_out_payload : Nat) (v_clientSide_out_number : Int32) (x1 : Int32) (x2 : Int32) (x3 : Int32) (x4 : Int32) (x5 : Int32)  (h_k1 : ¬ x1 < 0) (h_k2 : x1 ≤ nI 9) (h_st : v_clientSide_state = nI 0) (h_a : v_clientSide_asked = 0) (h_z : v_toServer_size = 0)  (sz : Nat) : Met l yX11_ask (Cond.code yX11_ask cX11_ask 7 (some .int) :: tb) { frames := 1, cells := 0, slots := 0, locals := 21 } (PcG D ct SXL ts [.ref a_this, .int x1, .int x2, .int x3, .int x4, .int x5] [(a_this, .inr (11, [.ref a_this_clientSide, .ref a_this_serverSide, .ref a_this_toServer, .ref a_this_toClient, .int v_connections])), (a_this_toServer, .inr (6, [.ref a_this_toServer_bytes, .int (nI v_toServer_size)])), (a_this_clientSide, .inr (3, [.ref a_this_clientSide_agreement, .ref a_this_clientSide_in, .ref a_this_clientSide_out, .ref a_this_clientSide_requests, .ref a_this_clientSide_words, .int v_clientSide_state, .int (nI v_clientSide_asked), .int (nI v_clientSide_wordCount), .int v_clientSide_ungranted])), (a_this_clientSide_out, .inr (1, [.ref a_this_clientSide_out_packet, .ref a_this_clientSide_out_cipher, .ref a_this_clientSide_out_digest, .ref a_this_clientSide_out_sealKey, .int v_clientSide_out_allowance, .int (nI v_clientSide_out_size), .int v_clientSide_out_length, .int (nI v_clientSide_out_payload), .int v_clientSide_out_number]))] sz) (va_Qi (fun (r : Int32) (u : Unit) => r = f_X11_ask v_toServer_size x1 x4) (fun u => BG D ct (va_A [(a_this, .inr (11, [.ref a_this_clientSide, .ref a_this_serverSide, .ref a_this_toServer, .ref a_this_toClient, .int v_connections])), (a_this_toServer, .inr (6, [.ref a_this_toServer_bytes, .int (nI v_toServer_size)])), (a_this_clientSide, .inr (3, [.ref a_this_clientSide_agreement, .ref a_this_clientSide_in, .ref a_this_clientSide_out, .ref a_this_clientSide_requests, .ref a_this_clientSide_words, .int v_clientSide_state, .int (nI v_clientSide_asked), .int (nI v_clientSide_wordCount), .int v_clientSide_ungranted])), (a_this_clientSide_out, .inr (1, [.ref a_this_clientSide_out_packet, .ref a_this_clientSide_out_cipher, .ref a_this_clientSide_out_digest, .ref a_this_clientSide_out_sealKey, .int v_clientSide_out_allowance, .int (nI v_clientSide_out_size), .int v_clientSide_out_length, .int (nI v_clientSide_out_payload), .int v_clientSide_out_number]))] sz) [(a_this, .inr (11, [.ref a_this_clientSide, .ref a_this_serverSide, .ref a_this_toServer, .ref a_this_toClient, .int v_connections])), (a_this_toServer, .inr (6, [.ref a_this_toServer_bytes, .int (nI v_toServer_size)])), (a_this_clientSide, .inr (3, [.ref a_this_clientSide_agreement, .ref a_this_clientSide_in, .ref a_this_clientSide_out, .ref a_this_clientSide_requests, .ref a_this_clientSide_words, .int v_clientSide_state, .int (nI v_clientSide_asked), .int (nI v_clientSide_wordCount), .int v_clientSide_ungranted])), (a_this_clientSide_out, .inr (1, [.ref a_this_clientSide_out_packet, .ref a_this_clientSide_out_cipher, .ref a_this_clientSide_out_digest, .ref a_this_clientSide_out_sealKey, .int v_clientSide_out_allowance, .int (nI v_clientSide_out_size), .int v_clientSide_out_length, .int (nI v_clientSide_out_payload), .int v_clientSide_out_number]))]) (va_A [(a_this, .inr (11, [.ref a_this_clientSide, .ref a_this_serverSide, .ref a_this_toServer, .ref a_this_toClient, .int v_connections])), (a_this_toServer, .inr (6, [.ref a_this_toServer_bytes, .int (nI v_toServer_size)])), (a_this_clientSide, .inr (3, [.ref a_this_clientSide_agreement, .ref a_this_clientSide_in, .ref a_this_clientSide_out, .ref a_this_clientSide_requests, .ref a_this_clientSide_words, .int v_clientSide_state, .int (nI v_clientSide_asked), .int (nI v_clientSide_wordCount), .int v_clientSide_ungranted])), (a_this_clientSide_out, .inr (1, [.ref a_this_clientSide_out_packet, .ref a_this_clientSide_out_cipher, .ref a_this_clientSide_out_digest, .ref a_this_clientSide_out_sealKey, .int v_clientSide_out_allowance, .int (nI v_clientSide_out_size), .int v_clientSide_out_length, .int (nI v_clientSide_out_payload), .int v_clientSide_out_number]))] sz)) 0 0 (va_A [(a_this, .inr (11, [.ref a_this_clientSide, .ref a_this_serverSide, .ref a_this_toServer, .ref a_this_toClient, .int v_connections])), (a_this_toServer, .inr (6, [.ref a_this_toServer_bytes, .int (nI v_toServer_size)])), (a_this_clientSide, .inr (3, [.ref a_this_clientSide_agreement, .ref a_this_clientSide_in, .ref a_this_clientSide_out, .ref a_this_clientSide_requests, .ref a_this_clientSide_words, .int v_clientSide_state, .int (nI v_clientSide_asked), .int (nI v_clientSide_wordCount), .int v_clientSide_ungranted])), (a_this_clientSide_out, .inr (1, [.ref a_this_clientSide_out_packet, .ref a_this_clientSide_out_cipher, .ref a_this_clientSide_out_digest, .ref a_this_clientSide_out_sealKey, .int v_clientSide_out_allowance, .int (nI v_clientSide_out_size), .int v_clientSide_out_length, .int (nI v_clientSide_out_payload), .int v_clientSide_out_number]))] sz) := by
  refine metJ (l := l) (y := yX11_ask) (cc := cX11_ask) (maxL := 7) (ret := (some .int)) (rm := { frames := 1, cells := 0, slots := 0, locals := 21 }) (D := D) (ct := ct) (L := SXL) (ts := ts) (av := [.ref a_this, .int x1, .int x2, .int x3, .int x4, .int x5]) (ws := [(a_this, .inr (11, [.ref a_this_clientSide, .ref a_this_serverSide, .ref a_this_toServer, .ref a_this_toClient, .int v_connections])), (a_this_toServer, .inr (6, [.ref a_this_toServer_bytes, .int (nI v_toServer_size)])), (a_this_clientSide, .inr (3, [.ref a_this_clientSide_agreement, .ref a_this_clientSide_in, .ref a_this_clientSide_out, .ref a_this_clientSide_requests, .ref a_this_clientSide_words, .int v_clientSide_state, .int (nI v_clientSide_asked), .int (nI v_clientSide_wordCount), .int v_clientSide_ungranted])), (a_this_clientSide_out, .inr (1, [.ref a_this_clientSide_out_packet, .ref a_this_clientSide_out_cipher, .ref a_this_clientSide_out_digest, .ref a_this_clientSide_out_sealKey, .int v_clientSide_out_allowance, .int (nI v_clientSide_out_size), .int v_clientSide_out_length, .int (nI v_clientSide_out_payload), .int v_clientSide_out_number]))]) (sz := sz) (mc := 0) (ms := 0) (QcF := fun A => va_Qi (fun (r : Int32) (u : Unit) => r = f_X11_ask v_toServer_size x1 x4) (fun u => BG D ct A [(a_this, .inr (11, [.ref a_this_clientSide, .ref a_this_serverSide, .ref a_this_toServer, .ref a_this_toClient, .int v_connections])), (a_this_toServer, .inr (6, [.ref a_this_toServer_bytes, .int (nI v_toServer_size)])), (a_this_clientSide, .inr (3, [.ref a_this_clientSide_agreement, .ref a_this_clientSide_in, .ref a_this_clientSide_out, .ref a_this_clientSide_requests, .ref a_this_clientSide_words, .int v_clientSide_state, .int (nI v_clientSide_asked), .int (nI v_clientSide_wordCount), .int v_clientSide_ungranted])), (a_this_clientSide_out, .inr (1, [.ref a_this_clientSide_out_packet, .ref a_this_clientSide_out_cipher, .ref a_this_clientSide_out_digest, .ref a_this_clientSide_out_sealKey, .int v_clientSide_out_allowance, .int (nI v_clientSide_out_size), .int v_clientSide_out_length, .int (nI v_clientSide_out_payload), .int v_clientSide_out_number]))]) A) (by decide) (Nat.le_of_ble_eq_true rfl) ?_
  intro p e s m below meth c A X hnm
  obtain ⟨Q, hQ⟩ : ∃ Q, Q = MQ below (va_Qi (fun (r : Int32) (u : Unit) => r = f_X11_ask v_toServer_size x1 x4) (fun u => BG D ct A [(a_this, .inr (11, [.ref a_this_clientSide, .ref a_this_serverSide, .ref a_this_toServer, .ref a_this_toClient, .int v_connections])), (a_this_toServer, .inr (6, [.ref a_this_toServer_bytes, .int (nI v_toServer_size)])), (a_this_clientSide, .inr (3, [.ref a_this_clientSide_agreement, .ref a_this_clientSide_in, .ref a_this_clientSide_out, .ref a_this_clientSide_requests, .ref a_this_clientSide_words, .int v_clientSide_state, .int (nI v_clientSide_asked), .int (nI v_clientSide_wordCount), .int v_clientSide_ungranted])), (a_this_clientSide_out, .inr (1, [.ref a_this_clientSide_out_packet, .ref a_this_clientSide_out_cipher, .ref a_this_clientSide_out_digest, .ref a_this_clientSide_out_sealKey, .int v_clientSide_out_allowance, .int (nI v_clientSide_out_size), .int v_clientSide_out_length, .int (nI v_clientSide_out_payload), .int v_clientSide_out_number]))]) A) [.ref a_this, .int x1, .int x2, .int x3, .int x4, .int x5].toArray s 0 0 A := ⟨_, rfl⟩
  rw [← hQ]
  refine j_lve (lv' := [(0, .ref a_this), (1, .int x1), (2, .int x2), (3, .int x3), (4, .int x4), (5, .int x5)]) rfl ?_
  refine j_iload_n X 1 dX11_ask_0 rfl (q := 1) rfl ?_
  refine j_if_lt (tgt := 10) X dX11_ask_1 (by decide) (q := 4) rfl (fun c1 => ?_) (fun c1 => ?_)
  · skip
    exact absurd c1 h_k1
  · skip
    refine j_iload_n X 1 dX11_ask_4 rfl (q := 5) rfl ?_
    refine j_bipush (v := nI 9) X dX11_ask_5 (by decide) (q := 7) rfl ?_
    refine j_icmp_le (tgt := 18) X dX11_ask_7 (by decide) (q := 10) rfl (fun c2 => ?_) (fun c2 => ?_)
    · skip
      refine j_bipush (v := nI 22) X dX11_ask_18 (by decide) (q := 20) rfl ?_
      refine j_iload_n X 1 dX11_ask_20 rfl (q := 21) rfl ?_
      refine j_iload X 4 dX11_ask_21 rfl (q := 23) rfl ?_
      refine j_callSi (As := [.int x1, .int x4]) (rest := [.int (nI 22)]) (wn := (fun u3 => [(a_this, .inr (11, [.ref a_this_clientSide, .ref a_this_serverSide, .ref a_this_toServer, .ref a_this_toClient, .int v_connections])), (a_this_toServer, .inr (6, [.ref a_this_toServer_bytes, .int (nI v_toServer_size)])), (a_this_clientSide, .inr (3, [.ref a_this_clientSide_agreement, .ref a_this_clientSide_in, .ref a_this_clientSide_out, .ref a_this_clientSide_requests, .ref a_this_clientSide_words, .int v_clientSide_state, .int (nI v_clientSide_asked), .int (nI v_clientSide_wordCount), .int v_clientSide_ungranted])), (a_this_clientSide_out, .inr (1, [.ref a_this_clientSide_out_packet, .ref a_this_clientSide_out_cipher, .ref a_this_clientSide_out_digest, .ref a_this_clientSide_out_sealKey, .int v_clientSide_out_allowance, .int (nI v_clientSide_out_size), .int v_clientSide_out_length, .int (nI v_clientSide_out_payload), .int v_clientSide_out_number]))])) (wr := [(a_this, .inr (11, [.ref a_this_clientSide, .ref a_this_serverSide, .ref a_this_toServer, .ref a_this_toClient, .int v_connections])), (a_this_toServer, .inr (6, [.ref a_this_toServer_bytes, .int (nI v_toServer_size)])), (a_this_clientSide, .inr (3, [.ref a_this_clientSide_agreement, .ref a_this_clientSide_in, .ref a_this_clientSide_out, .ref a_this_clientSide_requests, .ref a_this_clientSide_words, .int v_clientSide_state, .int (nI v_clientSide_asked), .int (nI v_clientSide_wordCount), .int v_clientSide_ungranted])), (a_this_clientSide_out, .inr (1, [.ref a_this_clientSide_out_packet, .ref a_this_clientSide_out_cipher, .ref a_this_clientSide_out_digest, .ref a_this_clientSide_out_sealKey, .int v_clientSide_out_allowance, .int (nI v_clientSide_out_size), .int v_clientSide_out_length, .int (nI v_clientSide_out_payload), .int v_clientSide_out_number]))]) X (fun sz => c_X11_dataBytes l D ct ts x1 x4  sz) cal_X11_dataBytes mw_X11_ask_2 cwt_X11_dataBytes rfl ⟨by decide, by decide⟩ rfl rfl (Nat.le_of_ble_eq_true rfl) ⟨by decide, by decide⟩ [] [0, 1, 2, 3] [0, 1, 2, 3] rfl (by decide) rfl (by decide) (by decide) (fun _ => rfl) (by decide) dX11_ask_23 (q := 26) rfl (fun r4 u3 hu3 => ?_)
      have hu3 : r4 = f_X11_dataBytes x1 x4 := hu3
      subst hu3
      refine j_iadd X dX11_ask_26 (q := 27) rfl ?_
      refine j_topi (fun y6 e_y6 => ?_)
      refine j_istore (lv' := [(6, .int y6), (0, .ref a_this), (1, .int x1), (2, .int x2), (3, .int x3), (4, .int x4), (5, .int x5)]) X dX11_ask_27 (by decide) rfl (q := 29) rfl ?_
      refine j_aload_n X 1 dX11_ask_29 rfl (q := 30) rfl ?_
      refine j_get (f := 2) X 0 inT11 rfl rfl (by decide) mw_X11_ask_0 rfl dX11_ask_30 (q := 33) rfl ?_
      refine j_callVi (As := []) (rest := []) (wn := (fun u7 => [(a_this, .inr (11, [.ref a_this_clientSide, .ref a_this_serverSide, .ref a_this_toServer, .ref a_this_toClient, .int v_connections])), (a_this_toServer, .inr (6, [.ref a_this_toServer_bytes, .int (nI v_toServer_size)])), (a_this_clientSide, .inr (3, [.ref a_this_clientSide_agreement, .ref a_this_clientSide_in, .ref a_this_clientSide_out, .ref a_this_clientSide_requests, .ref a_this_clientSide_words, .int v_clientSide_state, .int (nI v_clientSide_asked), .int (nI v_clientSide_wordCount), .int v_clientSide_ungranted])), (a_this_clientSide_out, .inr (1, [.ref a_this_clientSide_out_packet, .ref a_this_clientSide_out_cipher, .ref a_this_clientSide_out_digest, .ref a_this_clientSide_out_sealKey, .int v_clientSide_out_allowance, .int (nI v_clientSide_out_size), .int v_clientSide_out_length, .int (nI v_clientSide_out_payload), .int v_clientSide_out_number]))])) (wr := [(a_this, .inr (11, [.ref a_this_clientSide, .ref a_this_serverSide, .ref a_this_toServer, .ref a_this_toClient, .int v_connections])), (a_this_clientSide, .inr (3, [.ref a_this_clientSide_agreement, .ref a_this_clientSide_in, .ref a_this_clientSide_out, .ref a_this_clientSide_requests, .ref a_this_clientSide_words, .int v_clientSide_state, .int (nI v_clientSide_asked), .int (nI v_clientSide_wordCount), .int v_clientSide_ungranted])), (a_this_clientSide_out, .inr (1, [.ref a_this_clientSide_out_packet, .ref a_this_clientSide_out_cipher, .ref a_this_clientSide_out_digest, .ref a_this_clientSide_out_sealKey, .int v_clientSide_out_allowance, .int (nI v_clientSide_out_size), .int v_clientSide_out_length, .int (nI v_clientSide_out_payload), .int v_clientSide_out_number]))]) X (fun sz => c_X6_isFull l D ct ts a_this_toServer a_this_toServer_bytes v_toServer_size (by first | omega | assumption) sz) cal_X6_isFull 1 rfl rfl mw_X11_ask_3 cwi_X6_isFull cws_X6_isFull rfl ⟨by decide, by decide⟩ rfl rfl (Nat.le_of_ble_eq_true rfl) ⟨by decide, by decide⟩ [1] [0, 2, 3] [0, 3, 1, 2] rfl (by decide) rfl (by decide) (by decide) (fun _ => rfl) (by decide) dX11_ask_33 (q := 36) rfl (fun r8 u7 hu7 => ?_)
      have hu7 : r8 = f_X6_isFull v_toServer_size := hu7
      subst hu7
      refine j_if_ne (tgt := 51) X dX11_ask_36 (by decide) (q := 39) rfl (fun c10 => ?_) (fun c10 => ?_)
      · skip
        refine j_iconst (v := -1) X dX11_ask_51 (by decide) (q := 52) rfl ?_
        rw [hQ]
        exact j_iret X (()) dX11_ask_52 (by subst e_y6; first | rfl | (simp only [f_X11_ask, if_pos c2, if_neg c10]; done) | (simp only [f_X11_ask, if_pos c2, if_neg c10]; rfl)) rfl
      · skip
        refine j_aload_n X 1 dX11_ask_39 rfl (q := 40) rfl ?_
        refine j_get (f := 0) X 0 inT11 rfl rfl (by decide) mw_X11_ask_1 rfl dX11_ask_40 (q := 43) rfl ?_
        refine j_iload X 0 dX11_ask_43 rfl (q := 45) rfl ?_
        refine j_callVi (As := [.int y6]) (rest := []) (wn := (fun u11 => [(a_this, .inr (11, [.ref a_this_clientSide, .ref a_this_serverSide, .ref a_this_toServer, .ref a_this_toClient, .int v_connections])), (a_this_toServer, .inr (6, [.ref a_this_toServer_bytes, .int (nI v_toServer_size)])), (a_this_clientSide, .inr (3, [.ref a_this_clientSide_agreement, .ref a_this_clientSide_in, .ref a_this_clientSide_out, .ref a_this_clientSide_requests, .ref a_this_clientSide_words, .int v_clientSide_state, .int (nI v_clientSide_asked), .int (nI v_clientSide_wordCount), .int v_clientSide_ungranted])), (a_this_clientSide_out, .inr (1, [.ref a_this_clientSide_out_packet, .ref a_this_clientSide_out_cipher, .ref a_this_clientSide_out_digest, .ref a_this_clientSide_out_sealKey, .int v_clientSide_out_allowance, .int (nI v_clientSide_out_size), .int v_clientSide_out_length, .int (nI v_clientSide_out_payload), .int v_clientSide_out_number]))])) (wr := [(a_this, .inr (11, [.ref a_this_clientSide, .ref a_this_serverSide, .ref a_this_toServer, .ref a_this_toClient, .int v_connections])), (a_this_toServer, .inr (6, [.ref a_this_toServer_bytes, .int (nI v_toServer_size)]))]) X (fun sz => c_X3_maySend l D ct ts a_this_clientSide a_this_clientSide_out a_this_clientSide_agreement a_this_clientSide_in a_this_clientSide_requests a_this_clientSide_words a_this_clientSide_out_packet a_this_clientSide_out_cipher a_this_clientSide_out_digest a_this_clientSide_out_sealKey v_clientSide_state v_clientSide_asked v_clientSide_wordCount v_clientSide_ungranted v_clientSide_out_allowance v_clientSide_out_size v_clientSide_out_length v_clientSide_out_payload v_clientSide_out_number y6 (by first | omega | assumption) sz) cal_X3_maySend 2 rfl rfl mw_X11_ask_4 cwi_X3_maySend cws_X3_maySend rfl ⟨by decide, by decide⟩ rfl rfl (Nat.le_of_ble_eq_true rfl) ⟨by decide, by decide⟩ [2, 3] [0, 1] [0, 1, 2, 3] rfl (by decide) rfl (by decide) (by decide) (fun _ => rfl) (by decide) dX11_ask_45 (q := 48) rfl (fun r12 u11 hu11 => ?_)
        have hu11 : r12 = f_X3_maySend v_clientSide_state v_clientSide_asked v_clientSide_out_allowance y6 := hu11
        subst hu11
        refine j_if_ne (tgt := 53) X dX11_ask_48 (by decide) (q := 51) rfl (fun c14 => ?_) (fun c14 => ?_)
        · skip
          exact absurd (by subst h_st; rfl) c14
        · skip
          refine j_iconst (v := -1) X dX11_ask_51 (by decide) (q := 52) rfl ?_
          rw [hQ]
          exact j_iret X (()) dX11_ask_52 (by subst e_y6; first | rfl | (simp only [f_X11_ask, if_pos c2, if_pos c10]; done) | (simp only [f_X11_ask, if_pos c2, if_pos c10]; rfl)) rfl
    · skip
      exact absurd h_k2 c2
theorem cal_X11_ask : Cal yX11_ask cX11_ask 7 (some .int) 5 := ⟨tb_at 109 (by decide +kernel) (by decide +kernel), tb_at 630 (by decide +kernel) (by decide +kernel), by decide +kernel, by decide +kernel, by decide +kernel⟩
theorem cwi_X11_ask : Cond.instanceMethod yX11_ask ∈ tb := tb_at 628 (by decide +kernel) (by decide +kernel)
theorem cws_X11_ask : Cond.selects yX11_ask.cls yX11_ask yX11_ask ∈ tb := tb_at 629 (by decide +kernel) (by decide +kernel)
