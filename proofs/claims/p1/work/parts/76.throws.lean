theorem mw_X11_line_b_0 : Cond.classLink "GuardedTree" 113 EIX ∈ tb := tb_at 800 (by decide +kernel) (by decide +kernel)
theorem mw_X11_line_b_1 : Cond.initialized EIX ∈ tb := tb_at 126 (by decide +kernel) (by decide +kernel)
set_option maxHeartbeats 4000000 in
set_option maxRecDepth 100000 in
theorem c_X11_line_b (l : Launch) (D : va_G) (ct : Nat → ClassId) (ts : Nat → Nat) (hl : l.stackTraces = false) (a_this a_this_clientSide a_this_serverSide a_this_toServer a_this_toClient : Nat) (v_connections : Int32) (x1 : Int32) (h_b : x1 < 0 ∨ ¬ x1 ≤ nI 1) (sz : Nat) : vx_Met l yX11_line (Cond.code yX11_line cX11_line 2 (some (.object "GuardedTree$Line")) :: tb) { frames := 6, cells := 1, slots := 6, locals := 81 } (PcX D ct SXL ts [.ref a_this, .int x1] [(a_this, .inr (11, [.ref a_this_clientSide, .ref a_this_serverSide, .ref a_this_toServer, .ref a_this_toClient, .int v_connections]))] sz) (NQ (va_A [(a_this, .inr (11, [.ref a_this_clientSide, .ref a_this_serverSide, .ref a_this_toServer, .ref a_this_toClient, .int v_connections]))] sz)) (XQ EIX (va_A [(a_this, .inr (11, [.ref a_this_clientSide, .ref a_this_serverSide, .ref a_this_toServer, .ref a_this_toClient, .int v_connections]))] sz)) 1 6 (va_A [(a_this, .inr (11, [.ref a_this_clientSide, .ref a_this_serverSide, .ref a_this_toServer, .ref a_this_toClient, .int v_connections]))] sz) := by
  refine metX (l := l) (y := yX11_line) (cc := cX11_line) (maxL := 2) (ret := (some (.object "GuardedTree$Line"))) (rm := { frames := 6, cells := 1, slots := 6, locals := 81 }) (D := D) (ct := ct) (L := SXL) (ts := ts) (av := [.ref a_this, .int x1]) (ws := [(a_this, .inr (11, [.ref a_this_clientSide, .ref a_this_serverSide, .ref a_this_toServer, .ref a_this_toClient, .int v_connections]))]) (sz := sz) (mc := 1) (ms := 6) (QcF := NQ) (XcF := XQ EIX) (by decide) (Nat.le_of_ble_eq_true rfl) ?_
  intro p e s m below meth c A X hT hex
  obtain ⟨Q, hQ⟩ : ∃ Q, Q = vx_MQ below (NQ A) (XQ EIX A) [.ref a_this, .int x1].toArray s 1 6 A := ⟨_, rfl⟩
  rw [← hQ]
  refine j_lve (lv' := [(0, .ref a_this), (1, .int x1)]) rfl ?_
  refine j_iload_n X 1 dX11_line_0 rfl (q := 1) rfl ?_
  refine j_if_lt (tgt := 9) X dX11_line_1 (by decide) (q := 4) rfl (fun c1 => ?_) (fun c1 => ?_)
  · skip
    rw [hQ]
    exact j_throw hl X hT hex (by decide) mw_X11_line_b_0 mw_X11_line_b_1 tx_atI tx_noI hT.2.2.1 tx_otI dX11_line_9 dX11_line_12 dX11_line_13 dX11_line_16 (by decide) (by decide) (by decide) (by decide) (by decide) (by decide)
  · skip
    refine j_iload_n X 1 dX11_line_4 rfl (q := 5) rfl ?_
    refine j_iconst (v := nI 1) X dX11_line_5 (by decide) (q := 6) rfl ?_
    refine j_icmp_le (tgt := 17) X dX11_line_6 (by decide) (q := 9) rfl (fun c2 => ?_) (fun c2 => ?_)
    · skip
      exact h_b.elim (fun q => absurd q (by assumption)) (fun q => absurd c2 q)
    · skip
      rw [hQ]
      exact j_throw hl X hT hex (by decide) mw_X11_line_b_0 mw_X11_line_b_1 tx_atI tx_noI hT.2.2.1 tx_otI dX11_line_9 dX11_line_12 dX11_line_13 dX11_line_16 (by decide) (by decide) (by decide) (by decide) (by decide) (by decide)
theorem mw_X11_way_b_0 : Cond.methodLink "GuardedTree" 120 yX11_line ∈ tb := tb_at 829 (by decide +kernel) (by decide +kernel)
set_option maxHeartbeats 4000000 in
set_option maxRecDepth 100000 in
theorem c_X11_way_b (l : Launch) (D : va_G) (ct : Nat → ClassId) (ts : Nat → Nat) (hl : l.stackTraces = false) (a_this a_this_clientSide a_this_serverSide a_this_toServer a_this_toClient : Nat) (v_connections : Int32) (x1 : Int32) (h_b : x1 < 0 ∨ ¬ x1 ≤ nI 1) (sz : Nat) : vx_Met l yX11_way (Cond.code yX11_way cX11_way 2 (some .int) :: tb) { frames := 7, cells := 1, slots := 6, locals := 102 } (PcX D ct SXL ts [.ref a_this, .int x1] [(a_this, .inr (11, [.ref a_this_clientSide, .ref a_this_serverSide, .ref a_this_toServer, .ref a_this_toClient, .int v_connections]))] sz) (NQ (va_A [(a_this, .inr (11, [.ref a_this_clientSide, .ref a_this_serverSide, .ref a_this_toServer, .ref a_this_toClient, .int v_connections]))] sz)) (XQ EIX (va_A [(a_this, .inr (11, [.ref a_this_clientSide, .ref a_this_serverSide, .ref a_this_toServer, .ref a_this_toClient, .int v_connections]))] sz)) 1 6 (va_A [(a_this, .inr (11, [.ref a_this_clientSide, .ref a_this_serverSide, .ref a_this_toServer, .ref a_this_toClient, .int v_connections]))] sz) := by
  refine metX (l := l) (y := yX11_way) (cc := cX11_way) (maxL := 2) (ret := (some .int)) (rm := { frames := 7, cells := 1, slots := 6, locals := 102 }) (D := D) (ct := ct) (L := SXL) (ts := ts) (av := [.ref a_this, .int x1]) (ws := [(a_this, .inr (11, [.ref a_this_clientSide, .ref a_this_serverSide, .ref a_this_toServer, .ref a_this_toClient, .int v_connections]))]) (sz := sz) (mc := 1) (ms := 6) (QcF := NQ) (XcF := XQ EIX) (by decide) (Nat.le_of_ble_eq_true rfl) ?_
  intro p e s m below meth c A X hT hex
  obtain ⟨Q, hQ⟩ : ∃ Q, Q = vx_MQ below (NQ A) (XQ EIX A) [.ref a_this, .int x1].toArray s 1 6 A := ⟨_, rfl⟩
  rw [← hQ]
  refine j_lve (lv' := [(0, .ref a_this), (1, .int x1)]) rfl ?_
  refine j_aload_n X 0 dX11_way_0 rfl (q := 1) rfl ?_
  refine j_iload_n X 1 dX11_way_1 rfl (q := 2) rfl ?_
  rw [hQ]
  exact j_callVx (As := [.int x1]) (rest := []) (wr := []) X hT (fun sz => c_X11_line_b l D ct ts hl a_this a_this_clientSide a_this_serverSide a_this_toServer a_this_toClient v_connections x1 (by first | omega | assumption) sz) cal_X11_line 0 rfl rfl mw_X11_way_b_0 cwi_X11_line cws_X11_line rfl ⟨by decide, by decide⟩ rfl rfl (Nat.le_of_ble_eq_true rfl) ⟨by decide, by decide⟩ [0] [] rfl (by decide) rfl (by decide) (by decide) dX11_way_2 (j_outx X hex (by decide) (by decide))
theorem mw_X11_credit_b_0 : Cond.classLink "GuardedTree" 113 EIX ∈ tb := tb_at 800 (by decide +kernel) (by decide +kernel)
theorem mw_X11_credit_b_1 : Cond.initialized EIX ∈ tb := tb_at 126 (by decide +kernel) (by decide +kernel)
set_option maxHeartbeats 4000000 in
set_option maxRecDepth 100000 in
theorem c_X11_credit_b (l : Launch) (D : va_G) (ct : Nat → ClassId) (ts : Nat → Nat) (hl : l.stackTraces = false) (a_this a_this_clientSide a_this_serverSide a_this_toServer a_this_toClient : Nat) (v_connections : Int32) (x1 : Int32) (h_b : x1 < 0 ∨ ¬ x1 ≤ nI 1) (sz : Nat) : vx_Met l yX11_credit (Cond.code yX11_credit cX11_credit 2 (some .int) :: tb) { frames := 6, cells := 1, slots := 6, locals := 81 } (PcX D ct SXL ts [.ref a_this, .int x1] [(a_this, .inr (11, [.ref a_this_clientSide, .ref a_this_serverSide, .ref a_this_toServer, .ref a_this_toClient, .int v_connections]))] sz) (NQ (va_A [(a_this, .inr (11, [.ref a_this_clientSide, .ref a_this_serverSide, .ref a_this_toServer, .ref a_this_toClient, .int v_connections]))] sz)) (XQ EIX (va_A [(a_this, .inr (11, [.ref a_this_clientSide, .ref a_this_serverSide, .ref a_this_toServer, .ref a_this_toClient, .int v_connections]))] sz)) 1 6 (va_A [(a_this, .inr (11, [.ref a_this_clientSide, .ref a_this_serverSide, .ref a_this_toServer, .ref a_this_toClient, .int v_connections]))] sz) := by
  refine metX (l := l) (y := yX11_credit) (cc := cX11_credit) (maxL := 2) (ret := (some .int)) (rm := { frames := 6, cells := 1, slots := 6, locals := 81 }) (D := D) (ct := ct) (L := SXL) (ts := ts) (av := [.ref a_this, .int x1]) (ws := [(a_this, .inr (11, [.ref a_this_clientSide, .ref a_this_serverSide, .ref a_this_toServer, .ref a_this_toClient, .int v_connections]))]) (sz := sz) (mc := 1) (ms := 6) (QcF := NQ) (XcF := XQ EIX) (by decide) (Nat.le_of_ble_eq_true rfl) ?_
  intro p e s m below meth c A X hT hex
  obtain ⟨Q, hQ⟩ : ∃ Q, Q = vx_MQ below (NQ A) (XQ EIX A) [.ref a_this, .int x1].toArray s 1 6 A := ⟨_, rfl⟩
  rw [← hQ]
  refine j_lve (lv' := [(0, .ref a_this), (1, .int x1)]) rfl ?_
  refine j_iload_n X 1 dX11_credit_0 rfl (q := 1) rfl ?_
  refine j_if_lt (tgt := 9) X dX11_credit_1 (by decide) (q := 4) rfl (fun c1 => ?_) (fun c1 => ?_)
  · skip
    rw [hQ]
    exact j_throw hl X hT hex (by decide) mw_X11_credit_b_0 mw_X11_credit_b_1 tx_atI tx_noI hT.2.2.1 tx_otI dX11_credit_9 dX11_credit_12 dX11_credit_13 dX11_credit_16 (by decide) (by decide) (by decide) (by decide) (by decide) (by decide)
  · skip
    refine j_iload_n X 1 dX11_credit_4 rfl (q := 5) rfl ?_
    refine j_iconst (v := nI 1) X dX11_credit_5 (by decide) (q := 6) rfl ?_
    refine j_icmp_le (tgt := 17) X dX11_credit_6 (by decide) (q := 9) rfl (fun c2 => ?_) (fun c2 => ?_)
    · skip
      exact h_b.elim (fun q => absurd q (by assumption)) (fun q => absurd c2 q)
    · skip
      rw [hQ]
      exact j_throw hl X hT hex (by decide) mw_X11_credit_b_0 mw_X11_credit_b_1 tx_atI tx_noI hT.2.2.1 tx_otI dX11_credit_9 dX11_credit_12 dX11_credit_13 dX11_credit_16 (by decide) (by decide) (by decide) (by decide) (by decide) (by decide)
theorem mw_X11_move_b_0 : Cond.methodLink "GuardedTree" 120 yX11_line ∈ tb := tb_at 829 (by decide +kernel) (by decide +kernel)
set_option maxHeartbeats 4000000 in
set_option maxRecDepth 100000 in
theorem c_X11_move_b (l : Launch) (D : va_G) (ct : Nat → ClassId) (ts : Nat → Nat) (hl : l.stackTraces = false) (a_this a_this_clientSide a_this_serverSide a_this_toServer a_this_toClient : Nat) (v_connections : Int32) (x1 : Int32) (x2 : Int32) (h_b : x1 < 0 ∨ ¬ x1 ≤ nI 1) (sz : Nat) : vx_Met l yX11_move (Cond.code yX11_move cX11_move 6 (some .int) :: tb) { frames := 7, cells := 1, slots := 6, locals := 102 } (PcX D ct SXL ts [.ref a_this, .int x1, .int x2] [(a_this, .inr (11, [.ref a_this_clientSide, .ref a_this_serverSide, .ref a_this_toServer, .ref a_this_toClient, .int v_connections]))] sz) (NQ (va_A [(a_this, .inr (11, [.ref a_this_clientSide, .ref a_this_serverSide, .ref a_this_toServer, .ref a_this_toClient, .int v_connections]))] sz)) (XQ EIX (va_A [(a_this, .inr (11, [.ref a_this_clientSide, .ref a_this_serverSide, .ref a_this_toServer, .ref a_this_toClient, .int v_connections]))] sz)) 1 6 (va_A [(a_this, .inr (11, [.ref a_this_clientSide, .ref a_this_serverSide, .ref a_this_toServer, .ref a_this_toClient, .int v_connections]))] sz) := by
  refine metX (l := l) (y := yX11_move) (cc := cX11_move) (maxL := 6) (ret := (some .int)) (rm := { frames := 7, cells := 1, slots := 6, locals := 102 }) (D := D) (ct := ct) (L := SXL) (ts := ts) (av := [.ref a_this, .int x1, .int x2]) (ws := [(a_this, .inr (11, [.ref a_this_clientSide, .ref a_this_serverSide, .ref a_this_toServer, .ref a_this_toClient, .int v_connections]))]) (sz := sz) (mc := 1) (ms := 6) (QcF := NQ) (XcF := XQ EIX) (by decide) (Nat.le_of_ble_eq_true rfl) ?_
  intro p e s m below meth c A X hT hex
  obtain ⟨Q, hQ⟩ : ∃ Q, Q = vx_MQ below (NQ A) (XQ EIX A) [.ref a_this, .int x1, .int x2].toArray s 1 6 A := ⟨_, rfl⟩
  rw [← hQ]
  refine j_lve (lv' := [(0, .ref a_this), (1, .int x1), (2, .int x2)]) rfl ?_
  refine j_aload_n X 0 dX11_move_0 rfl (q := 1) rfl ?_
  refine j_iload_n X 1 dX11_move_1 rfl (q := 2) rfl ?_
  rw [hQ]
  exact j_callVx (As := [.int x1]) (rest := []) (wr := []) X hT (fun sz => c_X11_line_b l D ct ts hl a_this a_this_clientSide a_this_serverSide a_this_toServer a_this_toClient v_connections x1 (by first | omega | assumption) sz) cal_X11_line 0 rfl rfl mw_X11_move_b_0 cwi_X11_line cws_X11_line rfl ⟨by decide, by decide⟩ rfl rfl (Nat.le_of_ble_eq_true rfl) ⟨by decide, by decide⟩ [0] [] rfl (by decide) rfl (by decide) (by decide) dX11_move_2 (j_outx X hex (by decide) (by decide))
theorem mw_X11_octet_0 : Cond.fieldLink "GuardedTree" 124 "GuardedTree$Line" "size" "I" ∈ tb := tb_at 465 (by decide +kernel) (by decide +kernel)
theorem mw_X11_octet_1 : Cond.methodLink "GuardedTree" 120 yX11_line ∈ tb := tb_at 829 (by decide +kernel) (by decide +kernel)
theorem mw_X11_octet_2 : Cond.classLink "GuardedTree" 113 EIX ∈ tb := tb_at 800 (by decide +kernel) (by decide +kernel)
theorem mw_X11_octet_3 : Cond.initialized EIX ∈ tb := tb_at 126 (by decide +kernel) (by decide +kernel)
theorem dX11_octet_0 : decode cX11_octet 0 = .ok (.aload_n 0, 1) := by decide +kernel
theorem dX11_octet_1 : decode cX11_octet 1 = .ok (.iload_n 1, 1) := by decide +kernel
theorem dX11_octet_2 : decode cX11_octet 2 = .ok (.invokevirtual 120, 3) := by decide +kernel
theorem dX11_octet_5 : decode cX11_octet 5 = .ok (.astore_n 3, 1) := by decide +kernel
theorem dX11_octet_6 : decode cX11_octet 6 = .ok (.iload_n 2, 1) := by decide +kernel
theorem dX11_octet_7 : decode cX11_octet 7 = .ok (.ifCond .lt 11, 3) := by decide +kernel
theorem dX11_octet_10 : decode cX11_octet 10 = .ok (.iload_n 2, 1) := by decide +kernel
theorem dX11_octet_11 : decode cX11_octet 11 = .ok (.aload_n 3, 1) := by decide +kernel
theorem dX11_octet_12 : decode cX11_octet 12 = .ok (.getfield 124, 3) := by decide +kernel
theorem dX11_octet_15 : decode cX11_octet 15 = .ok (.if_icmp .lt 11, 3) := by decide +kernel
theorem dX11_octet_18 : decode cX11_octet 18 = .ok (.new 113, 3) := by decide +kernel
theorem dX11_octet_21 : decode cX11_octet 21 = .ok (.dup, 1) := by decide +kernel
theorem dX11_octet_22 : decode cX11_octet 22 = .ok (.invokespecial 115, 3) := by decide +kernel
theorem dX11_octet_25 : decode cX11_octet 25 = .ok (.athrow, 1) := by decide +kernel
theorem dX11_octet_26 : decode cX11_octet 26 = .ok (.aload_n 3, 1) := by decide +kernel
theorem dX11_octet_27 : decode cX11_octet 27 = .ok (.getfield 127, 3) := by decide +kernel
theorem dX11_octet_30 : decode cX11_octet 30 = .ok (.iload_n 2, 1) := by decide +kernel
theorem dX11_octet_31 : decode cX11_octet 31 = .ok (.baload, 1) := by decide +kernel
theorem dX11_octet_32 : decode cX11_octet 32 = .ok (.sipush 255, 3) := by decide +kernel
theorem dX11_octet_35 : decode cX11_octet 35 = .ok (.iand, 1) := by decide +kernel
theorem dX11_octet_36 : decode cX11_octet 36 = .ok (.ireturn, 1) := by decide +kernel
set_option maxHeartbeats 4000000 in
set_option maxRecDepth 100000 in
theorem c_X11_octet (l : Launch) (D : va_G) (ct : Nat → ClassId) (ts : Nat → Nat) (hl : l.stackTraces = false) (a_this a_this_toServer a_this_clientSide a_this_serverSide a_this_toClient a_this_toServer_bytes : Nat) (v_connections : Int32) (v_toServer_size : Nat) (x1 : Int32) (x2 : Int32) (h_x : x1 = nI 0) (h_z : v_toServer_size = 0) (sz : Nat) : vx_Met l yX11_octet (Cond.code yX11_octet cX11_octet 4 (some .int) :: tb) { frames := 6, cells := 1, slots := 6, locals := 81 } (PcX D ct SXL ts [.ref a_this, .int x1, .int x2] [(a_this, .inr (11, [.ref a_this_clientSide, .ref a_this_serverSide, .ref a_this_toServer, .ref a_this_toClient, .int v_connections])), (a_this_toServer, .inr (6, [.ref a_this_toServer_bytes, .int (nI v_toServer_size)]))] sz) (NQ (va_A [(a_this, .inr (11, [.ref a_this_clientSide, .ref a_this_serverSide, .ref a_this_toServer, .ref a_this_toClient, .int v_connections])), (a_this_toServer, .inr (6, [.ref a_this_toServer_bytes, .int (nI v_toServer_size)]))] sz)) (XQ EIX (va_A [(a_this, .inr (11, [.ref a_this_clientSide, .ref a_this_serverSide, .ref a_this_toServer, .ref a_this_toClient, .int v_connections])), (a_this_toServer, .inr (6, [.ref a_this_toServer_bytes, .int (nI v_toServer_size)]))] sz)) 1 6 (va_A [(a_this, .inr (11, [.ref a_this_clientSide, .ref a_this_serverSide, .ref a_this_toServer, .ref a_this_toClient, .int v_connections])), (a_this_toServer, .inr (6, [.ref a_this_toServer_bytes, .int (nI v_toServer_size)]))] sz) := by
  refine metX (l := l) (y := yX11_octet) (cc := cX11_octet) (maxL := 4) (ret := (some .int)) (rm := { frames := 6, cells := 1, slots := 6, locals := 81 }) (D := D) (ct := ct) (L := SXL) (ts := ts) (av := [.ref a_this, .int x1, .int x2]) (ws := [(a_this, .inr (11, [.ref a_this_clientSide, .ref a_this_serverSide, .ref a_this_toServer, .ref a_this_toClient, .int v_connections])), (a_this_toServer, .inr (6, [.ref a_this_toServer_bytes, .int (nI v_toServer_size)]))]) (sz := sz) (mc := 1) (ms := 6) (QcF := NQ) (XcF := XQ EIX) (by decide) (Nat.le_of_ble_eq_true rfl) ?_
  intro p e s m below meth c A X hT hex
  obtain ⟨Q, hQ⟩ : ∃ Q, Q = vx_MQ below (NQ A) (XQ EIX A) [.ref a_this, .int x1, .int x2].toArray s 1 6 A := ⟨_, rfl⟩
  rw [← hQ]
  refine j_lve (lv' := [(0, .ref a_this), (1, .int x1), (2, .int x2)]) rfl ?_
  refine j_aload_n X 0 dX11_octet_0 rfl (q := 1) rfl ?_
  refine j_iload_n X 1 dX11_octet_1 rfl (q := 2) rfl ?_
  refine j_callVr (As := [.int x1]) (rest := []) (wn := (fun u1 => [(a_this, .inr (11, [.ref a_this_clientSide, .ref a_this_serverSide, .ref a_this_toServer, .ref a_this_toClient, .int v_connections])), (a_this_toServer, .inr (6, [.ref a_this_toServer_bytes, .int (nI v_toServer_size)]))])) (wr := [(a_this_toServer, .inr (6, [.ref a_this_toServer_bytes, .int (nI v_toServer_size)]))]) X (fun sz => c_X11_line l D ct ts a_this a_this_clientSide a_this_serverSide a_this_toServer a_this_toClient v_connections x1 (by first | omega | assumption) sz) cal_X11_line 0 rfl rfl mw_X11_octet_1 cwi_X11_line cws_X11_line rfl ⟨by decide, by decide⟩ rfl rfl (Nat.le_of_ble_eq_true rfl) ⟨by decide, by decide⟩ [0] [1] [1, 0] rfl (by decide) rfl (by decide) (by decide) (fun _ => rfl) (by decide) dX11_octet_2 (q := 5) rfl (fun u1 hu1 => ?_)
  refine j_astore_n (lv' := [(3, .ref a_this_toServer), (0, .ref a_this), (1, .int x1), (2, .int x2)]) X dX11_octet_5 (by decide) rfl (q := 6) rfl ?_
  refine j_iload_n X 3 dX11_octet_6 rfl (q := 7) rfl ?_
  refine j_if_lt (tgt := 18) X dX11_octet_7 (by decide) (q := 10) rfl (fun c3 => ?_) (fun c3 => ?_)
  · skip
    rw [hQ]
    exact j_throw hl X hT hex (by decide) mw_X11_octet_2 mw_X11_octet_3 tx_atI tx_noI hT.2.2.1 tx_otI dX11_octet_18 dX11_octet_21 dX11_octet_22 dX11_octet_25 (by decide) (by decide) (by decide) (by decide) (by decide) (by decide)
  · skip
    refine j_iload_n X 3 dX11_octet_10 rfl (q := 11) rfl ?_
    refine j_aload_n X 0 dX11_octet_11 rfl (q := 12) rfl ?_
    refine j_get (f := 1) X 1 inT6 rfl rfl (by decide) mw_X11_octet_0 rfl dX11_octet_12 (q := 15) rfl ?_
    refine j_icmp_lt (tgt := 26) X dX11_octet_15 (by decide) (q := 18) rfl (fun c4 => ?_) (fun c4 => ?_)
    · skip
      exact (lt0_no h_z (by assumption) c4).elim
    · skip
      rw [hQ]
      exact j_throw hl X hT hex (by decide) mw_X11_octet_2 mw_X11_octet_3 tx_atI tx_noI hT.2.2.1 tx_otI dX11_octet_18 dX11_octet_21 dX11_octet_22 dX11_octet_25 (by decide) (by decide) (by decide) (by decide) (by decide) (by decide)
theorem cal_X11_octet : Cal yX11_octet cX11_octet 4 (some .int) 2 := ⟨tb_at 109 (by decide +kernel) (by decide +kernel), tb_at 839 (by decide +kernel) (by decide +kernel), by decide +kernel, by decide +kernel, by decide +kernel⟩
theorem cwi_X11_octet : Cond.instanceMethod yX11_octet ∈ tb := tb_at 837 (by decide +kernel) (by decide +kernel)
theorem cws_X11_octet : Cond.selects yX11_octet.cls yX11_octet yX11_octet ∈ tb := tb_at 838 (by decide +kernel) (by decide +kernel)
theorem mw_X11_octet_1_0 : Cond.fieldLink "GuardedTree" 124 "GuardedTree$Line" "size" "I" ∈ tb := tb_at 465 (by decide +kernel) (by decide +kernel)
theorem mw_X11_octet_1_1 : Cond.methodLink "GuardedTree" 120 yX11_line ∈ tb := tb_at 829 (by decide +kernel) (by decide +kernel)
theorem mw_X11_octet_1_2 : Cond.classLink "GuardedTree" 113 EIX ∈ tb := tb_at 800 (by decide +kernel) (by decide +kernel)
theorem mw_X11_octet_1_3 : Cond.initialized EIX ∈ tb := tb_at 126 (by decide +kernel) (by decide +kernel)
set_option maxHeartbeats 4000000 in
set_option maxRecDepth 100000 in
theorem c_X11_octet_1 (l : Launch) (D : va_G) (ct : Nat → ClassId) (ts : Nat → Nat) (hl : l.stackTraces = false) (a_this a_this_toClient a_this_clientSide a_this_serverSide a_this_toServer a_this_toClient_bytes : Nat) (v_connections : Int32) (v_toClient_size : Nat) (x1 : Int32) (x2 : Int32) (h_x : x1 = nI 1) (h_z : v_toClient_size = 0) (sz : Nat) : vx_Met l yX11_octet (Cond.code yX11_octet cX11_octet 4 (some .int) :: tb) { frames := 6, cells := 1, slots := 6, locals := 81 } (PcX D ct SXL ts [.ref a_this, .int x1, .int x2] [(a_this, .inr (11, [.ref a_this_clientSide, .ref a_this_serverSide, .ref a_this_toServer, .ref a_this_toClient, .int v_connections])), (a_this_toClient, .inr (6, [.ref a_this_toClient_bytes, .int (nI v_toClient_size)]))] sz) (NQ (va_A [(a_this, .inr (11, [.ref a_this_clientSide, .ref a_this_serverSide, .ref a_this_toServer, .ref a_this_toClient, .int v_connections])), (a_this_toClient, .inr (6, [.ref a_this_toClient_bytes, .int (nI v_toClient_size)]))] sz)) (XQ EIX (va_A [(a_this, .inr (11, [.ref a_this_clientSide, .ref a_this_serverSide, .ref a_this_toServer, .ref a_this_toClient, .int v_connections])), (a_this_toClient, .inr (6, [.ref a_this_toClient_bytes, .int (nI v_toClient_size)]))] sz)) 1 6 (va_A [(a_this, .inr (11, [.ref a_this_clientSide, .ref a_this_serverSide, .ref a_this_toServer, .ref a_this_toClient, .int v_connections])), (a_this_toClient, .inr (6, [.ref a_this_toClient_bytes, .int (nI v_toClient_size)]))] sz) := by
  refine metX (l := l) (y := yX11_octet) (cc := cX11_octet) (maxL := 4) (ret := (some .int)) (rm := { frames := 6, cells := 1, slots := 6, locals := 81 }) (D := D) (ct := ct) (L := SXL) (ts := ts) (av := [.ref a_this, .int x1, .int x2]) (ws := [(a_this, .inr (11, [.ref a_this_clientSide, .ref a_this_serverSide, .ref a_this_toServer, .ref a_this_toClient, .int v_connections])), (a_this_toClient, .inr (6, [.ref a_this_toClient_bytes, .int (nI v_toClient_size)]))]) (sz := sz) (mc := 1) (ms := 6) (QcF := NQ) (XcF := XQ EIX) (by decide) (Nat.le_of_ble_eq_true rfl) ?_
  intro p e s m below meth c A X hT hex
  obtain ⟨Q, hQ⟩ : ∃ Q, Q = vx_MQ below (NQ A) (XQ EIX A) [.ref a_this, .int x1, .int x2].toArray s 1 6 A := ⟨_, rfl⟩
  rw [← hQ]
  refine j_lve (lv' := [(0, .ref a_this), (1, .int x1), (2, .int x2)]) rfl ?_
  refine j_aload_n X 0 dX11_octet_0 rfl (q := 1) rfl ?_
  refine j_iload_n X 1 dX11_octet_1 rfl (q := 2) rfl ?_
  refine j_callVr (As := [.int x1]) (rest := []) (wn := (fun u1 => [(a_this, .inr (11, [.ref a_this_clientSide, .ref a_this_serverSide, .ref a_this_toServer, .ref a_this_toClient, .int v_connections])), (a_this_toClient, .inr (6, [.ref a_this_toClient_bytes, .int (nI v_toClient_size)]))])) (wr := [(a_this_toClient, .inr (6, [.ref a_this_toClient_bytes, .int (nI v_toClient_size)]))]) X (fun sz => c_X11_line_1 l D ct ts a_this a_this_clientSide a_this_serverSide a_this_toServer a_this_toClient v_connections x1 (by first | omega | assumption) sz) cal_X11_line 0 rfl rfl mw_X11_octet_1_1 cwi_X11_line cws_X11_line rfl ⟨by decide, by decide⟩ rfl rfl (Nat.le_of_ble_eq_true rfl) ⟨by decide, by decide⟩ [0] [1] [1, 0] rfl (by decide) rfl (by decide) (by decide) (fun _ => rfl) (by decide) dX11_octet_2 (q := 5) rfl (fun u1 hu1 => ?_)
  refine j_astore_n (lv' := [(3, .ref a_this_toClient), (0, .ref a_this), (1, .int x1), (2, .int x2)]) X dX11_octet_5 (by decide) rfl (q := 6) rfl ?_
  refine j_iload_n X 3 dX11_octet_6 rfl (q := 7) rfl ?_
  refine j_if_lt (tgt := 18) X dX11_octet_7 (by decide) (q := 10) rfl (fun c3 => ?_) (fun c3 => ?_)
  · skip
    rw [hQ]
    exact j_throw hl X hT hex (by decide) mw_X11_octet_1_2 mw_X11_octet_1_3 tx_atI tx_noI hT.2.2.1 tx_otI dX11_octet_18 dX11_octet_21 dX11_octet_22 dX11_octet_25 (by decide) (by decide) (by decide) (by decide) (by decide) (by decide)
  · skip
    refine j_iload_n X 3 dX11_octet_10 rfl (q := 11) rfl ?_
    refine j_aload_n X 0 dX11_octet_11 rfl (q := 12) rfl ?_
    refine j_get (f := 1) X 1 inT6 rfl rfl (by decide) mw_X11_octet_1_0 rfl dX11_octet_12 (q := 15) rfl ?_
    refine j_icmp_lt (tgt := 26) X dX11_octet_15 (by decide) (q := 18) rfl (fun c4 => ?_) (fun c4 => ?_)
    · skip
      exact (lt0_no h_z (by assumption) c4).elim
    · skip
      rw [hQ]
      exact j_throw hl X hT hex (by decide) mw_X11_octet_1_2 mw_X11_octet_1_3 tx_atI tx_noI hT.2.2.1 tx_otI dX11_octet_18 dX11_octet_21 dX11_octet_22 dX11_octet_25 (by decide) (by decide) (by decide) (by decide) (by decide) (by decide)
theorem mw_X11_octet_b_0 : Cond.methodLink "GuardedTree" 120 yX11_line ∈ tb := tb_at 829 (by decide +kernel) (by decide +kernel)
set_option maxHeartbeats 4000000 in
set_option maxRecDepth 100000 in
theorem c_X11_octet_b (l : Launch) (D : va_G) (ct : Nat → ClassId) (ts : Nat → Nat) (hl : l.stackTraces = false) (a_this a_this_clientSide a_this_serverSide a_this_toServer a_this_toClient : Nat) (v_connections : Int32) (x1 : Int32) (x2 : Int32) (h_b : x1 < 0 ∨ ¬ x1 ≤ nI 1) (sz : Nat) : vx_Met l yX11_octet (Cond.code yX11_octet cX11_octet 4 (some .int) :: tb) { frames := 7, cells := 1, slots := 6, locals := 102 } (PcX D ct SXL ts [.ref a_this, .int x1, .int x2] [(a_this, .inr (11, [.ref a_this_clientSide, .ref a_this_serverSide, .ref a_this_toServer, .ref a_this_toClient, .int v_connections]))] sz) (NQ (va_A [(a_this, .inr (11, [.ref a_this_clientSide, .ref a_this_serverSide, .ref a_this_toServer, .ref a_this_toClient, .int v_connections]))] sz)) (XQ EIX (va_A [(a_this, .inr (11, [.ref a_this_clientSide, .ref a_this_serverSide, .ref a_this_toServer, .ref a_this_toClient, .int v_connections]))] sz)) 1 6 (va_A [(a_this, .inr (11, [.ref a_this_clientSide, .ref a_this_serverSide, .ref a_this_toServer, .ref a_this_toClient, .int v_connections]))] sz) := by
  refine metX (l := l) (y := yX11_octet) (cc := cX11_octet) (maxL := 4) (ret := (some .int)) (rm := { frames := 7, cells := 1, slots := 6, locals := 102 }) (D := D) (ct := ct) (L := SXL) (ts := ts) (av := [.ref a_this, .int x1, .int x2]) (ws := [(a_this, .inr (11, [.ref a_this_clientSide, .ref a_this_serverSide, .ref a_this_toServer, .ref a_this_toClient, .int v_connections]))]) (sz := sz) (mc := 1) (ms := 6) (QcF := NQ) (XcF := XQ EIX) (by decide) (Nat.le_of_ble_eq_true rfl) ?_
  intro p e s m below meth c A X hT hex
  obtain ⟨Q, hQ⟩ : ∃ Q, Q = vx_MQ below (NQ A) (XQ EIX A) [.ref a_this, .int x1, .int x2].toArray s 1 6 A := ⟨_, rfl⟩
  rw [← hQ]
  refine j_lve (lv' := [(0, .ref a_this), (1, .int x1), (2, .int x2)]) rfl ?_
  refine j_aload_n X 0 dX11_octet_0 rfl (q := 1) rfl ?_
  refine j_iload_n X 1 dX11_octet_1 rfl (q := 2) rfl ?_
  rw [hQ]
  exact j_callVx (As := [.int x1]) (rest := []) (wr := []) X hT (fun sz => c_X11_line_b l D ct ts hl a_this a_this_clientSide a_this_serverSide a_this_toServer a_this_toClient v_connections x1 (by first | omega | assumption) sz) cal_X11_line 0 rfl rfl mw_X11_octet_b_0 cwi_X11_line cws_X11_line rfl ⟨by decide, by decide⟩ rfl rfl (Nat.le_of_ble_eq_true rfl) ⟨by decide, by decide⟩ [0] [] rfl (by decide) rfl (by decide) (by decide) dX11_octet_2 (j_outx X hex (by decide) (by decide))
theorem mw_X11_alter_0 : Cond.fieldLink "GuardedTree" 124 "GuardedTree$Line" "size" "I" ∈ tb := tb_at 465 (by decide +kernel) (by decide +kernel)
theorem mw_X11_alter_1 : Cond.methodLink "GuardedTree" 120 yX11_line ∈ tb := tb_at 829 (by decide +kernel) (by decide +kernel)
theorem mw_X11_alter_2 : Cond.classLink "GuardedTree" 113 EIX ∈ tb := tb_at 800 (by decide +kernel) (by decide +kernel)
theorem mw_X11_alter_3 : Cond.initialized EIX ∈ tb := tb_at 126 (by decide +kernel) (by decide +kernel)
theorem dX11_alter_0 : decode cX11_alter 0 = .ok (.aload_n 0, 1) := by decide +kernel
theorem dX11_alter_1 : decode cX11_alter 1 = .ok (.iload_n 1, 1) := by decide +kernel
theorem dX11_alter_2 : decode cX11_alter 2 = .ok (.invokevirtual 120, 3) := by decide +kernel
theorem dX11_alter_5 : decode cX11_alter 5 = .ok (.astore 4, 2) := by decide +kernel
theorem dX11_alter_7 : decode cX11_alter 7 = .ok (.iload_n 2, 1) := by decide +kernel
theorem dX11_alter_8 : decode cX11_alter 8 = .ok (.ifCond .lt 12, 3) := by decide +kernel
theorem dX11_alter_11 : decode cX11_alter 11 = .ok (.iload_n 2, 1) := by decide +kernel
theorem dX11_alter_12 : decode cX11_alter 12 = .ok (.aload 4, 2) := by decide +kernel
theorem dX11_alter_14 : decode cX11_alter 14 = .ok (.getfield 124, 3) := by decide +kernel
theorem dX11_alter_17 : decode cX11_alter 17 = .ok (.if_icmp .lt 11, 3) := by decide +kernel
theorem dX11_alter_20 : decode cX11_alter 20 = .ok (.new 113, 3) := by decide +kernel
theorem dX11_alter_23 : decode cX11_alter 23 = .ok (.dup, 1) := by decide +kernel
theorem dX11_alter_24 : decode cX11_alter 24 = .ok (.invokespecial 115, 3) := by decide +kernel
theorem dX11_alter_27 : decode cX11_alter 27 = .ok (.athrow, 1) := by decide +kernel
theorem dX11_alter_28 : decode cX11_alter 28 = .ok (.aload 4, 2) := by decide +kernel
theorem dX11_alter_30 : decode cX11_alter 30 = .ok (.getfield 127, 3) := by decide +kernel
theorem dX11_alter_33 : decode cX11_alter 33 = .ok (.iload_n 2, 1) := by decide +kernel
theorem dX11_alter_34 : decode cX11_alter 34 = .ok (.aload 4, 2) := by decide +kernel
theorem dX11_alter_36 : decode cX11_alter 36 = .ok (.getfield 127, 3) := by decide +kernel
theorem dX11_alter_39 : decode cX11_alter 39 = .ok (.iload_n 2, 1) := by decide +kernel
theorem dX11_alter_40 : decode cX11_alter 40 = .ok (.baload, 1) := by decide +kernel
theorem dX11_alter_41 : decode cX11_alter 41 = .ok (.iload_n 3, 1) := by decide +kernel
theorem dX11_alter_42 : decode cX11_alter 42 = .ok (.ixor, 1) := by decide +kernel
theorem dX11_alter_43 : decode cX11_alter 43 = .ok (.i2b, 1) := by decide +kernel
theorem dX11_alter_44 : decode cX11_alter 44 = .ok (.bastore, 1) := by decide +kernel
theorem dX11_alter_45 : decode cX11_alter 45 = .ok (.return_, 1) := by decide +kernel
set_option maxHeartbeats 4000000 in
set_option maxRecDepth 100000 in
theorem c_X11_alter (l : Launch) (D : va_G) (ct : Nat → ClassId) (ts : Nat → Nat) (hl : l.stackTraces = false) (a_this a_this_toServer a_this_clientSide a_this_serverSide a_this_toClient a_this_toServer_bytes : Nat) (v_connections : Int32) (v_toServer_size : Nat) (x1 : Int32) (x2 : Int32) (x3 : Int32) (h_x : x1 = nI 0) (h_z : v_toServer_size = 0) (sz : Nat) : vx_Met l yX11_alter (Cond.code yX11_alter cX11_alter 5 none :: tb) { frames := 6, cells := 1, slots := 6, locals := 81 } (PcX D ct SXL ts [.ref a_this, .int x1, .int x2, .int x3] [(a_this, .inr (11, [.ref a_this_clientSide, .ref a_this_serverSide, .ref a_this_toServer, .ref a_this_toClient, .int v_connections])), (a_this_toServer, .inr (6, [.ref a_this_toServer_bytes, .int (nI v_toServer_size)]))] sz) (NQ (va_A [(a_this, .inr (11, [.ref a_this_clientSide, .ref a_this_serverSide, .ref a_this_toServer, .ref a_this_toClient, .int v_connections])), (a_this_toServer, .inr (6, [.ref a_this_toServer_bytes, .int (nI v_toServer_size)]))] sz)) (XQ EIX (va_A [(a_this, .inr (11, [.ref a_this_clientSide, .ref a_this_serverSide, .ref a_this_toServer, .ref a_this_toClient, .int v_connections])), (a_this_toServer, .inr (6, [.ref a_this_toServer_bytes, .int (nI v_toServer_size)]))] sz)) 1 6 (va_A [(a_this, .inr (11, [.ref a_this_clientSide, .ref a_this_serverSide, .ref a_this_toServer, .ref a_this_toClient, .int v_connections])), (a_this_toServer, .inr (6, [.ref a_this_toServer_bytes, .int (nI v_toServer_size)]))] sz) := by
  refine metX (l := l) (y := yX11_alter) (cc := cX11_alter) (maxL := 5) (ret := none) (rm := { frames := 6, cells := 1, slots := 6, locals := 81 }) (D := D) (ct := ct) (L := SXL) (ts := ts) (av := [.ref a_this, .int x1, .int x2, .int x3]) (ws := [(a_this, .inr (11, [.ref a_this_clientSide, .ref a_this_serverSide, .ref a_this_toServer, .ref a_this_toClient, .int v_connections])), (a_this_toServer, .inr (6, [.ref a_this_toServer_bytes, .int (nI v_toServer_size)]))]) (sz := sz) (mc := 1) (ms := 6) (QcF := NQ) (XcF := XQ EIX) (by decide) (Nat.le_of_ble_eq_true rfl) ?_
  intro p e s m below meth c A X hT hex
  obtain ⟨Q, hQ⟩ : ∃ Q, Q = vx_MQ below (NQ A) (XQ EIX A) [.ref a_this, .int x1, .int x2, .int x3].toArray s 1 6 A := ⟨_, rfl⟩
  rw [← hQ]
  refine j_lve (lv' := [(0, .ref a_this), (1, .int x1), (2, .int x2), (3, .int x3)]) rfl ?_
  refine j_aload_n X 0 dX11_alter_0 rfl (q := 1) rfl ?_
  refine j_iload_n X 1 dX11_alter_1 rfl (q := 2) rfl ?_
  refine j_callVr (As := [.int x1]) (rest := []) (wn := (fun u1 => [(a_this, .inr (11, [.ref a_this_clientSide, .ref a_this_serverSide, .ref a_this_toServer, .ref a_this_toClient, .int v_connections])), (a_this_toServer, .inr (6, [.ref a_this_toServer_bytes, .int (nI v_toServer_size)]))])) (wr := [(a_this_toServer, .inr (6, [.ref a_this_toServer_bytes, .int (nI v_toServer_size)]))]) X (fun sz => c_X11_line l D ct ts a_this a_this_clientSide a_this_serverSide a_this_toServer a_this_toClient v_connections x1 (by first | omega | assumption) sz) cal_X11_line 0 rfl rfl mw_X11_alter_1 cwi_X11_line cws_X11_line rfl ⟨by decide, by decide⟩ rfl rfl (Nat.le_of_ble_eq_true rfl) ⟨by decide, by decide⟩ [0] [1] [1, 0] rfl (by decide) rfl (by decide) (by decide) (fun _ => rfl) (by decide) dX11_alter_2 (q := 5) rfl (fun u1 hu1 => ?_)
  refine j_astore (lv' := [(4, .ref a_this_toServer), (0, .ref a_this), (1, .int x1), (2, .int x2), (3, .int x3)]) X dX11_alter_5 (by decide) rfl (q := 7) rfl ?_
  refine j_iload_n X 3 dX11_alter_7 rfl (q := 8) rfl ?_
  refine j_if_lt (tgt := 20) X dX11_alter_8 (by decide) (q := 11) rfl (fun c3 => ?_) (fun c3 => ?_)
  · skip
    rw [hQ]
    exact j_throw hl X hT hex (by decide) mw_X11_alter_2 mw_X11_alter_3 tx_atI tx_noI hT.2.2.1 tx_otI dX11_alter_20 dX11_alter_23 dX11_alter_24 dX11_alter_27 (by decide) (by decide) (by decide) (by decide) (by decide) (by decide)
  · skip
    refine j_iload_n X 3 dX11_alter_11 rfl (q := 12) rfl ?_
    refine j_aload X 0 dX11_alter_12 rfl (q := 14) rfl ?_
    refine j_get (f := 1) X 1 inT6 rfl rfl (by decide) mw_X11_alter_0 rfl dX11_alter_14 (q := 17) rfl ?_
    refine j_icmp_lt (tgt := 28) X dX11_alter_17 (by decide) (q := 20) rfl (fun c4 => ?_) (fun c4 => ?_)
    · skip
      exact (lt0_no h_z (by assumption) c4).elim
    · skip
      rw [hQ]
      exact j_throw hl X hT hex (by decide) mw_X11_alter_2 mw_X11_alter_3 tx_atI tx_noI hT.2.2.1 tx_otI dX11_alter_20 dX11_alter_23 dX11_alter_24 dX11_alter_27 (by decide) (by decide) (by decide) (by decide) (by decide) (by decide)
theorem cal_X11_alter : Cal yX11_alter cX11_alter 5 none 3 := ⟨tb_at 109 (by decide +kernel) (by decide +kernel), tb_at 846 (by decide +kernel) (by decide +kernel), by decide +kernel, by decide +kernel, by decide +kernel⟩
theorem cwi_X11_alter : Cond.instanceMethod yX11_alter ∈ tb := tb_at 844 (by decide +kernel) (by decide +kernel)
theorem cws_X11_alter : Cond.selects yX11_alter.cls yX11_alter yX11_alter ∈ tb := tb_at 845 (by decide +kernel) (by decide +kernel)
theorem mw_X11_alter_1_0 : Cond.fieldLink "GuardedTree" 124 "GuardedTree$Line" "size" "I" ∈ tb := tb_at 465 (by decide +kernel) (by decide +kernel)
theorem mw_X11_alter_1_1 : Cond.methodLink "GuardedTree" 120 yX11_line ∈ tb := tb_at 829 (by decide +kernel) (by decide +kernel)
theorem mw_X11_alter_1_2 : Cond.classLink "GuardedTree" 113 EIX ∈ tb := tb_at 800 (by decide +kernel) (by decide +kernel)
theorem mw_X11_alter_1_3 : Cond.initialized EIX ∈ tb := tb_at 126 (by decide +kernel) (by decide +kernel)
set_option maxHeartbeats 4000000 in
set_option maxRecDepth 100000 in
theorem c_X11_alter_1 (l : Launch) (D : va_G) (ct : Nat → ClassId) (ts : Nat → Nat) (hl : l.stackTraces = false) (a_this a_this_toClient a_this_clientSide a_this_serverSide a_this_toServer a_this_toClient_bytes : Nat) (v_connections : Int32) (v_toClient_size : Nat) (x1 : Int32) (x2 : Int32) (x3 : Int32) (h_x : x1 = nI 1) (h_z : v_toClient_size = 0) (sz : Nat) : vx_Met l yX11_alter (Cond.code yX11_alter cX11_alter 5 none :: tb) { frames := 6, cells := 1, slots := 6, locals := 81 } (PcX D ct SXL ts [.ref a_this, .int x1, .int x2, .int x3] [(a_this, .inr (11, [.ref a_this_clientSide, .ref a_this_serverSide, .ref a_this_toServer, .ref a_this_toClient, .int v_connections])), (a_this_toClient, .inr (6, [.ref a_this_toClient_bytes, .int (nI v_toClient_size)]))] sz) (NQ (va_A [(a_this, .inr (11, [.ref a_this_clientSide, .ref a_this_serverSide, .ref a_this_toServer, .ref a_this_toClient, .int v_connections])), (a_this_toClient, .inr (6, [.ref a_this_toClient_bytes, .int (nI v_toClient_size)]))] sz)) (XQ EIX (va_A [(a_this, .inr (11, [.ref a_this_clientSide, .ref a_this_serverSide, .ref a_this_toServer, .ref a_this_toClient, .int v_connections])), (a_this_toClient, .inr (6, [.ref a_this_toClient_bytes, .int (nI v_toClient_size)]))] sz)) 1 6 (va_A [(a_this, .inr (11, [.ref a_this_clientSide, .ref a_this_serverSide, .ref a_this_toServer, .ref a_this_toClient, .int v_connections])), (a_this_toClient, .inr (6, [.ref a_this_toClient_bytes, .int (nI v_toClient_size)]))] sz) := by
  refine metX (l := l) (y := yX11_alter) (cc := cX11_alter) (maxL := 5) (ret := none) (rm := { frames := 6, cells := 1, slots := 6, locals := 81 }) (D := D) (ct := ct) (L := SXL) (ts := ts) (av := [.ref a_this, .int x1, .int x2, .int x3]) (ws := [(a_this, .inr (11, [.ref a_this_clientSide, .ref a_this_serverSide, .ref a_this_toServer, .ref a_this_toClient, .int v_connections])), (a_this_toClient, .inr (6, [.ref a_this_toClient_bytes, .int (nI v_toClient_size)]))]) (sz := sz) (mc := 1) (ms := 6) (QcF := NQ) (XcF := XQ EIX) (by decide) (Nat.le_of_ble_eq_true rfl) ?_
  intro p e s m below meth c A X hT hex
  obtain ⟨Q, hQ⟩ : ∃ Q, Q = vx_MQ below (NQ A) (XQ EIX A) [.ref a_this, .int x1, .int x2, .int x3].toArray s 1 6 A := ⟨_, rfl⟩
  rw [← hQ]
  refine j_lve (lv' := [(0, .ref a_this), (1, .int x1), (2, .int x2), (3, .int x3)]) rfl ?_
  refine j_aload_n X 0 dX11_alter_0 rfl (q := 1) rfl ?_
  refine j_iload_n X 1 dX11_alter_1 rfl (q := 2) rfl ?_
  refine j_callVr (As := [.int x1]) (rest := []) (wn := (fun u1 => [(a_this, .inr (11, [.ref a_this_clientSide, .ref a_this_serverSide, .ref a_this_toServer, .ref a_this_toClient, .int v_connections])), (a_this_toClient, .inr (6, [.ref a_this_toClient_bytes, .int (nI v_toClient_size)]))])) (wr := [(a_this_toClient, .inr (6, [.ref a_this_toClient_bytes, .int (nI v_toClient_size)]))]) X (fun sz => c_X11_line_1 l D ct ts a_this a_this_clientSide a_this_serverSide a_this_toServer a_this_toClient v_connections x1 (by first | omega | assumption) sz) cal_X11_line 0 rfl rfl mw_X11_alter_1_1 cwi_X11_line cws_X11_line rfl ⟨by decide, by decide⟩ rfl rfl (Nat.le_of_ble_eq_true rfl) ⟨by decide, by decide⟩ [0] [1] [1, 0] rfl (by decide) rfl (by decide) (by decide) (fun _ => rfl) (by decide) dX11_alter_2 (q := 5) rfl (fun u1 hu1 => ?_)
  refine j_astore (lv' := [(4, .ref a_this_toClient), (0, .ref a_this), (1, .int x1), (2, .int x2), (3, .int x3)]) X dX11_alter_5 (by decide) rfl (q := 7) rfl ?_
  refine j_iload_n X 3 dX11_alter_7 rfl (q := 8) rfl ?_
  refine j_if_lt (tgt := 20) X dX11_alter_8 (by decide) (q := 11) rfl (fun c3 => ?_) (fun c3 => ?_)
  · skip
    rw [hQ]
    exact j_throw hl X hT hex (by decide) mw_X11_alter_1_2 mw_X11_alter_1_3 tx_atI tx_noI hT.2.2.1 tx_otI dX11_alter_20 dX11_alter_23 dX11_alter_24 dX11_alter_27 (by decide) (by decide) (by decide) (by decide) (by decide) (by decide)
  · skip
    refine j_iload_n X 3 dX11_alter_11 rfl (q := 12) rfl ?_
    refine j_aload X 0 dX11_alter_12 rfl (q := 14) rfl ?_
    refine j_get (f := 1) X 1 inT6 rfl rfl (by decide) mw_X11_alter_1_0 rfl dX11_alter_14 (q := 17) rfl ?_
    refine j_icmp_lt (tgt := 28) X dX11_alter_17 (by decide) (q := 20) rfl (fun c4 => ?_) (fun c4 => ?_)
    · skip
      exact (lt0_no h_z (by assumption) c4).elim
    · skip
      rw [hQ]
      exact j_throw hl X hT hex (by decide) mw_X11_alter_1_2 mw_X11_alter_1_3 tx_atI tx_noI hT.2.2.1 tx_otI dX11_alter_20 dX11_alter_23 dX11_alter_24 dX11_alter_27 (by decide) (by decide) (by decide) (by decide) (by decide) (by decide)
theorem mw_X11_alter_b_0 : Cond.methodLink "GuardedTree" 120 yX11_line ∈ tb := tb_at 829 (by decide +kernel) (by decide +kernel)
set_option maxHeartbeats 4000000 in
set_option maxRecDepth 100000 in
theorem c_X11_alter_b (l : Launch) (D : va_G) (ct : Nat → ClassId) (ts : Nat → Nat) (hl : l.stackTraces = false) (a_this a_this_clientSide a_this_serverSide a_this_toServer a_this_toClient : Nat) (v_connections : Int32) (x1 : Int32) (x2 : Int32) (x3 : Int32) (h_b : x1 < 0 ∨ ¬ x1 ≤ nI 1) (sz : Nat) : vx_Met l yX11_alter (Cond.code yX11_alter cX11_alter 5 none :: tb) { frames := 7, cells := 1, slots := 6, locals := 102 } (PcX D ct SXL ts [.ref a_this, .int x1, .int x2, .int x3] [(a_this, .inr (11, [.ref a_this_clientSide, .ref a_this_serverSide, .ref a_this_toServer, .ref a_this_toClient, .int v_connections]))] sz) (NQ (va_A [(a_this, .inr (11, [.ref a_this_clientSide, .ref a_this_serverSide, .ref a_this_toServer, .ref a_this_toClient, .int v_connections]))] sz)) (XQ EIX (va_A [(a_this, .inr (11, [.ref a_this_clientSide, .ref a_this_serverSide, .ref a_this_toServer, .ref a_this_toClient, .int v_connections]))] sz)) 1 6 (va_A [(a_this, .inr (11, [.ref a_this_clientSide, .ref a_this_serverSide, .ref a_this_toServer, .ref a_this_toClient, .int v_connections]))] sz) := by
  refine metX (l := l) (y := yX11_alter) (cc := cX11_alter) (maxL := 5) (ret := none) (rm := { frames := 7, cells := 1, slots := 6, locals := 102 }) (D := D) (ct := ct) (L := SXL) (ts := ts) (av := [.ref a_this, .int x1, .int x2, .int x3]) (ws := [(a_this, .inr (11, [.ref a_this_clientSide, .ref a_this_serverSide, .ref a_this_toServer, .ref a_this_toClient, .int v_connections]))]) (sz := sz) (mc := 1) (ms := 6) (QcF := NQ) (XcF := XQ EIX) (by decide) (Nat.le_of_ble_eq_true rfl) ?_
  intro p e s m below meth c A X hT hex
  obtain ⟨Q, hQ⟩ : ∃ Q, Q = vx_MQ below (NQ A) (XQ EIX A) [.ref a_this, .int x1, .int x2, .int x3].toArray s 1 6 A := ⟨_, rfl⟩
  rw [← hQ]
  refine j_lve (lv' := [(0, .ref a_this), (1, .int x1), (2, .int x2), (3, .int x3)]) rfl ?_
  refine j_aload_n X 0 dX11_alter_0 rfl (q := 1) rfl ?_
  refine j_iload_n X 1 dX11_alter_1 rfl (q := 2) rfl ?_
  rw [hQ]
  exact j_callVx (As := [.int x1]) (rest := []) (wr := []) X hT (fun sz => c_X11_line_b l D ct ts hl a_this a_this_clientSide a_this_serverSide a_this_toServer a_this_toClient v_connections x1 (by first | omega | assumption) sz) cal_X11_line 0 rfl rfl mw_X11_alter_b_0 cwi_X11_line cws_X11_line rfl ⟨by decide, by decide⟩ rfl rfl (Nat.le_of_ble_eq_true rfl) ⟨by decide, by decide⟩ [0] [] rfl (by decide) rfl (by decide) (by decide) dX11_alter_2 (j_outx X hex (by decide) (by decide))
theorem mw_X11_ask_b_0 : Cond.classLink "GuardedTree" 65 EIA ∈ tb := tb_at 631 (by decide +kernel) (by decide +kernel)
theorem mw_X11_ask_b_1 : Cond.initialized EIA ∈ tb := tb_at 124 (by decide +kernel) (by decide +kernel)
set_option maxHeartbeats 4000000 in
set_option maxRecDepth 100000 in
theorem c_X11_ask_b (l : Launch) (D : va_G) (ct : Nat → ClassId) (ts : Nat → Nat) (hl : l.stackTraces = false) (a_this a_this_clientSide a_this_serverSide a_this_toServer a_this_toClient : Nat) (v_connections : Int32) (x1 : Int32) (x2 : Int32) (x3 : Int32) (x4 : Int32) (x5 : Int32) (h_b : x1 < 0 ∨ ¬ x1 ≤ nI 9) (sz : Nat) : vx_Met l yX11_ask (Cond.code yX11_ask cX11_ask 7 (some .int) :: tb) { frames := 6, cells := 1, slots := 6, locals := 81 } (PcX D ct SXL ts [.ref a_this, .int x1, .int x2, .int x3, .int x4, .int x5] [(a_this, .inr (11, [.ref a_this_clientSide, .ref a_this_serverSide, .ref a_this_toServer, .ref a_this_toClient, .int v_connections]))] sz) (NQ (va_A [(a_this, .inr (11, [.ref a_this_clientSide, .ref a_this_serverSide, .ref a_this_toServer, .ref a_this_toClient, .int v_connections]))] sz)) (XQ EIA (va_A [(a_this, .inr (11, [.ref a_this_clientSide, .ref a_this_serverSide, .ref a_this_toServer, .ref a_this_toClient, .int v_connections]))] sz)) 1 6 (va_A [(a_this, .inr (11, [.ref a_this_clientSide, .ref a_this_serverSide, .ref a_this_toServer, .ref a_this_toClient, .int v_connections]))] sz) := by
  refine metX (l := l) (y := yX11_ask) (cc := cX11_ask) (maxL := 7) (ret := (some .int)) (rm := { frames := 6, cells := 1, slots := 6, locals := 81 }) (D := D) (ct := ct) (L := SXL) (ts := ts) (av := [.ref a_this, .int x1, .int x2, .int x3, .int x4, .int x5]) (ws := [(a_this, .inr (11, [.ref a_this_clientSide, .ref a_this_serverSide, .ref a_this_toServer, .ref a_this_toClient, .int v_connections]))]) (sz := sz) (mc := 1) (ms := 6) (QcF := NQ) (XcF := XQ EIA) (by decide) (Nat.le_of_ble_eq_true rfl) ?_
  intro p e s m below meth c A X hT hex
  obtain ⟨Q, hQ⟩ : ∃ Q, Q = vx_MQ below (NQ A) (XQ EIA A) [.ref a_this, .int x1, .int x2, .int x3, .int x4, .int x5].toArray s 1 6 A := ⟨_, rfl⟩
  rw [← hQ]
  refine j_lve (lv' := [(0, .ref a_this), (1, .int x1), (2, .int x2), (3, .int x3), (4, .int x4), (5, .int x5)]) rfl ?_
  refine j_iload_n X 1 dX11_ask_0 rfl (q := 1) rfl ?_
  refine j_if_lt (tgt := 10) X dX11_ask_1 (by decide) (q := 4) rfl (fun c1 => ?_) (fun c1 => ?_)
  · skip
    rw [hQ]
    exact j_throw hl X hT hex (by decide) mw_X11_ask_b_0 mw_X11_ask_b_1 tx_atA tx_noA hT.2.2.2.1 tx_otA dX11_ask_10 dX11_ask_13 dX11_ask_14 dX11_ask_17 (by decide) (by decide) (by decide) (by decide) (by decide) (by decide)
  · skip
    refine j_iload_n X 1 dX11_ask_4 rfl (q := 5) rfl ?_
    refine j_bipush (v := nI 9) X dX11_ask_5 (by decide) (q := 7) rfl ?_
    refine j_icmp_le (tgt := 18) X dX11_ask_7 (by decide) (q := 10) rfl (fun c2 => ?_) (fun c2 => ?_)
    · skip
      exact h_b.elim (fun q => absurd q (by assumption)) (fun q => absurd c2 q)
    · skip
      rw [hQ]
      exact j_throw hl X hT hex (by decide) mw_X11_ask_b_0 mw_X11_ask_b_1 tx_atA tx_noA hT.2.2.2.1 tx_otA dX11_ask_10 dX11_ask_13 dX11_ask_14 dX11_ask_17 (by decide) (by decide) (by decide) (by decide) (by decide) (by decide)
theorem mw_X11_data_0 : Cond.fieldLink "GuardedTree" 10 "GuardedTree" "clientSide" "LGuardedTree$Client;" ∈ tb := tb_at 471 (by decide +kernel) (by decide +kernel)
theorem mw_X11_data_1 : Cond.methodLink "GuardedTree" 97 yX3_find ∈ tb := tb_at 607 (by decide +kernel) (by decide +kernel)
theorem mw_X11_data_2 : Cond.classLink "GuardedTree" 113 EIX ∈ tb := tb_at 800 (by decide +kernel) (by decide +kernel)
theorem mw_X11_data_3 : Cond.initialized EIX ∈ tb := tb_at 126 (by decide +kernel) (by decide +kernel)
theorem dX11_data_0 : decode cX11_data 0 = .ok (.aload_n 0, 1) := by decide +kernel
theorem dX11_data_1 : decode cX11_data 1 = .ok (.getfield 10, 3) := by decide +kernel
theorem dX11_data_4 : decode cX11_data 4 = .ok (.iload_n 1, 1) := by decide +kernel
theorem dX11_data_5 : decode cX11_data 5 = .ok (.invokevirtual 97, 3) := by decide +kernel
theorem dX11_data_8 : decode cX11_data 8 = .ok (.astore_n 3, 1) := by decide +kernel
theorem dX11_data_9 : decode cX11_data 9 = .ok (.aload_n 3, 1) := by decide +kernel
theorem dX11_data_10 : decode cX11_data 10 = .ok (.ifnull 23, 3) := by decide +kernel
theorem dX11_data_13 : decode cX11_data 13 = .ok (.aload_n 3, 1) := by decide +kernel
theorem dX11_data_14 : decode cX11_data 14 = .ok (.getfield 109, 3) := by decide +kernel
theorem dX11_data_17 : decode cX11_data 17 = .ok (.ifnull 16, 3) := by decide +kernel
theorem dX11_data_20 : decode cX11_data 20 = .ok (.iload_n 2, 1) := by decide +kernel
theorem dX11_data_21 : decode cX11_data 21 = .ok (.ifCond .lt 12, 3) := by decide +kernel
theorem dX11_data_24 : decode cX11_data 24 = .ok (.iload_n 2, 1) := by decide +kernel
theorem dX11_data_25 : decode cX11_data 25 = .ok (.aload_n 3, 1) := by decide +kernel
theorem dX11_data_26 : decode cX11_data 26 = .ok (.getfield 109, 3) := by decide +kernel
theorem dX11_data_29 : decode cX11_data 29 = .ok (.arraylength, 1) := by decide +kernel
theorem dX11_data_30 : decode cX11_data 30 = .ok (.if_icmp .lt 11, 3) := by decide +kernel
theorem dX11_data_33 : decode cX11_data 33 = .ok (.new 113, 3) := by decide +kernel
theorem dX11_data_36 : decode cX11_data 36 = .ok (.dup, 1) := by decide +kernel
theorem dX11_data_37 : decode cX11_data 37 = .ok (.invokespecial 115, 3) := by decide +kernel
theorem dX11_data_40 : decode cX11_data 40 = .ok (.athrow, 1) := by decide +kernel
theorem dX11_data_41 : decode cX11_data 41 = .ok (.aload_n 3, 1) := by decide +kernel
theorem dX11_data_42 : decode cX11_data 42 = .ok (.getfield 109, 3) := by decide +kernel
theorem dX11_data_45 : decode cX11_data 45 = .ok (.iload_n 2, 1) := by decide +kernel
theorem dX11_data_46 : decode cX11_data 46 = .ok (.baload, 1) := by decide +kernel
theorem dX11_data_47 : decode cX11_data 47 = .ok (.sipush 255, 3) := by decide +kernel
theorem dX11_data_50 : decode cX11_data 50 = .ok (.iand, 1) := by decide +kernel
theorem dX11_data_51 : decode cX11_data 51 = .ok (.ireturn, 1) := by decide +kernel
set_option maxHeartbeats 4000000 in
set_option maxRecDepth 100000 in
theorem c_X11_data (l : Launch) (D : va_G) (ct : Nat → ClassId) (ts : Nat → Nat) (hl : l.stackTraces = false) (a_this a_this_clientSide a_this_serverSide a_this_toServer a_this_toClient a_this_clientSide_agreement a_this_clientSide_in a_this_clientSide_out a_this_clientSide_requests a_this_clientSide_words : Nat) (v_connections : Int32) (v_clientSide_state : Int32) (v_clientSide_asked : Nat) (v_clientSide_wordCount : Nat) (v_clientSide_ungranted : Int32) (x1 : Int32) (x2 : Int32) (h_a : v_clientSide_asked = 0) (sz : Nat) : vx_Met l yX11_data (Cond.code yX11_data cX11_data 4 (some .int) :: tb) { frames := 6, cells := 1, slots := 6, locals := 81 } (PcX D ct SXL ts [.ref a_this, .int x1, .int x2] [(a_this, .inr (11, [.ref a_this_clientSide, .ref a_this_serverSide, .ref a_this_toServer, .ref a_this_toClient, .int v_connections])), (a_this_clientSide, .inr (3, [.ref a_this_clientSide_agreement, .ref a_this_clientSide_in, .ref a_this_clientSide_out, .ref a_this_clientSide_requests, .ref a_this_clientSide_words, .int v_clientSide_state, .int (nI v_clientSide_asked), .int (nI v_clientSide_wordCount), .int v_clientSide_ungranted]))] sz) (NQ (va_A [(a_this, .inr (11, [.ref a_this_clientSide, .ref a_this_serverSide, .ref a_this_toServer, .ref a_this_toClient, .int v_connections])), (a_this_clientSide, .inr (3, [.ref a_this_clientSide_agreement, .ref a_this_clientSide_in, .ref a_this_clientSide_out, .ref a_this_clientSide_requests, .ref a_this_clientSide_words, .int v_clientSide_state, .int (nI v_clientSide_asked), .int (nI v_clientSide_wordCount), .int v_clientSide_ungranted]))] sz)) (XQ EIX (va_A [(a_this, .inr (11, [.ref a_this_clientSide, .ref a_this_serverSide, .ref a_this_toServer, .ref a_this_toClient, .int v_connections])), (a_this_clientSide, .inr (3, [.ref a_this_clientSide_agreement, .ref a_this_clientSide_in, .ref a_this_clientSide_out, .ref a_this_clientSide_requests, .ref a_this_clientSide_words, .int v_clientSide_state, .int (nI v_clientSide_asked), .int (nI v_clientSide_wordCount), .int v_clientSide_ungranted]))] sz)) 1 6 (va_A [(a_this, .inr (11, [.ref a_this_clientSide, .ref a_this_serverSide, .ref a_this_toServer, .ref a_this_toClient, .int v_connections])), (a_this_clientSide, .inr (3, [.ref a_this_clientSide_agreement, .ref a_this_clientSide_in, .ref a_this_clientSide_out, .ref a_this_clientSide_requests, .ref a_this_clientSide_words, .int v_clientSide_state, .int (nI v_clientSide_asked), .int (nI v_clientSide_wordCount), .int v_clientSide_ungranted]))] sz) := by
  refine metX (l := l) (y := yX11_data) (cc := cX11_data) (maxL := 4) (ret := (some .int)) (rm := { frames := 6, cells := 1, slots := 6, locals := 81 }) (D := D) (ct := ct) (L := SXL) (ts := ts) (av := [.ref a_this, .int x1, .int x2]) (ws := [(a_this, .inr (11, [.ref a_this_clientSide, .ref a_this_serverSide, .ref a_this_toServer, .ref a_this_toClient, .int v_connections])), (a_this_clientSide, .inr (3, [.ref a_this_clientSide_agreement, .ref a_this_clientSide_in, .ref a_this_clientSide_out, .ref a_this_clientSide_requests, .ref a_this_clientSide_words, .int v_clientSide_state, .int (nI v_clientSide_asked), .int (nI v_clientSide_wordCount), .int v_clientSide_ungranted]))]) (sz := sz) (mc := 1) (ms := 6) (QcF := NQ) (XcF := XQ EIX) (by decide) (Nat.le_of_ble_eq_true rfl) ?_
  intro p e s m below meth c A X hT hex
  obtain ⟨Q, hQ⟩ : ∃ Q, Q = vx_MQ below (NQ A) (XQ EIX A) [.ref a_this, .int x1, .int x2].toArray s 1 6 A := ⟨_, rfl⟩
  rw [← hQ]
  refine j_lve (lv' := [(0, .ref a_this), (1, .int x1), (2, .int x2)]) rfl ?_
  refine j_aload_n X 0 dX11_data_0 rfl (q := 1) rfl ?_
  refine j_get (f := 0) X 0 inT11 rfl rfl (by decide) mw_X11_data_0 rfl dX11_data_1 (q := 4) rfl ?_
  refine j_iload_n X 1 dX11_data_4 rfl (q := 5) rfl ?_
  refine j_callVn (As := [.int x1]) (rest := []) (wn := (fun u1 => [(a_this, .inr (11, [.ref a_this_clientSide, .ref a_this_serverSide, .ref a_this_toServer, .ref a_this_toClient, .int v_connections])), (a_this_clientSide, .inr (3, [.ref a_this_clientSide_agreement, .ref a_this_clientSide_in, .ref a_this_clientSide_out, .ref a_this_clientSide_requests, .ref a_this_clientSide_words, .int v_clientSide_state, .int (nI v_clientSide_asked), .int (nI v_clientSide_wordCount), .int v_clientSide_ungranted]))])) (wr := [(a_this, .inr (11, [.ref a_this_clientSide, .ref a_this_serverSide, .ref a_this_toServer, .ref a_this_toClient, .int v_connections]))]) X (fun sz => c_X3_find l D ct ts a_this_clientSide a_this_clientSide_agreement a_this_clientSide_in a_this_clientSide_out a_this_clientSide_requests a_this_clientSide_words v_clientSide_state v_clientSide_asked v_clientSide_wordCount v_clientSide_ungranted x1 (by first | omega | assumption) sz) cal_X3_find 1 rfl rfl mw_X11_data_1 cwi_X3_find cws_X3_find rfl ⟨by decide, by decide⟩ rfl rfl (Nat.le_of_ble_eq_true rfl) ⟨by decide, by decide⟩ [1] [0] [0, 1] rfl (by decide) rfl (by decide) (by decide) (fun _ => rfl) (by decide) dX11_data_5 (q := 8) rfl (fun u1 hu1 => ?_)
  refine j_astoreN_n (lv' := [(3, .null), (0, .ref a_this), (1, .int x1), (2, .int x2)]) X dX11_data_8 (by decide) rfl (q := 9) rfl ?_
  refine j_aloadN_n X 0 dX11_data_9 rfl (q := 10) rfl ?_
  refine j_ifnullN (x := 0) (tgt := 33) X dX11_data_10 (by decide) ?_
  rw [hQ]
  exact j_throw hl X hT hex (by decide) mw_X11_data_2 mw_X11_data_3 tx_atI tx_noI hT.2.2.1 tx_otI dX11_data_33 dX11_data_36 dX11_data_37 dX11_data_40 (by decide) (by decide) (by decide) (by decide) (by decide) (by decide)
theorem cal_X11_data : Cal yX11_data cX11_data 4 (some .int) 2 := ⟨tb_at 109 (by decide +kernel) (by decide +kernel), tb_at 799 (by decide +kernel) (by decide +kernel), by decide +kernel, by decide +kernel, by decide +kernel⟩
theorem cwi_X11_data : Cond.instanceMethod yX11_data ∈ tb := tb_at 797 (by decide +kernel) (by decide +kernel)
theorem cws_X11_data : Cond.selects yX11_data.cls yX11_data yX11_data ∈ tb := tb_at 798 (by decide +kernel) (by decide +kernel)
