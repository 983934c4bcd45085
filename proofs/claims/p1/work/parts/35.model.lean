theorem mw_X12_thrown_0 : Cond.fieldLink "GuardedTreeModel" 293 "GuardedTreeModel" "thrown" "I" ∈ tb := tb_at 1237 (by decide +kernel) (by decide +kernel)
theorem dX12_thrown_0 : decode cX12_thrown 0 = .ok (.aload_n 0, 1) := by decide +kernel
theorem dX12_thrown_1 : decode cX12_thrown 1 = .ok (.getfield 293, 3) := by decide +kernel
theorem dX12_thrown_4 : decode cX12_thrown 4 = .ok (.ireturn, 1) := by decide +kernel
noncomputable def f_X12_thrown (v_thrown : Int32) : Int32 :=
  v_thrown
set_option maxHeartbeats 4000000 in
set_option maxRecDepth 100000 in
theorem c_X12_thrown (l : Launch) (D : va_G) (ct : Nat → ClassId) (ts : Nat → Nat) (a_this : Nat) (ad : Nat → Nat) (v_thrown : Int32) (v_connections : Int32) (v_size : Nat) (v_ids : Nat) (v_dataAll : Nat) (v_putCount : Nat) (v_waiting : Nat) (v_readSize : Nat) (v_power : Int32) (v_left : Int32) (v_since : Int32) (v_changes : Int32) (v_rowSize : Nat)    (sz : Nat) : Met l yX12_thrown (Cond.code yX12_thrown cX12_thrown 1 (some .int) :: tb) { frames := 0, cells := 0, slots := 0, locals := 0 } (PcG D ct SXL ts [.ref a_this] [(a_this, .inr (12, mfs ad v_thrown v_connections (nI v_size) (nI v_ids) (nI v_dataAll) (nI v_putCount) (nI v_waiting) (nI v_readSize) v_power v_left v_since v_changes (nI v_rowSize)))] sz) (va_Qi (fun (r : Int32) (u : Unit) => r = f_X12_thrown v_thrown) (fun u => BG D ct (va_A [(a_this, .inr (12, mfs ad v_thrown v_connections (nI v_size) (nI v_ids) (nI v_dataAll) (nI v_putCount) (nI v_waiting) (nI v_readSize) v_power v_left v_since v_changes (nI v_rowSize)))] sz) [(a_this, .inr (12, mfs ad v_thrown v_connections (nI v_size) (nI v_ids) (nI v_dataAll) (nI v_putCount) (nI v_waiting) (nI v_readSize) v_power v_left v_since v_changes (nI v_rowSize)))]) (va_A [(a_this, .inr (12, mfs ad v_thrown v_connections (nI v_size) (nI v_ids) (nI v_dataAll) (nI v_putCount) (nI v_waiting) (nI v_readSize) v_power v_left v_since v_changes (nI v_rowSize)))] sz)) 0 0 (va_A [(a_this, .inr (12, mfs ad v_thrown v_connections (nI v_size) (nI v_ids) (nI v_dataAll) (nI v_putCount) (nI v_waiting) (nI v_readSize) v_power v_left v_since v_changes (nI v_rowSize)))] sz) := by
  refine metJ (QcF := fun A => va_Qi (fun (r : Int32) (u : Unit) => r = f_X12_thrown v_thrown) (fun u => BG D ct A [(a_this, .inr (12, mfs ad v_thrown v_connections (nI v_size) (nI v_ids) (nI v_dataAll) (nI v_putCount) (nI v_waiting) (nI v_readSize) v_power v_left v_since v_changes (nI v_rowSize)))]) A) (by decide) (Nat.le_of_ble_eq_true rfl) ?_
  intro p e s m below meth c A X hnm
  obtain ⟨Q, hQ⟩ : ∃ Q, Q = MQ below (va_Qi (fun (r : Int32) (u : Unit) => r = f_X12_thrown v_thrown) (fun u => BG D ct A [(a_this, .inr (12, mfs ad v_thrown v_connections (nI v_size) (nI v_ids) (nI v_dataAll) (nI v_putCount) (nI v_waiting) (nI v_readSize) v_power v_left v_since v_changes (nI v_rowSize)))]) A) [.ref a_this].toArray s 0 0 A := ⟨_, rfl⟩
  rw [← hQ]
  refine j_lve (lv' := [(0, .ref a_this)]) rfl ?_
  refine j_aload_n X 0 dX12_thrown_0 rfl (q := 1) rfl ?_
  refine j_get (f := 0) X 0 inT12 rfl rfl (by decide) mw_X12_thrown_0 rfl dX12_thrown_1 (q := 4) rfl ?_
  rw [hQ]
  exact j_iret X (()) dX12_thrown_4 rfl rfl
theorem cal_X12_thrown : Cal yX12_thrown cX12_thrown 1 (some .int) 0 := ⟨tb_at 120 (by decide +kernel) (by decide +kernel), tb_at 1473 (by decide +kernel) (by decide +kernel), by decide +kernel, by decide +kernel, by decide +kernel⟩
theorem cwi_X12_thrown : Cond.instanceMethod yX12_thrown ∈ tb := tb_at 1471 (by decide +kernel) (by decide +kernel)
theorem cws_X12_thrown : Cond.selects yX12_thrown.cls yX12_thrown yX12_thrown ∈ tb := tb_at 1472 (by decide +kernel) (by decide +kernel)
theorem mw_X12_client_0 : Cond.fieldLink "GuardedTreeModel" 293 "GuardedTreeModel" "thrown" "I" ∈ tb := tb_at 1237 (by decide +kernel) (by decide +kernel)
theorem mw_X12_client_1 : Cond.fieldLink "GuardedTreeModel" 7 "GuardedTreeModel" "state" "[I" ∈ tb := tb_at 1239 (by decide +kernel) (by decide +kernel)
theorem dX12_client_0 : decode cX12_client 0 = .ok (.aload_n 0, 1) := by decide +kernel
theorem dX12_client_1 : decode cX12_client 1 = .ok (.iconst 0, 1) := by decide +kernel
theorem dX12_client_2 : decode cX12_client 2 = .ok (.putfield 293, 3) := by decide +kernel
theorem dX12_client_5 : decode cX12_client 5 = .ok (.aload_n 0, 1) := by decide +kernel
theorem dX12_client_6 : decode cX12_client 6 = .ok (.getfield 7, 3) := by decide +kernel
theorem dX12_client_9 : decode cX12_client 9 = .ok (.iconst 0, 1) := by decide +kernel
theorem dX12_client_10 : decode cX12_client 10 = .ok (.iaload, 1) := by decide +kernel
theorem dX12_client_11 : decode cX12_client 11 = .ok (.ireturn, 1) := by decide +kernel
noncomputable def f_X12_client (f_state : Nat → Int32) : Int32 × (Int32) :=
  (f_state 0, nI 0)
set_option maxHeartbeats 4000000 in
set_option maxRecDepth 100000 in
theorem c_X12_client (l : Launch) (D : va_G) (ct : Nat → ClassId) (ts : Nat → Nat) (a_this : Nat) (ad : Nat → Nat) (v_thrown : Int32) (v_connections : Int32) (v_size : Nat) (v_ids : Nat) (v_dataAll : Nat) (v_putCount : Nat) (v_waiting : Nat) (v_readSize : Nat) (v_power : Int32) (v_left : Int32) (v_since : Int32) (v_changes : Int32) (v_rowSize : Nat) (f_state : Nat → Int32)    (sz : Nat) : Met l yX12_client (Cond.code yX12_client cX12_client 1 (some .int) :: tb) { frames := 0, cells := 0, slots := 0, locals := 0 } (PcG D ct SXL ts [.ref a_this] [(a_this, .inr (12, mfs ad v_thrown v_connections (nI v_size) (nI v_ids) (nI v_dataAll) (nI v_putCount) (nI v_waiting) (nI v_readSize) v_power v_left v_since v_changes (nI v_rowSize))), (ad 2, .inl (ct 0, 2, .inl f_state))] sz) (va_Qi (fun (r : Int32) (u : (Int32)) => (r, u) = f_X12_client f_state) (fun u => BG D ct (va_A [(a_this, .inr (12, mfs ad v_thrown v_connections (nI v_size) (nI v_ids) (nI v_dataAll) (nI v_putCount) (nI v_waiting) (nI v_readSize) v_power v_left v_since v_changes (nI v_rowSize))), (ad 2, .inl (ct 0, 2, .inl f_state))] sz) [(a_this, .inr (12, mfs ad u v_connections (nI v_size) (nI v_ids) (nI v_dataAll) (nI v_putCount) (nI v_waiting) (nI v_readSize) v_power v_left v_since v_changes (nI v_rowSize))), (ad 2, .inl (ct 0, 2, .inl f_state))]) (va_A [(a_this, .inr (12, mfs ad v_thrown v_connections (nI v_size) (nI v_ids) (nI v_dataAll) (nI v_putCount) (nI v_waiting) (nI v_readSize) v_power v_left v_since v_changes (nI v_rowSize))), (ad 2, .inl (ct 0, 2, .inl f_state))] sz)) 0 0 (va_A [(a_this, .inr (12, mfs ad v_thrown v_connections (nI v_size) (nI v_ids) (nI v_dataAll) (nI v_putCount) (nI v_waiting) (nI v_readSize) v_power v_left v_since v_changes (nI v_rowSize))), (ad 2, .inl (ct 0, 2, .inl f_state))] sz) := by
  refine metJ (QcF := fun A => va_Qi (fun (r : Int32) (u : (Int32)) => (r, u) = f_X12_client f_state) (fun u => BG D ct A [(a_this, .inr (12, mfs ad u v_connections (nI v_size) (nI v_ids) (nI v_dataAll) (nI v_putCount) (nI v_waiting) (nI v_readSize) v_power v_left v_since v_changes (nI v_rowSize))), (ad 2, .inl (ct 0, 2, .inl f_state))]) A) (by decide) (Nat.le_of_ble_eq_true rfl) ?_
  intro p e s m below meth c A X hnm
  obtain ⟨Q, hQ⟩ : ∃ Q, Q = MQ below (va_Qi (fun (r : Int32) (u : (Int32)) => (r, u) = f_X12_client f_state) (fun u => BG D ct A [(a_this, .inr (12, mfs ad u v_connections (nI v_size) (nI v_ids) (nI v_dataAll) (nI v_putCount) (nI v_waiting) (nI v_readSize) v_power v_left v_since v_changes (nI v_rowSize))), (ad 2, .inl (ct 0, 2, .inl f_state))]) A) [.ref a_this].toArray s 0 0 A := ⟨_, rfl⟩
  rw [← hQ]
  refine j_lve (lv' := [(0, .ref a_this)]) rfl ?_
  refine j_aload_n X 0 dX12_client_0 rfl (q := 1) rfl ?_
  refine j_iconst (v := nI 0) X dX12_client_1 (by decide) (q := 2) rfl ?_
  refine j_put (f := 0) (ws2 := [(a_this, .inr (12, mfs ad (nI 0) v_connections (nI v_size) (nI v_ids) (nI v_dataAll) (nI v_putCount) (nI v_waiting) (nI v_readSize) v_power v_left v_since v_changes (nI v_rowSize))), (ad 2, .inl (ct 0, 2, .inl f_state))]) (ty := .int) X 0 inT12 tyX12_ok nmX12 rfl rfl (by decide) mw_X12_client_0 rfl rfl rfl rfl (Nat.le_of_ble_eq_true rfl) dX12_client_2 rfl (q := 5) rfl ?_
  refine j_aload_n X 0 dX12_client_5 rfl (q := 6) rfl ?_
  refine j_get (f := 2) X 0 inT12 rfl rfl (by decide) mw_X12_client_1 rfl dX12_client_6 (q := 9) rfl ?_
  refine j_iconst (v := nI 0) X dX12_client_9 (by decide) (q := 10) rfl ?_
  refine k_iald X 1 rfl (vp_in_nI (by omega) (by omega)) (nI_clamp (by omega)) dX12_client_10 (q := 11) rfl ?_
  rw [hQ]
  exact j_iret X (nI 0) dX12_client_11 rfl rfl
theorem cal_X12_client : Cal yX12_client cX12_client 1 (some .int) 0 := ⟨tb_at 120 (by decide +kernel) (by decide +kernel), tb_at 1539 (by decide +kernel) (by decide +kernel), by decide +kernel, by decide +kernel, by decide +kernel⟩
theorem cwi_X12_client : Cond.instanceMethod yX12_client ∈ tb := tb_at 1537 (by decide +kernel) (by decide +kernel)
theorem cws_X12_client : Cond.selects yX12_client.cls yX12_client yX12_client ∈ tb := tb_at 1538 (by decide +kernel) (by decide +kernel)
theorem mw_X12_server_0 : Cond.fieldLink "GuardedTreeModel" 293 "GuardedTreeModel" "thrown" "I" ∈ tb := tb_at 1237 (by decide +kernel) (by decide +kernel)
theorem mw_X12_server_1 : Cond.fieldLink "GuardedTreeModel" 107 "GuardedTreeModel" "power" "Z" ∈ tb := tb_at 1276 (by decide +kernel) (by decide +kernel)
theorem mw_X12_server_2 : Cond.fieldLink "GuardedTreeModel" 7 "GuardedTreeModel" "state" "[I" ∈ tb := tb_at 1239 (by decide +kernel) (by decide +kernel)
theorem dX12_server_0 : decode cX12_server 0 = .ok (.aload_n 0, 1) := by decide +kernel
theorem dX12_server_1 : decode cX12_server 1 = .ok (.iconst 0, 1) := by decide +kernel
theorem dX12_server_2 : decode cX12_server 2 = .ok (.putfield 293, 3) := by decide +kernel
theorem dX12_server_5 : decode cX12_server 5 = .ok (.aload_n 0, 1) := by decide +kernel
theorem dX12_server_6 : decode cX12_server 6 = .ok (.getfield 107, 3) := by decide +kernel
theorem dX12_server_9 : decode cX12_server 9 = .ok (.ifCond .eq 12, 3) := by decide +kernel
theorem dX12_server_12 : decode cX12_server 12 = .ok (.aload_n 0, 1) := by decide +kernel
theorem dX12_server_13 : decode cX12_server 13 = .ok (.getfield 7, 3) := by decide +kernel
theorem dX12_server_16 : decode cX12_server 16 = .ok (.iconst 1, 1) := by decide +kernel
theorem dX12_server_17 : decode cX12_server 17 = .ok (.iaload, 1) := by decide +kernel
theorem dX12_server_18 : decode cX12_server 18 = .ok (.goto 5, 3) := by decide +kernel
theorem dX12_server_21 : decode cX12_server 21 = .ok (.bipush (-30), 2) := by decide +kernel
theorem dX12_server_23 : decode cX12_server 23 = .ok (.ireturn, 1) := by decide +kernel
noncomputable def f_X12_server (v_power : Int32) (f_state : Nat → Int32) : Int32 × (Int32) :=
  if v_power = 0 then
  (((-30), nI 0))
  else
  ((f_state 1, nI 0))
set_option maxHeartbeats 4000000 in
set_option maxRecDepth 100000 in
theorem c_X12_server (l : Launch) (D : va_G) (ct : Nat → ClassId) (ts : Nat → Nat) (a_this : Nat) (ad : Nat → Nat) (v_thrown : Int32) (v_connections : Int32) (v_size : Nat) (v_ids : Nat) (v_dataAll : Nat) (v_putCount : Nat) (v_waiting : Nat) (v_readSize : Nat) (v_power : Int32) (v_left : Int32) (v_since : Int32) (v_changes : Int32) (v_rowSize : Nat) (f_state : Nat → Int32)    (sz : Nat) : Met l yX12_server (Cond.code yX12_server cX12_server 1 (some .int) :: tb) { frames := 0, cells := 0, slots := 0, locals := 0 } (PcG D ct SXL ts [.ref a_this] [(a_this, .inr (12, mfs ad v_thrown v_connections (nI v_size) (nI v_ids) (nI v_dataAll) (nI v_putCount) (nI v_waiting) (nI v_readSize) v_power v_left v_since v_changes (nI v_rowSize))), (ad 2, .inl (ct 0, 2, .inl f_state))] sz) (va_Qi (fun (r : Int32) (u : (Int32)) => (r, u) = f_X12_server v_power f_state) (fun u => BG D ct (va_A [(a_this, .inr (12, mfs ad v_thrown v_connections (nI v_size) (nI v_ids) (nI v_dataAll) (nI v_putCount) (nI v_waiting) (nI v_readSize) v_power v_left v_since v_changes (nI v_rowSize))), (ad 2, .inl (ct 0, 2, .inl f_state))] sz) [(a_this, .inr (12, mfs ad u v_connections (nI v_size) (nI v_ids) (nI v_dataAll) (nI v_putCount) (nI v_waiting) (nI v_readSize) v_power v_left v_since v_changes (nI v_rowSize))), (ad 2, .inl (ct 0, 2, .inl f_state))]) (va_A [(a_this, .inr (12, mfs ad v_thrown v_connections (nI v_size) (nI v_ids) (nI v_dataAll) (nI v_putCount) (nI v_waiting) (nI v_readSize) v_power v_left v_since v_changes (nI v_rowSize))), (ad 2, .inl (ct 0, 2, .inl f_state))] sz)) 0 0 (va_A [(a_this, .inr (12, mfs ad v_thrown v_connections (nI v_size) (nI v_ids) (nI v_dataAll) (nI v_putCount) (nI v_waiting) (nI v_readSize) v_power v_left v_since v_changes (nI v_rowSize))), (ad 2, .inl (ct 0, 2, .inl f_state))] sz) := by
  refine metJ (QcF := fun A => va_Qi (fun (r : Int32) (u : (Int32)) => (r, u) = f_X12_server v_power f_state) (fun u => BG D ct A [(a_this, .inr (12, mfs ad u v_connections (nI v_size) (nI v_ids) (nI v_dataAll) (nI v_putCount) (nI v_waiting) (nI v_readSize) v_power v_left v_since v_changes (nI v_rowSize))), (ad 2, .inl (ct 0, 2, .inl f_state))]) A) (by decide) (Nat.le_of_ble_eq_true rfl) ?_
  intro p e s m below meth c A X hnm
  obtain ⟨Q, hQ⟩ : ∃ Q, Q = MQ below (va_Qi (fun (r : Int32) (u : (Int32)) => (r, u) = f_X12_server v_power f_state) (fun u => BG D ct A [(a_this, .inr (12, mfs ad u v_connections (nI v_size) (nI v_ids) (nI v_dataAll) (nI v_putCount) (nI v_waiting) (nI v_readSize) v_power v_left v_since v_changes (nI v_rowSize))), (ad 2, .inl (ct 0, 2, .inl f_state))]) A) [.ref a_this].toArray s 0 0 A := ⟨_, rfl⟩
  rw [← hQ]
  refine j_lve (lv' := [(0, .ref a_this)]) rfl ?_
  refine j_aload_n X 0 dX12_server_0 rfl (q := 1) rfl ?_
  refine j_iconst (v := nI 0) X dX12_server_1 (by decide) (q := 2) rfl ?_
  refine j_put (f := 0) (ws2 := [(a_this, .inr (12, mfs ad (nI 0) v_connections (nI v_size) (nI v_ids) (nI v_dataAll) (nI v_putCount) (nI v_waiting) (nI v_readSize) v_power v_left v_since v_changes (nI v_rowSize))), (ad 2, .inl (ct 0, 2, .inl f_state))]) (ty := .int) X 0 inT12 tyX12_ok nmX12 rfl rfl (by decide) mw_X12_server_0 rfl rfl rfl rfl (Nat.le_of_ble_eq_true rfl) dX12_server_2 rfl (q := 5) rfl ?_
  refine j_aload_n X 0 dX12_server_5 rfl (q := 6) rfl ?_
  refine j_get (f := 39) X 0 inT12 rfl rfl (by decide) mw_X12_server_1 rfl dX12_server_6 (q := 9) rfl ?_
  refine j_if_eq (tgt := 21) X dX12_server_9 (by decide) (q := 12) rfl (fun c1 => ?_) (fun c1 => ?_)
  · skip
    refine j_bipush (v := -30) X dX12_server_21 (by decide) (q := 23) rfl ?_
    rw [hQ]
    exact j_iret X (nI 0) dX12_server_23 (by first | rfl | (simp only [f_X12_server, if_pos c1]; done) | (simp only [f_X12_server, if_pos c1]; rfl)) rfl
  · skip
    refine j_aload_n X 0 dX12_server_12 rfl (q := 13) rfl ?_
    refine j_get (f := 2) X 0 inT12 rfl rfl (by decide) mw_X12_server_2 rfl dX12_server_13 (q := 16) rfl ?_
    refine j_iconst (v := nI 1) X dX12_server_16 (by decide) (q := 17) rfl ?_
    refine k_iald X 1 rfl (vp_in_nI (by omega) (by omega)) (nI_clamp (by omega)) dX12_server_17 (q := 18) rfl ?_
    refine j_goto (tgt := 23) X dX12_server_18 (by decide) ?_
    rw [hQ]
    exact j_iret X (nI 0) dX12_server_23 (by first | rfl | (simp only [f_X12_server, if_neg c1]; done) | (simp only [f_X12_server, if_neg c1]; rfl)) rfl
theorem cal_X12_server : Cal yX12_server cX12_server 1 (some .int) 0 := ⟨tb_at 120 (by decide +kernel) (by decide +kernel), tb_at 1543 (by decide +kernel) (by decide +kernel), by decide +kernel, by decide +kernel, by decide +kernel⟩
theorem cwi_X12_server : Cond.instanceMethod yX12_server ∈ tb := tb_at 1541 (by decide +kernel) (by decide +kernel)
theorem cws_X12_server : Cond.selects yX12_server.cls yX12_server yX12_server ∈ tb := tb_at 1542 (by decide +kernel) (by decide +kernel)
theorem mw_X12_put_0 : Cond.fieldLink "GuardedTreeModel" 293 "GuardedTreeModel" "thrown" "I" ∈ tb := tb_at 1237 (by decide +kernel) (by decide +kernel)
theorem mw_X12_put_1 : Cond.fieldLink "GuardedTreeModel" 499 "GuardedTreeModel" "putCount" "I" ∈ tb := tb_at 1260 (by decide +kernel) (by decide +kernel)
theorem mw_X12_put_2 : Cond.fieldLink "GuardedTreeModel" 67 "GuardedTreeModel" "putWords" "[I" ∈ tb := tb_at 1261 (by decide +kernel) (by decide +kernel)
theorem dX12_put_0 : decode cX12_put 0 = .ok (.aload_n 0, 1) := by decide +kernel
theorem dX12_put_1 : decode cX12_put 1 = .ok (.iconst 0, 1) := by decide +kernel
theorem dX12_put_2 : decode cX12_put 2 = .ok (.putfield 293, 3) := by decide +kernel
theorem dX12_put_5 : decode cX12_put 5 = .ok (.aload_n 0, 1) := by decide +kernel
theorem dX12_put_6 : decode cX12_put 6 = .ok (.getfield 499, 3) := by decide +kernel
theorem dX12_put_9 : decode cX12_put 9 = .ok (.bipush 16, 2) := by decide +kernel
theorem dX12_put_11 : decode cX12_put 11 = .ok (.if_icmp .ne 5, 3) := by decide +kernel
theorem dX12_put_14 : decode cX12_put 14 = .ok (.iconst (-1), 1) := by decide +kernel
theorem dX12_put_15 : decode cX12_put 15 = .ok (.ireturn, 1) := by decide +kernel
theorem dX12_put_16 : decode cX12_put 16 = .ok (.aload_n 0, 1) := by decide +kernel
theorem dX12_put_17 : decode cX12_put 17 = .ok (.getfield 67, 3) := by decide +kernel
theorem dX12_put_20 : decode cX12_put 20 = .ok (.aload_n 0, 1) := by decide +kernel
theorem dX12_put_21 : decode cX12_put 21 = .ok (.getfield 499, 3) := by decide +kernel
theorem dX12_put_24 : decode cX12_put 24 = .ok (.iload_n 1, 1) := by decide +kernel
theorem dX12_put_25 : decode cX12_put 25 = .ok (.iastore, 1) := by decide +kernel
theorem dX12_put_26 : decode cX12_put 26 = .ok (.aload_n 0, 1) := by decide +kernel
theorem dX12_put_27 : decode cX12_put 27 = .ok (.dup, 1) := by decide +kernel
theorem dX12_put_28 : decode cX12_put 28 = .ok (.getfield 499, 3) := by decide +kernel
theorem dX12_put_31 : decode cX12_put 31 = .ok (.iconst 1, 1) := by decide +kernel
theorem dX12_put_32 : decode cX12_put 32 = .ok (.iadd, 1) := by decide +kernel
theorem dX12_put_33 : decode cX12_put 33 = .ok (.putfield 499, 3) := by decide +kernel
theorem dX12_put_36 : decode cX12_put 36 = .ok (.aload_n 0, 1) := by decide +kernel
theorem dX12_put_37 : decode cX12_put 37 = .ok (.getfield 499, 3) := by decide +kernel
theorem dX12_put_40 : decode cX12_put 40 = .ok (.ireturn, 1) := by decide +kernel
noncomputable def f_X12_put (v_putCount : Nat) (f_putWords : Nat → Int32) (x1 : Int32) : Int32 × (Nat) × (Int32) × (Nat → Int32) :=
  if v_putCount = 16 then
  (((-1), v_putCount, nI 0, f_putWords))
  else
  (let n2 := v_putCount + 1
  (nI n2, n2, nI 0, upd f_putWords v_putCount x1))
set_option maxHeartbeats 4000000 in
set_option maxRecDepth 100000 in
theorem c_X12_put (l : Launch) (D : va_G) (ct : Nat → ClassId) (ts : Nat → Nat) (a_this : Nat) (ad : Nat → Nat) (v_thrown : Int32) (v_connections : Int32) (v_size : Nat) (v_ids : Nat) (v_dataAll : Nat) (v_putCount : Nat) (v_waiting : Nat) (v_readSize : Nat) (v_power : Int32) (v_left : Int32) (v_since : Int32) (v_changes : Int32) (v_rowSize : Nat) (f_putWords : Nat → Int32) (x1 : Int32)  (h_p : v_putCount ≤ 16)  (sz : Nat) : Met l yX12_put (Cond.code yX12_put cX12_put 2 (some .int) :: tb) { frames := 0, cells := 0, slots := 0, locals := 0 } (PcG D ct SXL ts [.ref a_this, .int x1] [(a_this, .inr (12, mfs ad v_thrown v_connections (nI v_size) (nI v_ids) (nI v_dataAll) (nI v_putCount) (nI v_waiting) (nI v_readSize) v_power v_left v_since v_changes (nI v_rowSize))), (ad 24, .inl (ct 0, 16, .inl f_putWords))] sz) (va_Qi (fun (r : Int32) (u : (Nat) × (Int32) × (Nat → Int32)) => (r, u) = f_X12_put v_putCount f_putWords x1) (fun u => BG D ct (va_A [(a_this, .inr (12, mfs ad v_thrown v_connections (nI v_size) (nI v_ids) (nI v_dataAll) (nI v_putCount) (nI v_waiting) (nI v_readSize) v_power v_left v_since v_changes (nI v_rowSize))), (ad 24, .inl (ct 0, 16, .inl f_putWords))] sz) [(a_this, .inr (12, mfs ad u.2.1 v_connections (nI v_size) (nI v_ids) (nI v_dataAll) (nI u.1) (nI v_waiting) (nI v_readSize) v_power v_left v_since v_changes (nI v_rowSize))), (ad 24, .inl (ct 0, 16, .inl u.2.2))]) (va_A [(a_this, .inr (12, mfs ad v_thrown v_connections (nI v_size) (nI v_ids) (nI v_dataAll) (nI v_putCount) (nI v_waiting) (nI v_readSize) v_power v_left v_since v_changes (nI v_rowSize))), (ad 24, .inl (ct 0, 16, .inl f_putWords))] sz)) 0 0 (va_A [(a_this, .inr (12, mfs ad v_thrown v_connections (nI v_size) (nI v_ids) (nI v_dataAll) (nI v_putCount) (nI v_waiting) (nI v_readSize) v_power v_left v_since v_changes (nI v_rowSize))), (ad 24, .inl (ct 0, 16, .inl f_putWords))] sz) := by
  refine metJ (QcF := fun A => va_Qi (fun (r : Int32) (u : (Nat) × (Int32) × (Nat → Int32)) => (r, u) = f_X12_put v_putCount f_putWords x1) (fun u => BG D ct A [(a_this, .inr (12, mfs ad u.2.1 v_connections (nI v_size) (nI v_ids) (nI v_dataAll) (nI u.1) (nI v_waiting) (nI v_readSize) v_power v_left v_since v_changes (nI v_rowSize))), (ad 24, .inl (ct 0, 16, .inl u.2.2))]) A) (by decide) (Nat.le_of_ble_eq_true rfl) ?_
  intro p e s m below meth c A X hnm
  obtain ⟨Q, hQ⟩ : ∃ Q, Q = MQ below (va_Qi (fun (r : Int32) (u : (Nat) × (Int32) × (Nat → Int32)) => (r, u) = f_X12_put v_putCount f_putWords x1) (fun u => BG D ct A [(a_this, .inr (12, mfs ad u.2.1 v_connections (nI v_size) (nI v_ids) (nI v_dataAll) (nI u.1) (nI v_waiting) (nI v_readSize) v_power v_left v_since v_changes (nI v_rowSize))), (ad 24, .inl (ct 0, 16, .inl u.2.2))]) A) [.ref a_this, .int x1].toArray s 0 0 A := ⟨_, rfl⟩
  rw [← hQ]
  refine j_lve (lv' := [(0, .ref a_this), (1, .int x1)]) rfl ?_
  refine j_aload_n X 0 dX12_put_0 rfl (q := 1) rfl ?_
  refine j_iconst (v := nI 0) X dX12_put_1 (by decide) (q := 2) rfl ?_
  refine j_put (f := 0) (ws2 := [(a_this, .inr (12, mfs ad (nI 0) v_connections (nI v_size) (nI v_ids) (nI v_dataAll) (nI v_putCount) (nI v_waiting) (nI v_readSize) v_power v_left v_since v_changes (nI v_rowSize))), (ad 24, .inl (ct 0, 16, .inl f_putWords))]) (ty := .int) X 0 inT12 tyX12_ok nmX12 rfl rfl (by decide) mw_X12_put_0 rfl rfl rfl rfl (Nat.le_of_ble_eq_true rfl) dX12_put_2 rfl (q := 5) rfl ?_
  refine j_aload_n X 0 dX12_put_5 rfl (q := 6) rfl ?_
  refine j_get (f := 23) X 0 inT12 rfl rfl (by decide) mw_X12_put_1 rfl dX12_put_6 (q := 9) rfl ?_
  refine j_bipush (v := nI 16) X dX12_put_9 (by decide) (q := 11) rfl ?_
  refine j_icmp_ne (tgt := 16) X dX12_put_11 (by decide) (q := 14) rfl (fun c1 => ?_) (fun c1 => ?_)
  · skip
    have c1 : ¬ v_putCount = 16 := fun h => c1 (by rw [h])
    refine j_aload_n X 0 dX12_put_16 rfl (q := 17) rfl ?_
    refine j_get (f := 24) X 0 inT12 rfl rfl (by decide) mw_X12_put_2 rfl dX12_put_17 (q := 20) rfl ?_
    refine j_aload_n X 0 dX12_put_20 rfl (q := 21) rfl ?_
    refine j_get (f := 23) X 0 inT12 rfl rfl (by decide) mw_X12_put_1 rfl dX12_put_21 (q := 24) rfl ?_
    refine j_iload_n X 1 dX12_put_24 rfl (q := 25) rfl ?_
    refine k_iast (ws2 := [(a_this, .inr (12, mfs ad (nI 0) v_connections (nI v_size) (nI v_ids) (nI v_dataAll) (nI v_putCount) (nI v_waiting) (nI v_readSize) v_power v_left v_since v_changes (nI v_rowSize))), (ad 24, .inl (ct 0, 16, .inl (upd f_putWords v_putCount x1)))]) X 1 rfl (vp_in_nI (by omega) (by omega)) (nI_clamp (by omega)) dX12_put_25 rfl (q := 26) rfl ?_
    refine j_aload_n X 0 dX12_put_26 rfl (q := 27) rfl ?_
    refine j_dup X dX12_put_27 rfl (q := 28) rfl ?_
    refine j_get (f := 23) X 0 inT12 rfl rfl (by decide) mw_X12_put_1 rfl dX12_put_28 (q := 31) rfl ?_
    refine j_iconst (v := nI 1) X dX12_put_31 (by decide) (q := 32) rfl ?_
    refine j_iadd X dX12_put_32 (q := 33) rfl ?_
    refine j_eqi (nI_add _ _) ?_
    refine j_topn (fun n2 e_n2 => ?_)
    refine j_put (f := 23) (ws2 := [(a_this, .inr (12, mfs ad (nI 0) v_connections (nI v_size) (nI v_ids) (nI v_dataAll) (nI n2) (nI v_waiting) (nI v_readSize) v_power v_left v_since v_changes (nI v_rowSize))), (ad 24, .inl (ct 0, 16, .inl (upd f_putWords v_putCount x1)))]) (ty := .int) X 0 inT12 tyX12_ok nmX12 rfl rfl (by decide) mw_X12_put_1 rfl rfl rfl rfl (Nat.le_of_ble_eq_true rfl) dX12_put_33 rfl (q := 36) rfl ?_
    refine j_aload_n X 0 dX12_put_36 rfl (q := 37) rfl ?_
    refine j_get (f := 23) X 0 inT12 rfl rfl (by decide) mw_X12_put_1 rfl dX12_put_37 (q := 40) rfl ?_
    rw [hQ]
    exact j_iret X ((n2, nI 0, upd f_putWords v_putCount x1)) dX12_put_40 (by subst e_n2; first | rfl | (simp only [f_X12_put, if_neg c1]; done) | (simp only [f_X12_put, if_neg c1]; rfl)) rfl
  · skip
    have c1 : v_putCount = 16 := (nI_eq (a := v_putCount) (b := 16) (by omega) (by omega)).mp c1
    refine j_iconst (v := -1) X dX12_put_14 (by decide) (q := 15) rfl ?_
    rw [hQ]
    exact j_iret X ((v_putCount, nI 0, f_putWords)) dX12_put_15 (by first | rfl | (simp only [f_X12_put, if_pos c1]; done) | (simp only [f_X12_put, if_pos c1]; rfl)) rfl
theorem cal_X12_put : Cal yX12_put cX12_put 2 (some .int) 1 := ⟨tb_at 120 (by decide +kernel) (by decide +kernel), tb_at 1547 (by decide +kernel) (by decide +kernel), by decide +kernel, by decide +kernel, by decide +kernel⟩
theorem cwi_X12_put : Cond.instanceMethod yX12_put ∈ tb := tb_at 1545 (by decide +kernel) (by decide +kernel)
theorem cws_X12_put : Cond.selects yX12_put.cls yX12_put yX12_put ∈ tb := tb_at 1546 (by decide +kernel) (by decide +kernel)
theorem mw_X12_cut_0 : Cond.fieldLink "GuardedTreeModel" 293 "GuardedTreeModel" "thrown" "I" ∈ tb := tb_at 1237 (by decide +kernel) (by decide +kernel)
theorem mw_X12_cut_1 : Cond.fieldLink "GuardedTreeModel" 107 "GuardedTreeModel" "power" "Z" ∈ tb := tb_at 1276 (by decide +kernel) (by decide +kernel)
theorem mw_X12_cut_2 : Cond.fieldLink "GuardedTreeModel" 111 "GuardedTreeModel" "left" "I" ∈ tb := tb_at 1277 (by decide +kernel) (by decide +kernel)
theorem dX12_cut_0 : decode cX12_cut 0 = .ok (.aload_n 0, 1) := by decide +kernel
theorem dX12_cut_1 : decode cX12_cut 1 = .ok (.iconst 0, 1) := by decide +kernel
theorem dX12_cut_2 : decode cX12_cut 2 = .ok (.putfield 293, 3) := by decide +kernel
theorem dX12_cut_5 : decode cX12_cut 5 = .ok (.aload_n 0, 1) := by decide +kernel
theorem dX12_cut_6 : decode cX12_cut 6 = .ok (.getfield 107, 3) := by decide +kernel
theorem dX12_cut_9 : decode cX12_cut 9 = .ok (.ifCond .eq 25, 3) := by decide +kernel
theorem dX12_cut_12 : decode cX12_cut 12 = .ok (.iload_n 1, 1) := by decide +kernel
theorem dX12_cut_13 : decode cX12_cut 13 = .ok (.iconst (-1), 1) := by decide +kernel
theorem dX12_cut_14 : decode cX12_cut 14 = .ok (.if_icmp .lt 20, 3) := by decide +kernel
theorem dX12_cut_17 : decode cX12_cut 17 = .ok (.iload_n 1, 1) := by decide +kernel
theorem dX12_cut_18 : decode cX12_cut 18 = .ok (.sipush 1000, 3) := by decide +kernel
theorem dX12_cut_21 : decode cX12_cut 21 = .ok (.if_icmp .gt 13, 3) := by decide +kernel
theorem dX12_cut_24 : decode cX12_cut 24 = .ok (.iload_n 2, 1) := by decide +kernel
theorem dX12_cut_25 : decode cX12_cut 25 = .ok (.ifCond .lt 9, 3) := by decide +kernel
theorem dX12_cut_28 : decode cX12_cut 28 = .ok (.iload_n 2, 1) := by decide +kernel
theorem dX12_cut_29 : decode cX12_cut 29 = .ok (.bipush 31, 2) := by decide +kernel
theorem dX12_cut_31 : decode cX12_cut 31 = .ok (.if_icmp .le 5, 3) := by decide +kernel
theorem dX12_cut_34 : decode cX12_cut 34 = .ok (.iconst 0, 1) := by decide +kernel
theorem dX12_cut_35 : decode cX12_cut 35 = .ok (.ireturn, 1) := by decide +kernel
theorem dX12_cut_36 : decode cX12_cut 36 = .ok (.aload_n 0, 1) := by decide +kernel
theorem dX12_cut_37 : decode cX12_cut 37 = .ok (.iload_n 1, 1) := by decide +kernel
theorem dX12_cut_38 : decode cX12_cut 38 = .ok (.putfield 111, 3) := by decide +kernel
theorem dX12_cut_41 : decode cX12_cut 41 = .ok (.iconst 1, 1) := by decide +kernel
theorem dX12_cut_42 : decode cX12_cut 42 = .ok (.ireturn, 1) := by decide +kernel
noncomputable def f_X12_cut (v_power : Int32) (v_left : Int32) (x1 : Int32) (x2 : Int32) : Int32 × (Int32) × (Int32) :=
  if v_power = 0 then
  ((nI 0, v_left, nI 0))
  else
  (if x1 < ((-1)) then
  ((nI 0, v_left, nI 0))
  else
  (if (nI 1000) < x1 then
  ((nI 0, v_left, nI 0))
  else
  (if x2 < 0 then
  ((nI 0, v_left, nI 0))
  else
  (if x2 ≤ (nI 31) then
  ((nI 1, x1, nI 0))
  else
  ((nI 0, v_left, nI 0))))))
set_option maxHeartbeats 4000000 in
set_option maxRecDepth 100000 in
theorem c_X12_cut (l : Launch) (D : va_G) (ct : Nat → ClassId) (ts : Nat → Nat) (a_this : Nat) (ad : Nat → Nat) (v_thrown : Int32) (v_connections : Int32) (v_size : Nat) (v_ids : Nat) (v_dataAll : Nat) (v_putCount : Nat) (v_waiting : Nat) (v_readSize : Nat) (v_power : Int32) (v_left : Int32) (v_since : Int32) (v_changes : Int32) (v_rowSize : Nat) (x1 : Int32) (x2 : Int32)    (sz : Nat) : Met l yX12_cut (Cond.code yX12_cut cX12_cut 3 (some .boolean) :: tb) { frames := 0, cells := 0, slots := 0, locals := 0 } (PcG D ct SXL ts [.ref a_this, .int x1, .int x2] [(a_this, .inr (12, mfs ad v_thrown v_connections (nI v_size) (nI v_ids) (nI v_dataAll) (nI v_putCount) (nI v_waiting) (nI v_readSize) v_power v_left v_since v_changes (nI v_rowSize)))] sz) (va_Qi (fun (r : Int32) (u : (Int32) × (Int32)) => (r, u) = f_X12_cut v_power v_left x1 x2) (fun u => BG D ct (va_A [(a_this, .inr (12, mfs ad v_thrown v_connections (nI v_size) (nI v_ids) (nI v_dataAll) (nI v_putCount) (nI v_waiting) (nI v_readSize) v_power v_left v_since v_changes (nI v_rowSize)))] sz) [(a_this, .inr (12, mfs ad u.2 v_connections (nI v_size) (nI v_ids) (nI v_dataAll) (nI v_putCount) (nI v_waiting) (nI v_readSize) v_power u.1 v_since v_changes (nI v_rowSize)))]) (va_A [(a_this, .inr (12, mfs ad v_thrown v_connections (nI v_size) (nI v_ids) (nI v_dataAll) (nI v_putCount) (nI v_waiting) (nI v_readSize) v_power v_left v_since v_changes (nI v_rowSize)))] sz)) 0 0 (va_A [(a_this, .inr (12, mfs ad v_thrown v_connections (nI v_size) (nI v_ids) (nI v_dataAll) (nI v_putCount) (nI v_waiting) (nI v_readSize) v_power v_left v_since v_changes (nI v_rowSize)))] sz) := by
  refine metJ (QcF := fun A => va_Qi (fun (r : Int32) (u : (Int32) × (Int32)) => (r, u) = f_X12_cut v_power v_left x1 x2) (fun u => BG D ct A [(a_this, .inr (12, mfs ad u.2 v_connections (nI v_size) (nI v_ids) (nI v_dataAll) (nI v_putCount) (nI v_waiting) (nI v_readSize) v_power u.1 v_since v_changes (nI v_rowSize)))]) A) (by decide) (Nat.le_of_ble_eq_true rfl) ?_
  intro p e s m below meth c A X hnm
  obtain ⟨Q, hQ⟩ : ∃ Q, Q = MQ below (va_Qi (fun (r : Int32) (u : (Int32) × (Int32)) => (r, u) = f_X12_cut v_power v_left x1 x2) (fun u => BG D ct A [(a_this, .inr (12, mfs ad u.2 v_connections (nI v_size) (nI v_ids) (nI v_dataAll) (nI v_putCount) (nI v_waiting) (nI v_readSize) v_power u.1 v_since v_changes (nI v_rowSize)))]) A) [.ref a_this, .int x1, .int x2].toArray s 0 0 A := ⟨_, rfl⟩
  rw [← hQ]
  refine j_lve (lv' := [(0, .ref a_this), (1, .int x1), (2, .int x2)]) rfl ?_
  refine j_aload_n X 0 dX12_cut_0 rfl (q := 1) rfl ?_
  refine j_iconst (v := nI 0) X dX12_cut_1 (by decide) (q := 2) rfl ?_
  refine j_put (f := 0) (ws2 := [(a_this, .inr (12, mfs ad (nI 0) v_connections (nI v_size) (nI v_ids) (nI v_dataAll) (nI v_putCount) (nI v_waiting) (nI v_readSize) v_power v_left v_since v_changes (nI v_rowSize)))]) (ty := .int) X 0 inT12 tyX12_ok nmX12 rfl rfl (by decide) mw_X12_cut_0 rfl rfl rfl rfl (Nat.le_of_ble_eq_true rfl) dX12_cut_2 rfl (q := 5) rfl ?_
  refine j_aload_n X 0 dX12_cut_5 rfl (q := 6) rfl ?_
  refine j_get (f := 39) X 0 inT12 rfl rfl (by decide) mw_X12_cut_1 rfl dX12_cut_6 (q := 9) rfl ?_
  refine j_if_eq (tgt := 34) X dX12_cut_9 (by decide) (q := 12) rfl (fun c1 => ?_) (fun c1 => ?_)
  · skip
    refine j_iconst (v := nI 0) X dX12_cut_34 (by decide) (q := 35) rfl ?_
    rw [hQ]
    exact j_zret X ((v_left, nI 0)) (by decide) dX12_cut_35 (by first | rfl | (simp only [f_X12_cut, if_pos c1]; done) | (simp only [f_X12_cut, if_pos c1]; rfl)) rfl
  · skip
    refine j_iload_n X 1 dX12_cut_12 rfl (q := 13) rfl ?_
    refine j_iconst (v := -1) X dX12_cut_13 (by decide) (q := 14) rfl ?_
    refine j_icmp_lt (tgt := 34) X dX12_cut_14 (by decide) (q := 17) rfl (fun c2 => ?_) (fun c2 => ?_)
    · skip
      refine j_iconst (v := nI 0) X dX12_cut_34 (by decide) (q := 35) rfl ?_
      rw [hQ]
      exact j_zret X ((v_left, nI 0)) (by decide) dX12_cut_35 (by first | rfl | (simp only [f_X12_cut, if_neg c1, if_pos c2]; done) | (simp only [f_X12_cut, if_neg c1, if_pos c2]; rfl)) rfl
    · skip
      refine j_iload_n X 1 dX12_cut_17 rfl (q := 18) rfl ?_
      refine j_sipush (v := nI 1000) X dX12_cut_18 (by decide) (q := 21) rfl ?_
      refine j_icmp_gt (tgt := 34) X dX12_cut_21 (by decide) (q := 24) rfl (fun c3 => ?_) (fun c3 => ?_)
      · skip
        refine j_iconst (v := nI 0) X dX12_cut_34 (by decide) (q := 35) rfl ?_
        rw [hQ]
        exact j_zret X ((v_left, nI 0)) (by decide) dX12_cut_35 (by first | rfl | (simp only [f_X12_cut, if_neg c1, if_neg c2, if_pos c3]; done) | (simp only [f_X12_cut, if_neg c1, if_neg c2, if_pos c3]; rfl)) rfl
      · skip
        refine j_iload_n X 2 dX12_cut_24 rfl (q := 25) rfl ?_
        refine j_if_lt (tgt := 34) X dX12_cut_25 (by decide) (q := 28) rfl (fun c4 => ?_) (fun c4 => ?_)
        · skip
          refine j_iconst (v := nI 0) X dX12_cut_34 (by decide) (q := 35) rfl ?_
          rw [hQ]
          exact j_zret X ((v_left, nI 0)) (by decide) dX12_cut_35 (by first | rfl | (simp only [f_X12_cut, if_neg c1, if_neg c2, if_neg c3, if_pos c4]; done) | (simp only [f_X12_cut, if_neg c1, if_neg c2, if_neg c3, if_pos c4]; rfl)) rfl
        · skip
          refine j_iload_n X 2 dX12_cut_28 rfl (q := 29) rfl ?_
          refine j_bipush (v := nI 31) X dX12_cut_29 (by decide) (q := 31) rfl ?_
          refine j_icmp_le (tgt := 36) X dX12_cut_31 (by decide) (q := 34) rfl (fun c5 => ?_) (fun c5 => ?_)
          · skip
            refine j_aload_n X 0 dX12_cut_36 rfl (q := 37) rfl ?_
            refine j_iload_n X 1 dX12_cut_37 rfl (q := 38) rfl ?_
            refine j_put (f := 40) (ws2 := [(a_this, .inr (12, mfs ad (nI 0) v_connections (nI v_size) (nI v_ids) (nI v_dataAll) (nI v_putCount) (nI v_waiting) (nI v_readSize) v_power x1 v_since v_changes (nI v_rowSize)))]) (ty := .int) X 0 inT12 tyX12_ok nmX12 rfl rfl (by decide) mw_X12_cut_2 rfl rfl rfl rfl (Nat.le_of_ble_eq_true rfl) dX12_cut_38 rfl (q := 41) rfl ?_
            refine j_iconst (v := nI 1) X dX12_cut_41 (by decide) (q := 42) rfl ?_
            rw [hQ]
            exact j_zret X ((x1, nI 0)) (by decide) dX12_cut_42 (by first | rfl | (simp only [f_X12_cut, if_neg c1, if_neg c2, if_neg c3, if_neg c4, if_pos c5]; done) | (simp only [f_X12_cut, if_neg c1, if_neg c2, if_neg c3, if_neg c4, if_pos c5]; rfl)) rfl
          · skip
            refine j_iconst (v := nI 0) X dX12_cut_34 (by decide) (q := 35) rfl ?_
            rw [hQ]
            exact j_zret X ((v_left, nI 0)) (by decide) dX12_cut_35 (by first | rfl | (simp only [f_X12_cut, if_neg c1, if_neg c2, if_neg c3, if_neg c4, if_neg c5]; done) | (simp only [f_X12_cut, if_neg c1, if_neg c2, if_neg c3, if_neg c4, if_neg c5]; rfl)) rfl
theorem cal_X12_cut : Cal yX12_cut cX12_cut 3 (some .boolean) 2 := ⟨tb_at 120 (by decide +kernel) (by decide +kernel), tb_at 1781 (by decide +kernel) (by decide +kernel), by decide +kernel, by decide +kernel, by decide +kernel⟩
theorem cwi_X12_cut : Cond.instanceMethod yX12_cut ∈ tb := tb_at 1779 (by decide +kernel) (by decide +kernel)
theorem cws_X12_cut : Cond.selects yX12_cut.cls yX12_cut yX12_cut ∈ tb := tb_at 1780 (by decide +kernel) (by decide +kernel)
theorem mw_X12_start_0 : Cond.fieldLink "GuardedTreeModel" 293 "GuardedTreeModel" "thrown" "I" ∈ tb := tb_at 1237 (by decide +kernel) (by decide +kernel)
theorem mw_X12_start_1 : Cond.fieldLink "GuardedTreeModel" 107 "GuardedTreeModel" "power" "Z" ∈ tb := tb_at 1276 (by decide +kernel) (by decide +kernel)
theorem mw_X12_start_2 : Cond.fieldLink "GuardedTreeModel" 111 "GuardedTreeModel" "left" "I" ∈ tb := tb_at 1277 (by decide +kernel) (by decide +kernel)
theorem mw_X12_start_3 : Cond.fieldLink "GuardedTreeModel" 509 "GuardedTreeModel" "changes" "I" ∈ tb := tb_at 1279 (by decide +kernel) (by decide +kernel)
theorem dX12_start_0 : decode cX12_start 0 = .ok (.aload_n 0, 1) := by decide +kernel
theorem dX12_start_1 : decode cX12_start 1 = .ok (.iconst 0, 1) := by decide +kernel
theorem dX12_start_2 : decode cX12_start 2 = .ok (.putfield 293, 3) := by decide +kernel
theorem dX12_start_5 : decode cX12_start 5 = .ok (.aload_n 0, 1) := by decide +kernel
theorem dX12_start_6 : decode cX12_start 6 = .ok (.getfield 107, 3) := by decide +kernel
theorem dX12_start_9 : decode cX12_start 9 = .ok (.ifCond .eq 5, 3) := by decide +kernel
theorem dX12_start_12 : decode cX12_start 12 = .ok (.iconst (-1), 1) := by decide +kernel
theorem dX12_start_13 : decode cX12_start 13 = .ok (.ireturn, 1) := by decide +kernel
theorem dX12_start_14 : decode cX12_start 14 = .ok (.aload_n 0, 1) := by decide +kernel
theorem dX12_start_15 : decode cX12_start 15 = .ok (.iconst 1, 1) := by decide +kernel
theorem dX12_start_16 : decode cX12_start 16 = .ok (.putfield 107, 3) := by decide +kernel
theorem dX12_start_19 : decode cX12_start 19 = .ok (.aload_n 0, 1) := by decide +kernel
theorem dX12_start_20 : decode cX12_start 20 = .ok (.iconst (-1), 1) := by decide +kernel
theorem dX12_start_21 : decode cX12_start 21 = .ok (.putfield 111, 3) := by decide +kernel
theorem dX12_start_24 : decode cX12_start 24 = .ok (.aload_n 0, 1) := by decide +kernel
theorem dX12_start_25 : decode cX12_start 25 = .ok (.getfield 509, 3) := by decide +kernel
theorem dX12_start_28 : decode cX12_start 28 = .ok (.ireturn, 1) := by decide +kernel
noncomputable def f_X12_start (v_power : Int32) (v_left : Int32) (v_changes : Int32) : Int32 × (Int32) × (Int32) × (Int32) :=
  if v_power = 0 then
  (let y2 := (-1)
  (v_changes, y2, nI 1, nI 0))
  else
  (((-1), v_left, v_power, nI 0))
set_option maxHeartbeats 4000000 in
set_option maxRecDepth 100000 in
theorem c_X12_start (l : Launch) (D : va_G) (ct : Nat → ClassId) (ts : Nat → Nat) (a_this : Nat) (ad : Nat → Nat) (v_thrown : Int32) (v_connections : Int32) (v_size : Nat) (v_ids : Nat) (v_dataAll : Nat) (v_putCount : Nat) (v_waiting : Nat) (v_readSize : Nat) (v_power : Int32) (v_left : Int32) (v_since : Int32) (v_changes : Int32) (v_rowSize : Nat)    (sz : Nat) : Met l yX12_start (Cond.code yX12_start cX12_start 1 (some .int) :: tb) { frames := 0, cells := 0, slots := 0, locals := 0 } (PcG D ct SXL ts [.ref a_this] [(a_this, .inr (12, mfs ad v_thrown v_connections (nI v_size) (nI v_ids) (nI v_dataAll) (nI v_putCount) (nI v_waiting) (nI v_readSize) v_power v_left v_since v_changes (nI v_rowSize)))] sz) (va_Qi (fun (r : Int32) (u : (Int32) × (Int32) × (Int32)) => (r, u) = f_X12_start v_power v_left v_changes) (fun u => BG D ct (va_A [(a_this, .inr (12, mfs ad v_thrown v_connections (nI v_size) (nI v_ids) (nI v_dataAll) (nI v_putCount) (nI v_waiting) (nI v_readSize) v_power v_left v_since v_changes (nI v_rowSize)))] sz) [(a_this, .inr (12, mfs ad u.2.2 v_connections (nI v_size) (nI v_ids) (nI v_dataAll) (nI v_putCount) (nI v_waiting) (nI v_readSize) u.2.1 u.1 v_since v_changes (nI v_rowSize)))]) (va_A [(a_this, .inr (12, mfs ad v_thrown v_connections (nI v_size) (nI v_ids) (nI v_dataAll) (nI v_putCount) (nI v_waiting) (nI v_readSize) v_power v_left v_since v_changes (nI v_rowSize)))] sz)) 0 0 (va_A [(a_this, .inr (12, mfs ad v_thrown v_connections (nI v_size) (nI v_ids) (nI v_dataAll) (nI v_putCount) (nI v_waiting) (nI v_readSize) v_power v_left v_since v_changes (nI v_rowSize)))] sz) := by
  refine metJ (QcF := fun A => va_Qi (fun (r : Int32) (u : (Int32) × (Int32) × (Int32)) => (r, u) = f_X12_start v_power v_left v_changes) (fun u => BG D ct A [(a_this, .inr (12, mfs ad u.2.2 v_connections (nI v_size) (nI v_ids) (nI v_dataAll) (nI v_putCount) (nI v_waiting) (nI v_readSize) u.2.1 u.1 v_since v_changes (nI v_rowSize)))]) A) (by decide) (Nat.le_of_ble_eq_true rfl) ?_
  intro p e s m below meth c A X hnm
  obtain ⟨Q, hQ⟩ : ∃ Q, Q = MQ below (va_Qi (fun (r : Int32) (u : (Int32) × (Int32) × (Int32)) => (r, u) = f_X12_start v_power v_left v_changes) (fun u => BG D ct A [(a_this, .inr (12, mfs ad u.2.2 v_connections (nI v_size) (nI v_ids) (nI v_dataAll) (nI v_putCount) (nI v_waiting) (nI v_readSize) u.2.1 u.1 v_since v_changes (nI v_rowSize)))]) A) [.ref a_this].toArray s 0 0 A := ⟨_, rfl⟩
  rw [← hQ]
  refine j_lve (lv' := [(0, .ref a_this)]) rfl ?_
  refine j_aload_n X 0 dX12_start_0 rfl (q := 1) rfl ?_
  refine j_iconst (v := nI 0) X dX12_start_1 (by decide) (q := 2) rfl ?_
  refine j_put (f := 0) (ws2 := [(a_this, .inr (12, mfs ad (nI 0) v_connections (nI v_size) (nI v_ids) (nI v_dataAll) (nI v_putCount) (nI v_waiting) (nI v_readSize) v_power v_left v_since v_changes (nI v_rowSize)))]) (ty := .int) X 0 inT12 tyX12_ok nmX12 rfl rfl (by decide) mw_X12_start_0 rfl rfl rfl rfl (Nat.le_of_ble_eq_true rfl) dX12_start_2 rfl (q := 5) rfl ?_
  refine j_aload_n X 0 dX12_start_5 rfl (q := 6) rfl ?_
  refine j_get (f := 39) X 0 inT12 rfl rfl (by decide) mw_X12_start_1 rfl dX12_start_6 (q := 9) rfl ?_
  refine j_if_eq (tgt := 14) X dX12_start_9 (by decide) (q := 12) rfl (fun c1 => ?_) (fun c1 => ?_)
  · skip
    refine j_aload_n X 0 dX12_start_14 rfl (q := 15) rfl ?_
    refine j_iconst (v := nI 1) X dX12_start_15 (by decide) (q := 16) rfl ?_
    refine j_put (f := 39) (ws2 := [(a_this, .inr (12, mfs ad (nI 0) v_connections (nI v_size) (nI v_ids) (nI v_dataAll) (nI v_putCount) (nI v_waiting) (nI v_readSize) (nI 1) v_left v_since v_changes (nI v_rowSize)))]) (ty := .boolean) X 0 inT12 tyX12_ok nmX12 rfl rfl (by decide) mw_X12_start_1 rfl rfl (by decide) (by decide) (Nat.le_of_ble_eq_true rfl) dX12_start_16 rfl (q := 19) rfl ?_
    refine j_aload_n X 0 dX12_start_19 rfl (q := 20) rfl ?_
    refine j_iconst (v := -1) X dX12_start_20 (by decide) (q := 21) rfl ?_
    refine j_topi (fun y2 e_y2 => ?_)
    refine j_put (f := 40) (ws2 := [(a_this, .inr (12, mfs ad (nI 0) v_connections (nI v_size) (nI v_ids) (nI v_dataAll) (nI v_putCount) (nI v_waiting) (nI v_readSize) (nI 1) y2 v_since v_changes (nI v_rowSize)))]) (ty := .int) X 0 inT12 tyX12_ok nmX12 rfl rfl (by decide) mw_X12_start_2 rfl rfl rfl rfl (Nat.le_of_ble_eq_true rfl) dX12_start_21 rfl (q := 24) rfl ?_
    refine j_aload_n X 0 dX12_start_24 rfl (q := 25) rfl ?_
    refine j_get (f := 42) X 0 inT12 rfl rfl (by decide) mw_X12_start_3 rfl dX12_start_25 (q := 28) rfl ?_
    rw [hQ]
    exact j_iret X ((y2, nI 1, nI 0)) dX12_start_28 (by subst e_y2; first | rfl | (simp only [f_X12_start, if_pos c1]; done) | (simp only [f_X12_start, if_pos c1]; rfl)) rfl
  · skip
    refine j_iconst (v := -1) X dX12_start_12 (by decide) (q := 13) rfl ?_
    rw [hQ]
    exact j_iret X ((v_left, v_power, nI 0)) dX12_start_13 (by first | rfl | (simp only [f_X12_start, if_neg c1]; done) | (simp only [f_X12_start, if_neg c1]; rfl)) rfl
theorem cal_X12_start : Cal yX12_start cX12_start 1 (some .int) 0 := ⟨tb_at 120 (by decide +kernel) (by decide +kernel), tb_at 1785 (by decide +kernel) (by decide +kernel), by decide +kernel, by decide +kernel, by decide +kernel⟩
theorem cwi_X12_start : Cond.instanceMethod yX12_start ∈ tb := tb_at 1783 (by decide +kernel) (by decide +kernel)
theorem cws_X12_start : Cond.selects yX12_start.cls yX12_start yX12_start ∈ tb := tb_at 1784 (by decide +kernel) (by decide +kernel)
theorem mw_X12_changes_0 : Cond.fieldLink "GuardedTreeModel" 293 "GuardedTreeModel" "thrown" "I" ∈ tb := tb_at 1237 (by decide +kernel) (by decide +kernel)
theorem mw_X12_changes_1 : Cond.fieldLink "GuardedTreeModel" 107 "GuardedTreeModel" "power" "Z" ∈ tb := tb_at 1276 (by decide +kernel) (by decide +kernel)
theorem mw_X12_changes_2 : Cond.fieldLink "GuardedTreeModel" 509 "GuardedTreeModel" "changes" "I" ∈ tb := tb_at 1279 (by decide +kernel) (by decide +kernel)
theorem dX12_changes_0 : decode cX12_changes 0 = .ok (.aload_n 0, 1) := by decide +kernel
theorem dX12_changes_1 : decode cX12_changes 1 = .ok (.iconst 0, 1) := by decide +kernel
theorem dX12_changes_2 : decode cX12_changes 2 = .ok (.putfield 293, 3) := by decide +kernel
theorem dX12_changes_5 : decode cX12_changes 5 = .ok (.aload_n 0, 1) := by decide +kernel
theorem dX12_changes_6 : decode cX12_changes 6 = .ok (.getfield 107, 3) := by decide +kernel
theorem dX12_changes_9 : decode cX12_changes 9 = .ok (.ifCond .eq 10, 3) := by decide +kernel
theorem dX12_changes_12 : decode cX12_changes 12 = .ok (.aload_n 0, 1) := by decide +kernel
theorem dX12_changes_13 : decode cX12_changes 13 = .ok (.getfield 509, 3) := by decide +kernel
theorem dX12_changes_16 : decode cX12_changes 16 = .ok (.goto 5, 3) := by decide +kernel
theorem dX12_changes_19 : decode cX12_changes 19 = .ok (.bipush (-30), 2) := by decide +kernel
theorem dX12_changes_21 : decode cX12_changes 21 = .ok (.ireturn, 1) := by decide +kernel
noncomputable def f_X12_changes (v_power : Int32) (v_changes : Int32) : Int32 × (Int32) :=
  if v_power = 0 then
  (((-30), nI 0))
  else
  ((v_changes, nI 0))
set_option maxHeartbeats 4000000 in
set_option maxRecDepth 100000 in
theorem c_X12_changes (l : Launch) (D : va_G) (ct : Nat → ClassId) (ts : Nat → Nat) (a_this : Nat) (ad : Nat → Nat) (v_thrown : Int32) (v_connections : Int32) (v_size : Nat) (v_ids : Nat) (v_dataAll : Nat) (v_putCount : Nat) (v_waiting : Nat) (v_readSize : Nat) (v_power : Int32) (v_left : Int32) (v_since : Int32) (v_changes : Int32) (v_rowSize : Nat)    (sz : Nat) : Met l yX12_changes (Cond.code yX12_changes cX12_changes 1 (some .int) :: tb) { frames := 0, cells := 0, slots := 0, locals := 0 } (PcG D ct SXL ts [.ref a_this] [(a_this, .inr (12, mfs ad v_thrown v_connections (nI v_size) (nI v_ids) (nI v_dataAll) (nI v_putCount) (nI v_waiting) (nI v_readSize) v_power v_left v_since v_changes (nI v_rowSize)))] sz) (va_Qi (fun (r : Int32) (u : (Int32)) => (r, u) = f_X12_changes v_power v_changes) (fun u => BG D ct (va_A [(a_this, .inr (12, mfs ad v_thrown v_connections (nI v_size) (nI v_ids) (nI v_dataAll) (nI v_putCount) (nI v_waiting) (nI v_readSize) v_power v_left v_since v_changes (nI v_rowSize)))] sz) [(a_this, .inr (12, mfs ad u v_connections (nI v_size) (nI v_ids) (nI v_dataAll) (nI v_putCount) (nI v_waiting) (nI v_readSize) v_power v_left v_since v_changes (nI v_rowSize)))]) (va_A [(a_this, .inr (12, mfs ad v_thrown v_connections (nI v_size) (nI v_ids) (nI v_dataAll) (nI v_putCount) (nI v_waiting) (nI v_readSize) v_power v_left v_since v_changes (nI v_rowSize)))] sz)) 0 0 (va_A [(a_this, .inr (12, mfs ad v_thrown v_connections (nI v_size) (nI v_ids) (nI v_dataAll) (nI v_putCount) (nI v_waiting) (nI v_readSize) v_power v_left v_since v_changes (nI v_rowSize)))] sz) := by
  refine metJ (QcF := fun A => va_Qi (fun (r : Int32) (u : (Int32)) => (r, u) = f_X12_changes v_power v_changes) (fun u => BG D ct A [(a_this, .inr (12, mfs ad u v_connections (nI v_size) (nI v_ids) (nI v_dataAll) (nI v_putCount) (nI v_waiting) (nI v_readSize) v_power v_left v_since v_changes (nI v_rowSize)))]) A) (by decide) (Nat.le_of_ble_eq_true rfl) ?_
  intro p e s m below meth c A X hnm
  obtain ⟨Q, hQ⟩ : ∃ Q, Q = MQ below (va_Qi (fun (r : Int32) (u : (Int32)) => (r, u) = f_X12_changes v_power v_changes) (fun u => BG D ct A [(a_this, .inr (12, mfs ad u v_connections (nI v_size) (nI v_ids) (nI v_dataAll) (nI v_putCount) (nI v_waiting) (nI v_readSize) v_power v_left v_since v_changes (nI v_rowSize)))]) A) [.ref a_this].toArray s 0 0 A := ⟨_, rfl⟩
  rw [← hQ]
  refine j_lve (lv' := [(0, .ref a_this)]) rfl ?_
  refine j_aload_n X 0 dX12_changes_0 rfl (q := 1) rfl ?_
  refine j_iconst (v := nI 0) X dX12_changes_1 (by decide) (q := 2) rfl ?_
  refine j_put (f := 0) (ws2 := [(a_this, .inr (12, mfs ad (nI 0) v_connections (nI v_size) (nI v_ids) (nI v_dataAll) (nI v_putCount) (nI v_waiting) (nI v_readSize) v_power v_left v_since v_changes (nI v_rowSize)))]) (ty := .int) X 0 inT12 tyX12_ok nmX12 rfl rfl (by decide) mw_X12_changes_0 rfl rfl rfl rfl (Nat.le_of_ble_eq_true rfl) dX12_changes_2 rfl (q := 5) rfl ?_
  refine j_aload_n X 0 dX12_changes_5 rfl (q := 6) rfl ?_
  refine j_get (f := 39) X 0 inT12 rfl rfl (by decide) mw_X12_changes_1 rfl dX12_changes_6 (q := 9) rfl ?_
  refine j_if_eq (tgt := 19) X dX12_changes_9 (by decide) (q := 12) rfl (fun c1 => ?_) (fun c1 => ?_)
  · skip
    refine j_bipush (v := -30) X dX12_changes_19 (by decide) (q := 21) rfl ?_
    rw [hQ]
    exact j_iret X (nI 0) dX12_changes_21 (by first | rfl | (simp only [f_X12_changes, if_pos c1]; done) | (simp only [f_X12_changes, if_pos c1]; rfl)) rfl
  · skip
    refine j_aload_n X 0 dX12_changes_12 rfl (q := 13) rfl ?_
    refine j_get (f := 42) X 0 inT12 rfl rfl (by decide) mw_X12_changes_2 rfl dX12_changes_13 (q := 16) rfl ?_
    refine j_goto (tgt := 21) X dX12_changes_16 (by decide) ?_
    rw [hQ]
    exact j_iret X (nI 0) dX12_changes_21 (by first | rfl | (simp only [f_X12_changes, if_neg c1]; done) | (simp only [f_X12_changes, if_neg c1]; rfl)) rfl
theorem cal_X12_changes : Cal yX12_changes cX12_changes 1 (some .int) 0 := ⟨tb_at 120 (by decide +kernel) (by decide +kernel), tb_at 1789 (by decide +kernel) (by decide +kernel), by decide +kernel, by decide +kernel, by decide +kernel⟩
theorem cwi_X12_changes : Cond.instanceMethod yX12_changes ∈ tb := tb_at 1787 (by decide +kernel) (by decide +kernel)
theorem cws_X12_changes : Cond.selects yX12_changes.cls yX12_changes yX12_changes ∈ tb := tb_at 1788 (by decide +kernel) (by decide +kernel)
theorem mw_X12_forgetServer_0 : Cond.fieldLink "GuardedTreeModel" 23 "GuardedTreeModel" "cameSize" "[I" ∈ tb := tb_at 1243 (by decide +kernel) (by decide +kernel)
theorem mw_X12_forgetServer_1 : Cond.fieldLink "GuardedTreeModel" 396 "GuardedTreeModel" "waiting" "I" ∈ tb := tb_at 1262 (by decide +kernel) (by decide +kernel)
theorem dX12_forgetServer_0 : decode cX12_forgetServer 0 = .ok (.aload_n 0, 1) := by decide +kernel
theorem dX12_forgetServer_1 : decode cX12_forgetServer 1 = .ok (.getfield 23, 3) := by decide +kernel
theorem dX12_forgetServer_4 : decode cX12_forgetServer 4 = .ok (.iconst 1, 1) := by decide +kernel
theorem dX12_forgetServer_5 : decode cX12_forgetServer 5 = .ok (.iconst 0, 1) := by decide +kernel
theorem dX12_forgetServer_6 : decode cX12_forgetServer 6 = .ok (.iastore, 1) := by decide +kernel
theorem dX12_forgetServer_7 : decode cX12_forgetServer 7 = .ok (.aload_n 0, 1) := by decide +kernel
theorem dX12_forgetServer_8 : decode cX12_forgetServer 8 = .ok (.iconst 0, 1) := by decide +kernel
theorem dX12_forgetServer_9 : decode cX12_forgetServer 9 = .ok (.putfield 396, 3) := by decide +kernel
theorem dX12_forgetServer_12 : decode cX12_forgetServer 12 = .ok (.return_, 1) := by decide +kernel
noncomputable def f_X12_forgetServer (f_cameSize : Nat → Int32) : (Nat) × (Nat → Int32) :=
  (0, upd f_cameSize 1 (nI 0))
set_option maxHeartbeats 4000000 in
set_option maxRecDepth 100000 in
theorem c_X12_forgetServer (l : Launch) (D : va_G) (ct : Nat → ClassId) (ts : Nat → Nat) (a_this : Nat) (ad : Nat → Nat) (v_thrown : Int32) (v_connections : Int32) (v_size : Nat) (v_ids : Nat) (v_dataAll : Nat) (v_putCount : Nat) (v_waiting : Nat) (v_readSize : Nat) (v_power : Int32) (v_left : Int32) (v_since : Int32) (v_changes : Int32) (v_rowSize : Nat) (f_cameSize : Nat → Int32)    (sz : Nat) : Met l yX12_forgetServer (Cond.code yX12_forgetServer cX12_forgetServer 1 none :: tb) { frames := 0, cells := 0, slots := 0, locals := 0 } (PcG D ct SXL ts [.ref a_this] [(a_this, .inr (12, mfs ad v_thrown v_connections (nI v_size) (nI v_ids) (nI v_dataAll) (nI v_putCount) (nI v_waiting) (nI v_readSize) v_power v_left v_since v_changes (nI v_rowSize))), (ad 6, .inl (ct 0, 2, .inl f_cameSize))] sz) (va_Qv (fun u : (Nat) × (Nat → Int32) => u = f_X12_forgetServer f_cameSize) (fun u => BG D ct (va_A [(a_this, .inr (12, mfs ad v_thrown v_connections (nI v_size) (nI v_ids) (nI v_dataAll) (nI v_putCount) (nI v_waiting) (nI v_readSize) v_power v_left v_since v_changes (nI v_rowSize))), (ad 6, .inl (ct 0, 2, .inl f_cameSize))] sz) [(a_this, .inr (12, mfs ad v_thrown v_connections (nI v_size) (nI v_ids) (nI v_dataAll) (nI v_putCount) (nI u.1) (nI v_readSize) v_power v_left v_since v_changes (nI v_rowSize))), (ad 6, .inl (ct 0, 2, .inl u.2))]) (va_A [(a_this, .inr (12, mfs ad v_thrown v_connections (nI v_size) (nI v_ids) (nI v_dataAll) (nI v_putCount) (nI v_waiting) (nI v_readSize) v_power v_left v_since v_changes (nI v_rowSize))), (ad 6, .inl (ct 0, 2, .inl f_cameSize))] sz)) 0 0 (va_A [(a_this, .inr (12, mfs ad v_thrown v_connections (nI v_size) (nI v_ids) (nI v_dataAll) (nI v_putCount) (nI v_waiting) (nI v_readSize) v_power v_left v_since v_changes (nI v_rowSize))), (ad 6, .inl (ct 0, 2, .inl f_cameSize))] sz) := by
  refine metJ (QcF := fun A => va_Qv (fun u : (Nat) × (Nat → Int32) => u = f_X12_forgetServer f_cameSize) (fun u => BG D ct A [(a_this, .inr (12, mfs ad v_thrown v_connections (nI v_size) (nI v_ids) (nI v_dataAll) (nI v_putCount) (nI u.1) (nI v_readSize) v_power v_left v_since v_changes (nI v_rowSize))), (ad 6, .inl (ct 0, 2, .inl u.2))]) A) (by decide) (Nat.le_of_ble_eq_true rfl) ?_
  intro p e s m below meth c A X hnm
  obtain ⟨Q, hQ⟩ : ∃ Q, Q = MQ below (va_Qv (fun u : (Nat) × (Nat → Int32) => u = f_X12_forgetServer f_cameSize) (fun u => BG D ct A [(a_this, .inr (12, mfs ad v_thrown v_connections (nI v_size) (nI v_ids) (nI v_dataAll) (nI v_putCount) (nI u.1) (nI v_readSize) v_power v_left v_since v_changes (nI v_rowSize))), (ad 6, .inl (ct 0, 2, .inl u.2))]) A) [.ref a_this].toArray s 0 0 A := ⟨_, rfl⟩
  rw [← hQ]
  refine j_lve (lv' := [(0, .ref a_this)]) rfl ?_
  refine j_aload_n X 0 dX12_forgetServer_0 rfl (q := 1) rfl ?_
  refine j_get (f := 6) X 0 inT12 rfl rfl (by decide) mw_X12_forgetServer_0 rfl dX12_forgetServer_1 (q := 4) rfl ?_
  refine j_iconst (v := nI 1) X dX12_forgetServer_4 (by decide) (q := 5) rfl ?_
  refine j_iconst (v := nI 0) X dX12_forgetServer_5 (by decide) (q := 6) rfl ?_
  refine k_iast (ws2 := [(a_this, .inr (12, mfs ad v_thrown v_connections (nI v_size) (nI v_ids) (nI v_dataAll) (nI v_putCount) (nI v_waiting) (nI v_readSize) v_power v_left v_since v_changes (nI v_rowSize))), (ad 6, .inl (ct 0, 2, .inl (upd f_cameSize 1 (nI 0))))]) X 1 rfl (vp_in_nI (by omega) (by omega)) (nI_clamp (by omega)) dX12_forgetServer_6 rfl (q := 7) rfl ?_
  refine j_aload_n X 0 dX12_forgetServer_7 rfl (q := 8) rfl ?_
  refine j_iconst (v := nI 0) X dX12_forgetServer_8 (by decide) (q := 9) rfl ?_
  refine j_put (f := 25) (ws2 := [(a_this, .inr (12, mfs ad v_thrown v_connections (nI v_size) (nI v_ids) (nI v_dataAll) (nI v_putCount) (nI 0) (nI v_readSize) v_power v_left v_since v_changes (nI v_rowSize))), (ad 6, .inl (ct 0, 2, .inl (upd f_cameSize 1 (nI 0))))]) (ty := .int) X 0 inT12 tyX12_ok nmX12 rfl rfl (by decide) mw_X12_forgetServer_1 rfl rfl rfl rfl (Nat.le_of_ble_eq_true rfl) dX12_forgetServer_9 rfl (q := 12) rfl ?_
  rw [hQ]
  exact j_vret X ((0, upd f_cameSize 1 (nI 0))) dX12_forgetServer_12 rfl rfl
theorem cal_X12_forgetServer : Cal yX12_forgetServer cX12_forgetServer 1 none 0 := ⟨tb_at 120 (by decide +kernel) (by decide +kernel), tb_at 1489 (by decide +kernel) (by decide +kernel), by decide +kernel, by decide +kernel, by decide +kernel⟩
theorem cwi_X12_forgetServer : Cond.instanceMethod yX12_forgetServer ∈ tb := tb_at 1488 (by decide +kernel) (by decide +kernel)
theorem cws_X12_forgetServer : Cond.selects yX12_forgetServer.cls yX12_forgetServer yX12_forgetServer ∈ tb := tb_at 50 (by decide +kernel) (by decide +kernel)
