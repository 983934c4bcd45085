theorem mw_K_18 : Cond.methodLink "GuardedTreeLaw" 84 yL_way ∈ tb := tb_at 822 (by decide +kernel) (by decide +kernel)
theorem mw_K_19 : Cond.methodLink "GuardedTreeLaw" 86 yX12_way ∈ tb := tb_at 1616 (by decide +kernel) (by decide +kernel)
theorem mw_K_20 : Cond.methodLink "GuardedTreeLaw" 69 yX12_thrown ∈ tb := tb_at 1470 (by decide +kernel) (by decide +kernel)
set_option maxHeartbeats 4000000 in
set_option maxRecDepth 100000 in
theorem k_way {p : Program} {l : Launch} {e : Env} {s : State} {m : MethodId} {b : Nat} {below : List Frame} {meth : Method} {c : Code} {D : va_G} {ct : Nat → ClassId} {ts : Nat → Nat} {A : Nat → Prop} {xs : Nat → Int32} {a_m a_out a_this a_this_clientSide a_this_serverSide a_this_toClient a_this_toServer a_this_toServer_bytes : Nat} {ad : Nat → Nat} {m_changes : Int32} {m_connections : Int32} {m_dataAll : Nat} {m_ids : Nat} {m_left : Int32} {m_power : Int32} {m_putCount : Nat} {m_readSize : Nat} {m_rowSize : Nat} {m_since : Int32} {m_size : Nat} {m_thrown : Int32} {m_waiting : Nat} {m_waySize : Nat → Int32} {v_connections : Int32} {v_toServer_size : Nat} {g_out : Nat → Int64} (Y : LX p l s m meth c D ct ts A b xs) (c_h_x : (xs 1) = nI 0) (e_v_toServer_size : v_toServer_size = 0) (e_m_waySize : m_waySize = fun _ => 0) (kend : LJ p l e s m b below meth c D A 600002 7302232 [] [(0, .ref b), (4, .int (nI 0))] [] 775) : LJ p l e s m b below meth c D A 190 418642 [(a_this, .inr (11, [.ref a_this_clientSide, .ref a_this_serverSide, .ref a_this_toServer, .ref a_this_toClient, .int v_connections])), (a_this_toServer, .inr (6, [.ref a_this_toServer_bytes, .int (nI v_toServer_size)])), (a_m, .inr (12, mfs ad m_thrown m_connections (nI m_size) (nI m_ids) (nI m_dataAll) (nI m_putCount) (nI m_waiting) (nI m_readSize) m_power m_left m_since m_changes (nI m_rowSize))), (ad 8, .inl (ct 0, 2, .inl m_waySize)), (a_out, .inl (ct 3, 1, .inr (.inl g_out)))] [(4, .int (nI 0)), (3, .ref a_out), (2, .ref a_m), (1, .ref a_this), (0, .ref b)] [] 460 := by
  obtain ⟨X, hT, hX, hbl, hbA, hl⟩ := Y
  refine j_aload_n X 3 dL_law_460 rfl (q := 461) rfl ?_
  refine j_aload_n X 4 dL_law_461 rfl (q := 462) rfl ?_
  refine j_iload X 0 dL_law_462 rfl (q := 464) rfl ?_
  refine j_iconst (v := nI 1) X dL_law_464 (by decide) (q := 465) rfl ?_
  refine j_iadd X dL_law_465 (q := 466) rfl ?_
  refine j_eqi (show nI 0 + nI 1 = nI 1 by decide) ?_
  refine j_sld (j := 1) X hX hbl hbA (vp_in_nI (by omega) (by omega)) (nI_clamp (by omega)) dL_law_466 (q := 467) rfl ?_
  refine j_aload_n X 1 dL_law_467 rfl (q := 468) rfl ?_
  refine j_callHi (As := [.ref a_this, .int (xs 1), .ref a_out]) (rest := []) (wn := fun _ => [(a_m, .inr (12, mfs ad m_thrown m_connections (nI m_size) (nI m_ids) (nI m_dataAll) (nI m_putCount) (nI m_waiting) (nI m_readSize) m_power m_left m_since m_changes (nI m_rowSize))), (ad 8, .inl (ct 0, 2, .inl m_waySize)), (a_out, .inl (ct 3, 1, .inr (.inl (vp_updL g_out 0 (Int32.toInt64 (f_X11_way v_toServer_size))))))]) (wr := [(a_m, .inr (12, mfs ad m_thrown m_connections (nI m_size) (nI m_ids) (nI m_dataAll) (nI m_putCount) (nI m_waiting) (nI m_readSize) m_power m_left m_since m_changes (nI m_rowSize))), (ad 8, .inl (ct 0, 2, .inl m_waySize))]) X hT (fun sz => c_L_way l D ct ts a_this a_this_toServer a_this_clientSide a_this_serverSide a_this_toClient a_this_toServer_bytes a_out v_connections v_toServer_size ((xs 1)) g_out c_h_x sz) cal_L_way mw_K_18 cwt_L_way rfl ⟨by decide, by decide⟩ rfl rfl (Nat.le_of_ble_eq_true rfl) ⟨by decide, by decide⟩ [0, 1, 4] [2, 3] [0, 1, 2] rfl (by decide) rfl (by decide) (by decide) (fun _ => rfl) (by decide) dL_law_468 (q := 471) rfl (fun r0 u0 hu0 => ?_)
  have hu0 : r0 = nI 0 := hu0
  subst hu0
  refine j_istore (lv' := [(5, .int (nI 0)), (4, .int (nI 0)), (3, .ref a_out), (2, .ref a_m), (1, .ref a_this), (0, .ref b)]) X dL_law_471 (by decide) rfl (q := 473) rfl ?_
  refine j_aload_n X 3 dL_law_473 rfl (q := 474) rfl ?_
  refine j_aload_n X 5 dL_law_474 rfl (q := 475) rfl ?_
  refine j_iload X 1 dL_law_475 rfl (q := 477) rfl ?_
  refine j_iconst (v := nI 1) X dL_law_477 (by decide) (q := 478) rfl ?_
  refine j_iadd X dL_law_478 (q := 479) rfl ?_
  refine j_eqi (show nI 0 + nI 1 = nI 1 by decide) ?_
  refine j_sld (j := 1) X hX hbl hbA (vp_in_nI (by omega) (by omega)) (nI_clamp (by omega)) dL_law_479 (q := 480) rfl ?_
  refine j_callVi (As := [.int (xs 1)]) (rest := []) (wn := fun u2 => [(a_m, .inr (12, mfs ad u2 m_connections (nI m_size) (nI m_ids) (nI m_dataAll) (nI m_putCount) (nI m_waiting) (nI m_readSize) m_power m_left m_since m_changes (nI m_rowSize))), (a_out, .inl (ct 3, 1, .inr (.inl (vp_updL g_out 0 (Int32.toInt64 (f_X11_way v_toServer_size))))))]) (wr := [(a_out, .inl (ct 3, 1, .inr (.inl (vp_updL g_out 0 (Int32.toInt64 (f_X11_way v_toServer_size))))))]) X (fun sz => c_X12_way l D ct ts a_m ad m_thrown m_connections m_size m_ids m_dataAll m_putCount m_waiting m_readSize m_power m_left m_since m_changes m_rowSize m_waySize ((xs 1)) sz) cal_X12_way 0 rfl rfl mw_K_19 cwi_X12_way cws_X12_way rfl ⟨by decide, by decide⟩ rfl rfl (Nat.le_of_ble_eq_true rfl) ⟨by decide, by decide⟩ [0, 1] [2] [1, 0] rfl (by decide) rfl (by decide) (by decide) (fun _ => rfl) (by decide) dL_law_480 (q := 483) rfl (fun r2 u2 hu2 => ?_)
  have ht2 : u2 = (f_X12_way m_waySize ((xs 1))).2 := congrArg (fun z => z.2) hu2
  have er2 : r2 = (f_X12_way m_waySize ((xs 1))).1 := congrArg Prod.fst hu2
  obtain ⟨tv, htv⟩ : ∃ tv : Int32, tv = u2 := ⟨_, rfl⟩
  refine j_ws (ws2 := [(a_m, .inr (12, mfs ad tv m_connections (nI m_size) (nI m_ids) (nI m_dataAll) (nI m_putCount) (nI m_waiting) (nI m_readSize) m_power m_left m_since m_changes (nI m_rowSize))), (a_out, .inl (ct 3, 1, .inr (.inl (vp_updL g_out 0 (Int32.toInt64 (f_X11_way v_toServer_size))))))]) (by rw [htv]) ?_
  have hk2 : tv = nI 0 := htv.trans (ht2.trans (by rw [c_h_x, e_m_waySize]; rfl))
  have hb2 : r2 = nI 0 := er2.trans (by rw [c_h_x, e_m_waySize]; rfl)
  refine j_eqi hb2 ?_
  refine j_istore (lv' := [(6, .int (nI 0)), (5, .int (nI 0)), (4, .int (nI 0)), (3, .ref a_out), (2, .ref a_m), (1, .ref a_this), (0, .ref b)]) X dL_law_483 (by decide) rfl (q := 485) rfl ?_
  refine j_aload_n X 4 dL_law_485 rfl (q := 486) rfl ?_
  refine j_callVi (As := []) (rest := []) (wn := fun _ => [(a_out, .inl (ct 3, 1, .inr (.inl (vp_updL g_out 0 (Int32.toInt64 (f_X11_way v_toServer_size))))))]) (wr := [(a_out, .inl (ct 3, 1, .inr (.inl (vp_updL g_out 0 (Int32.toInt64 (f_X11_way v_toServer_size))))))]) X (fun sz => c_X12_thrown l D ct ts a_m ad tv m_connections m_size m_ids m_dataAll m_putCount m_waiting m_readSize m_power m_left m_since m_changes m_rowSize sz) cal_X12_thrown 0 rfl rfl mw_K_20 cwi_X12_thrown cws_X12_thrown rfl ⟨by decide, by decide⟩ rfl rfl (Nat.le_of_ble_eq_true rfl) ⟨by decide, by decide⟩ [0] [1] [0] rfl (by decide) rfl (by decide) (by decide) (fun _ => rfl) (by decide) dL_law_486 (q := 489) rfl (fun r2 u2 hu2 => ?_)
  have er2 : r2 = f_X12_thrown tv := hu2
  refine j_eqi er2 ?_
  refine j_iload X 1 dL_law_489 rfl (q := 491) rfl ?_
  refine j_icmp_eq (tgt := 496) X dL_law_491 (by decide) (q := 494) rfl (fun _ => ?_) (fun hne => absurd (show (f_X12_thrown tv) = (nI 0) from hk2) hne)
  refine j_iload X 1 dL_law_496 rfl (q := 498) rfl ?_
  refine j_if_ne (tgt := 513) X dL_law_498 (by decide) (q := 501) rfl (fun hne => absurd (by decide) hne) (fun _ => ?_)
  refine j_aload_n X 3 dL_law_501 rfl (q := 502) rfl ?_
  refine j_iconst (v := nI 0) X dL_law_502 (by decide) (q := 503) rfl ?_
  refine j_lald X 0 rfl (vp_in_nI (by omega) (by omega)) dL_law_503 (q := 504) rfl ?_
  refine j_iload X 0 dL_law_504 rfl (q := 506) rfl ?_
  refine j_i2l X dL_law_506 (q := 507) rfl ?_
  refine j_lcmp X dL_law_507 (q := 508) rfl ?_
  refine j_if_eq (tgt := 513) X dL_law_508 (by decide) (q := 511) rfl (fun _ => ?_) (fun hne => absurd (show (lg_cmp (((vp_updL g_out 0 (Int32.toInt64 (f_X11_way v_toServer_size))) (nI 0).toNatClampNeg)) ((Int32.toInt64 ((nI 0))))) = 0 from by rw [e_v_toServer_size]; exact lgc) hne)
  refine j_goto (tgt := 775) X dL_law_513 (by decide) ?_
  refine j_perm (ws2 := []) [] rfl rfl ?_
  refine j_lv (lv' := [(0, .ref b), (4, .int (nI 0))]) [6, 2] rfl ?_
  refine j_wid (a := 600002) (b := 7302232) (by decide) (by decide) ?_
  exact kend
set_option maxHeartbeats 4000000 in
set_option maxRecDepth 100000 in
theorem k_way_1 {p : Program} {l : Launch} {e : Env} {s : State} {m : MethodId} {b : Nat} {below : List Frame} {meth : Method} {c : Code} {D : va_G} {ct : Nat → ClassId} {ts : Nat → Nat} {A : Nat → Prop} {xs : Nat → Int32} {a_m a_out a_this a_this_clientSide a_this_serverSide a_this_toClient a_this_toClient_bytes a_this_toServer : Nat} {ad : Nat → Nat} {m_changes : Int32} {m_connections : Int32} {m_dataAll : Nat} {m_ids : Nat} {m_left : Int32} {m_power : Int32} {m_putCount : Nat} {m_readSize : Nat} {m_rowSize : Nat} {m_since : Int32} {m_size : Nat} {m_thrown : Int32} {m_waiting : Nat} {m_waySize : Nat → Int32} {v_connections : Int32} {v_toClient_size : Nat} {g_out : Nat → Int64} (Y : LX p l s m meth c D ct ts A b xs) (c_h_x : (xs 1) = nI 1) (e_v_toClient_size : v_toClient_size = 0) (e_m_waySize : m_waySize = fun _ => 0) (kend : LJ p l e s m b below meth c D A 600002 7302232 [] [(0, .ref b), (4, .int (nI 0))] [] 775) : LJ p l e s m b below meth c D A 190 418642 [(a_this, .inr (11, [.ref a_this_clientSide, .ref a_this_serverSide, .ref a_this_toServer, .ref a_this_toClient, .int v_connections])), (a_this_toClient, .inr (6, [.ref a_this_toClient_bytes, .int (nI v_toClient_size)])), (a_m, .inr (12, mfs ad m_thrown m_connections (nI m_size) (nI m_ids) (nI m_dataAll) (nI m_putCount) (nI m_waiting) (nI m_readSize) m_power m_left m_since m_changes (nI m_rowSize))), (ad 8, .inl (ct 0, 2, .inl m_waySize)), (a_out, .inl (ct 3, 1, .inr (.inl g_out)))] [(4, .int (nI 0)), (3, .ref a_out), (2, .ref a_m), (1, .ref a_this), (0, .ref b)] [] 460 := by
  obtain ⟨X, hT, hX, hbl, hbA, hl⟩ := Y
  refine j_aload_n X 3 dL_law_460 rfl (q := 461) rfl ?_
  refine j_aload_n X 4 dL_law_461 rfl (q := 462) rfl ?_
  refine j_iload X 0 dL_law_462 rfl (q := 464) rfl ?_
  refine j_iconst (v := nI 1) X dL_law_464 (by decide) (q := 465) rfl ?_
  refine j_iadd X dL_law_465 (q := 466) rfl ?_
  refine j_eqi (show nI 0 + nI 1 = nI 1 by decide) ?_
  refine j_sld (j := 1) X hX hbl hbA (vp_in_nI (by omega) (by omega)) (nI_clamp (by omega)) dL_law_466 (q := 467) rfl ?_
  refine j_aload_n X 1 dL_law_467 rfl (q := 468) rfl ?_
  refine j_callHi (As := [.ref a_this, .int (xs 1), .ref a_out]) (rest := []) (wn := fun _ => [(a_m, .inr (12, mfs ad m_thrown m_connections (nI m_size) (nI m_ids) (nI m_dataAll) (nI m_putCount) (nI m_waiting) (nI m_readSize) m_power m_left m_since m_changes (nI m_rowSize))), (ad 8, .inl (ct 0, 2, .inl m_waySize)), (a_out, .inl (ct 3, 1, .inr (.inl (vp_updL g_out 0 (Int32.toInt64 (f_X11_way_1 v_toClient_size))))))]) (wr := [(a_m, .inr (12, mfs ad m_thrown m_connections (nI m_size) (nI m_ids) (nI m_dataAll) (nI m_putCount) (nI m_waiting) (nI m_readSize) m_power m_left m_since m_changes (nI m_rowSize))), (ad 8, .inl (ct 0, 2, .inl m_waySize))]) X hT (fun sz => c_L_way_1 l D ct ts a_this a_this_toClient a_this_clientSide a_this_serverSide a_this_toServer a_this_toClient_bytes a_out v_connections v_toClient_size ((xs 1)) g_out c_h_x sz) cal_L_way mw_K_18 cwt_L_way rfl ⟨by decide, by decide⟩ rfl rfl (Nat.le_of_ble_eq_true rfl) ⟨by decide, by decide⟩ [0, 1, 4] [2, 3] [0, 1, 2] rfl (by decide) rfl (by decide) (by decide) (fun _ => rfl) (by decide) dL_law_468 (q := 471) rfl (fun r0 u0 hu0 => ?_)
  have hu0 : r0 = nI 0 := hu0
  subst hu0
  refine j_istore (lv' := [(5, .int (nI 0)), (4, .int (nI 0)), (3, .ref a_out), (2, .ref a_m), (1, .ref a_this), (0, .ref b)]) X dL_law_471 (by decide) rfl (q := 473) rfl ?_
  refine j_aload_n X 3 dL_law_473 rfl (q := 474) rfl ?_
  refine j_aload_n X 5 dL_law_474 rfl (q := 475) rfl ?_
  refine j_iload X 1 dL_law_475 rfl (q := 477) rfl ?_
  refine j_iconst (v := nI 1) X dL_law_477 (by decide) (q := 478) rfl ?_
  refine j_iadd X dL_law_478 (q := 479) rfl ?_
  refine j_eqi (show nI 0 + nI 1 = nI 1 by decide) ?_
  refine j_sld (j := 1) X hX hbl hbA (vp_in_nI (by omega) (by omega)) (nI_clamp (by omega)) dL_law_479 (q := 480) rfl ?_
  refine j_callVi (As := [.int (xs 1)]) (rest := []) (wn := fun u2 => [(a_m, .inr (12, mfs ad u2 m_connections (nI m_size) (nI m_ids) (nI m_dataAll) (nI m_putCount) (nI m_waiting) (nI m_readSize) m_power m_left m_since m_changes (nI m_rowSize))), (a_out, .inl (ct 3, 1, .inr (.inl (vp_updL g_out 0 (Int32.toInt64 (f_X11_way_1 v_toClient_size))))))]) (wr := [(a_out, .inl (ct 3, 1, .inr (.inl (vp_updL g_out 0 (Int32.toInt64 (f_X11_way_1 v_toClient_size))))))]) X (fun sz => c_X12_way l D ct ts a_m ad m_thrown m_connections m_size m_ids m_dataAll m_putCount m_waiting m_readSize m_power m_left m_since m_changes m_rowSize m_waySize ((xs 1)) sz) cal_X12_way 0 rfl rfl mw_K_19 cwi_X12_way cws_X12_way rfl ⟨by decide, by decide⟩ rfl rfl (Nat.le_of_ble_eq_true rfl) ⟨by decide, by decide⟩ [0, 1] [2] [1, 0] rfl (by decide) rfl (by decide) (by decide) (fun _ => rfl) (by decide) dL_law_480 (q := 483) rfl (fun r2 u2 hu2 => ?_)
  have ht2 : u2 = (f_X12_way m_waySize ((xs 1))).2 := congrArg (fun z => z.2) hu2
  have er2 : r2 = (f_X12_way m_waySize ((xs 1))).1 := congrArg Prod.fst hu2
  obtain ⟨tv, htv⟩ : ∃ tv : Int32, tv = u2 := ⟨_, rfl⟩
  refine j_ws (ws2 := [(a_m, .inr (12, mfs ad tv m_connections (nI m_size) (nI m_ids) (nI m_dataAll) (nI m_putCount) (nI m_waiting) (nI m_readSize) m_power m_left m_since m_changes (nI m_rowSize))), (a_out, .inl (ct 3, 1, .inr (.inl (vp_updL g_out 0 (Int32.toInt64 (f_X11_way_1 v_toClient_size))))))]) (by rw [htv]) ?_
  have hk2 : tv = nI 0 := htv.trans (ht2.trans (by rw [c_h_x, e_m_waySize]; rfl))
  have hb2 : r2 = nI 0 := er2.trans (by rw [c_h_x, e_m_waySize]; rfl)
  refine j_eqi hb2 ?_
  refine j_istore (lv' := [(6, .int (nI 0)), (5, .int (nI 0)), (4, .int (nI 0)), (3, .ref a_out), (2, .ref a_m), (1, .ref a_this), (0, .ref b)]) X dL_law_483 (by decide) rfl (q := 485) rfl ?_
  refine j_aload_n X 4 dL_law_485 rfl (q := 486) rfl ?_
  refine j_callVi (As := []) (rest := []) (wn := fun _ => [(a_out, .inl (ct 3, 1, .inr (.inl (vp_updL g_out 0 (Int32.toInt64 (f_X11_way_1 v_toClient_size))))))]) (wr := [(a_out, .inl (ct 3, 1, .inr (.inl (vp_updL g_out 0 (Int32.toInt64 (f_X11_way_1 v_toClient_size))))))]) X (fun sz => c_X12_thrown l D ct ts a_m ad tv m_connections m_size m_ids m_dataAll m_putCount m_waiting m_readSize m_power m_left m_since m_changes m_rowSize sz) cal_X12_thrown 0 rfl rfl mw_K_20 cwi_X12_thrown cws_X12_thrown rfl ⟨by decide, by decide⟩ rfl rfl (Nat.le_of_ble_eq_true rfl) ⟨by decide, by decide⟩ [0] [1] [0] rfl (by decide) rfl (by decide) (by decide) (fun _ => rfl) (by decide) dL_law_486 (q := 489) rfl (fun r2 u2 hu2 => ?_)
  have er2 : r2 = f_X12_thrown tv := hu2
  refine j_eqi er2 ?_
  refine j_iload X 1 dL_law_489 rfl (q := 491) rfl ?_
  refine j_icmp_eq (tgt := 496) X dL_law_491 (by decide) (q := 494) rfl (fun _ => ?_) (fun hne => absurd (show (f_X12_thrown tv) = (nI 0) from hk2) hne)
  refine j_iload X 1 dL_law_496 rfl (q := 498) rfl ?_
  refine j_if_ne (tgt := 513) X dL_law_498 (by decide) (q := 501) rfl (fun hne => absurd (by decide) hne) (fun _ => ?_)
  refine j_aload_n X 3 dL_law_501 rfl (q := 502) rfl ?_
  refine j_iconst (v := nI 0) X dL_law_502 (by decide) (q := 503) rfl ?_
  refine j_lald X 0 rfl (vp_in_nI (by omega) (by omega)) dL_law_503 (q := 504) rfl ?_
  refine j_iload X 0 dL_law_504 rfl (q := 506) rfl ?_
  refine j_i2l X dL_law_506 (q := 507) rfl ?_
  refine j_lcmp X dL_law_507 (q := 508) rfl ?_
  refine j_if_eq (tgt := 513) X dL_law_508 (by decide) (q := 511) rfl (fun _ => ?_) (fun hne => absurd (show (lg_cmp (((vp_updL g_out 0 (Int32.toInt64 (f_X11_way_1 v_toClient_size))) (nI 0).toNatClampNeg)) ((Int32.toInt64 ((nI 0))))) = 0 from by rw [e_v_toClient_size]; exact lgc) hne)
  refine j_goto (tgt := 775) X dL_law_513 (by decide) ?_
  refine j_perm (ws2 := []) [] rfl rfl ?_
  refine j_lv (lv' := [(0, .ref b), (4, .int (nI 0))]) [6, 2] rfl ?_
  refine j_wid (a := 600002) (b := 7302232) (by decide) (by decide) ?_
  exact kend
set_option maxHeartbeats 4000000 in
set_option maxRecDepth 100000 in
theorem k_way_b {p : Program} {l : Launch} {e : Env} {s : State} {m : MethodId} {b : Nat} {below : List Frame} {meth : Method} {c : Code} {D : va_G} {ct : Nat → ClassId} {ts : Nat → Nat} {A : Nat → Prop} {xs : Nat → Int32} {a_m a_out a_this a_this_clientSide a_this_serverSide a_this_toClient a_this_toServer : Nat} {ad : Nat → Nat} {m_changes : Int32} {m_connections : Int32} {m_dataAll : Nat} {m_ids : Nat} {m_left : Int32} {m_power : Int32} {m_putCount : Nat} {m_readSize : Nat} {m_rowSize : Nat} {m_since : Int32} {m_size : Nat} {m_thrown : Int32} {m_waiting : Nat} {m_waySize : Nat → Int32} {v_connections : Int32} {g_out : Nat → Int64} (Y : LX p l s m meth c D ct ts A b xs) (c_h_b : (xs 1) < 0 ∨ ¬ (xs 1) ≤ nI 1) (kend : LJ p l e s m b below meth c D A 600002 7302232 [] [(0, .ref b), (4, .int (nI 0))] [] 775) : LJ p l e s m b below meth c D A 190 418642 [(a_this, .inr (11, [.ref a_this_clientSide, .ref a_this_serverSide, .ref a_this_toServer, .ref a_this_toClient, .int v_connections])), (a_m, .inr (12, mfs ad m_thrown m_connections (nI m_size) (nI m_ids) (nI m_dataAll) (nI m_putCount) (nI m_waiting) (nI m_readSize) m_power m_left m_since m_changes (nI m_rowSize))), (ad 8, .inl (ct 0, 2, .inl m_waySize)), (a_out, .inl (ct 3, 1, .inr (.inl g_out)))] [(4, .int (nI 0)), (3, .ref a_out), (2, .ref a_m), (1, .ref a_this), (0, .ref b)] [] 460 := by
  obtain ⟨X, hT, hX, hbl, hbA, hl⟩ := Y
  refine j_aload_n X 3 dL_law_460 rfl (q := 461) rfl ?_
  refine j_aload_n X 4 dL_law_461 rfl (q := 462) rfl ?_
  refine j_iload X 0 dL_law_462 rfl (q := 464) rfl ?_
  refine j_iconst (v := nI 1) X dL_law_464 (by decide) (q := 465) rfl ?_
  refine j_iadd X dL_law_465 (q := 466) rfl ?_
  refine j_eqi (show nI 0 + nI 1 = nI 1 by decide) ?_
  refine j_sld (j := 1) X hX hbl hbA (vp_in_nI (by omega) (by omega)) (nI_clamp (by omega)) dL_law_466 (q := 467) rfl ?_
  refine j_aload_n X 1 dL_law_467 rfl (q := 468) rfl ?_
  refine j_callHi (As := [.ref a_this, .int (xs 1), .ref a_out]) (rest := []) (wn := fun _ => [(a_m, .inr (12, mfs ad m_thrown m_connections (nI m_size) (nI m_ids) (nI m_dataAll) (nI m_putCount) (nI m_waiting) (nI m_readSize) m_power m_left m_since m_changes (nI m_rowSize))), (ad 8, .inl (ct 0, 2, .inl m_waySize)), (a_out, .inl (ct 3, 1, .inr (.inl g_out)))]) (wr := [(a_m, .inr (12, mfs ad m_thrown m_connections (nI m_size) (nI m_ids) (nI m_dataAll) (nI m_putCount) (nI m_waiting) (nI m_readSize) m_power m_left m_since m_changes (nI m_rowSize))), (ad 8, .inl (ct 0, 2, .inl m_waySize))]) X hT (fun sz => c_L_way_b l D ct ts hl a_this a_this_clientSide a_this_serverSide a_this_toServer a_this_toClient a_out v_connections ((xs 1)) g_out c_h_b sz) cal_L_way mw_K_18 cwt_L_way rfl ⟨by decide, by decide⟩ rfl rfl (Nat.le_of_ble_eq_true rfl) ⟨by decide, by decide⟩ [0, 3] [1, 2] [0, 1, 2] rfl (by decide) rfl (by decide) (by decide) (fun _ => rfl) (by decide) dL_law_468 (q := 471) rfl (fun r0 u0 hu0 => ?_)
  have hu0 : r0 = nI 1 := hu0
  subst hu0
  refine j_istore (lv' := [(5, .int (nI 1)), (4, .int (nI 0)), (3, .ref a_out), (2, .ref a_m), (1, .ref a_this), (0, .ref b)]) X dL_law_471 (by decide) rfl (q := 473) rfl ?_
  refine j_aload_n X 3 dL_law_473 rfl (q := 474) rfl ?_
  refine j_aload_n X 5 dL_law_474 rfl (q := 475) rfl ?_
  refine j_iload X 1 dL_law_475 rfl (q := 477) rfl ?_
  refine j_iconst (v := nI 1) X dL_law_477 (by decide) (q := 478) rfl ?_
  refine j_iadd X dL_law_478 (q := 479) rfl ?_
  refine j_eqi (show nI 0 + nI 1 = nI 1 by decide) ?_
  refine j_sld (j := 1) X hX hbl hbA (vp_in_nI (by omega) (by omega)) (nI_clamp (by omega)) dL_law_479 (q := 480) rfl ?_
  refine j_callVi (As := [.int (xs 1)]) (rest := []) (wn := fun u2 => [(a_m, .inr (12, mfs ad u2 m_connections (nI m_size) (nI m_ids) (nI m_dataAll) (nI m_putCount) (nI m_waiting) (nI m_readSize) m_power m_left m_since m_changes (nI m_rowSize))), (a_out, .inl (ct 3, 1, .inr (.inl g_out)))]) (wr := [(a_out, .inl (ct 3, 1, .inr (.inl g_out)))]) X (fun sz => c_X12_way l D ct ts a_m ad m_thrown m_connections m_size m_ids m_dataAll m_putCount m_waiting m_readSize m_power m_left m_since m_changes m_rowSize m_waySize ((xs 1)) sz) cal_X12_way 0 rfl rfl mw_K_19 cwi_X12_way cws_X12_way rfl ⟨by decide, by decide⟩ rfl rfl (Nat.le_of_ble_eq_true rfl) ⟨by decide, by decide⟩ [0, 1] [2] [1, 0] rfl (by decide) rfl (by decide) (by decide) (fun _ => rfl) (by decide) dL_law_480 (q := 483) rfl (fun r2 u2 hu2 => ?_)
  have ht2 : u2 = (f_X12_way m_waySize ((xs 1))).2 := congrArg (fun z => z.2) hu2
  have er2 : r2 = (f_X12_way m_waySize ((xs 1))).1 := congrArg Prod.fst hu2
  obtain ⟨tv, htv⟩ : ∃ tv : Int32, tv = u2 := ⟨_, rfl⟩
  refine j_ws (ws2 := [(a_m, .inr (12, mfs ad tv m_connections (nI m_size) (nI m_ids) (nI m_dataAll) (nI m_putCount) (nI m_waiting) (nI m_readSize) m_power m_left m_since m_changes (nI m_rowSize))), (a_out, .inl (ct 3, 1, .inr (.inl g_out)))]) (by rw [htv]) ?_
  have hk2 : tv = nI 1 := htv.trans (ht2.trans (by rw [mw_b c_h_b]))
  have hb2 : r2 = nI 0 := er2.trans (by rw [mw_b c_h_b])
  refine j_eqi hb2 ?_
  refine j_istore (lv' := [(6, .int (nI 0)), (5, .int (nI 1)), (4, .int (nI 0)), (3, .ref a_out), (2, .ref a_m), (1, .ref a_this), (0, .ref b)]) X dL_law_483 (by decide) rfl (q := 485) rfl ?_
  refine j_aload_n X 4 dL_law_485 rfl (q := 486) rfl ?_
  refine j_callVi (As := []) (rest := []) (wn := fun _ => [(a_out, .inl (ct 3, 1, .inr (.inl g_out)))]) (wr := [(a_out, .inl (ct 3, 1, .inr (.inl g_out)))]) X (fun sz => c_X12_thrown l D ct ts a_m ad tv m_connections m_size m_ids m_dataAll m_putCount m_waiting m_readSize m_power m_left m_since m_changes m_rowSize sz) cal_X12_thrown 0 rfl rfl mw_K_20 cwi_X12_thrown cws_X12_thrown rfl ⟨by decide, by decide⟩ rfl rfl (Nat.le_of_ble_eq_true rfl) ⟨by decide, by decide⟩ [0] [1] [0] rfl (by decide) rfl (by decide) (by decide) (fun _ => rfl) (by decide) dL_law_486 (q := 489) rfl (fun r2 u2 hu2 => ?_)
  have er2 : r2 = f_X12_thrown tv := hu2
  refine j_eqi er2 ?_
  refine j_iload X 1 dL_law_489 rfl (q := 491) rfl ?_
  refine j_icmp_eq (tgt := 496) X dL_law_491 (by decide) (q := 494) rfl (fun _ => ?_) (fun hne => absurd (show (f_X12_thrown tv) = (nI 1) from hk2) hne)
  refine j_iload X 1 dL_law_496 rfl (q := 498) rfl ?_
  refine j_if_ne (tgt := 513) X dL_law_498 (by decide) (q := 501) rfl (fun _ => ?_) (fun hne => absurd hne (by decide))
  refine j_goto (tgt := 775) X dL_law_513 (by decide) ?_
  refine j_perm (ws2 := []) [] rfl rfl ?_
  refine j_lv (lv' := [(0, .ref b), (4, .int (nI 0))]) [6, 2] rfl ?_
  refine j_wid (a := 600002) (b := 7302232) (by decide) (by decide) ?_
  exact kend
theorem mw_K_21 : Cond.methodLink "GuardedTreeLaw" 80 yL_credit ∈ tb := tb_at 815 (by decide +kernel) (by decide +kernel)
theorem mw_K_22 : Cond.methodLink "GuardedTreeLaw" 83 yX12_credit ∈ tb := tb_at 1612 (by decide +kernel) (by decide +kernel)
set_option maxHeartbeats 4000000 in
set_option maxRecDepth 100000 in
theorem k_credit {p : Program} {l : Launch} {e : Env} {s : State} {m : MethodId} {b : Nat} {below : List Frame} {meth : Method} {c : Code} {D : va_G} {ct : Nat → ClassId} {ts : Nat → Nat} {A : Nat → Prop} {xs : Nat → Int32} {a_m a_out a_this a_this_clientSide a_this_clientSide_agreement a_this_clientSide_in a_this_clientSide_out a_this_clientSide_requests a_this_clientSide_words a_this_serverSide a_this_toClient a_this_toServer : Nat} {ad : Nat → Nat} {m_changes : Int32} {m_connections : Int32} {m_credit : Nat → Int32} {m_dataAll : Nat} {m_ids : Nat} {m_left : Int32} {m_power : Int32} {m_putCount : Nat} {m_readSize : Nat} {m_rowSize : Nat} {m_since : Int32} {m_size : Nat} {m_state : Nat → Int32} {m_thrown : Int32} {m_waiting : Nat} {v_clientSide_asked : Nat} {v_clientSide_state : Int32} {v_clientSide_ungranted : Int32} {v_clientSide_wordCount : Nat} {v_connections : Int32} {g_out : Nat → Int64} (Y : LX p l s m meth c D ct ts A b xs) (c_h_x : (xs 1) = nI 0) (c_h_st : v_clientSide_state = nI 0) (e_m_state : m_state = fun _ => 0) (kend : LJ p l e s m b below meth c D A 600002 7302232 [] [(0, .ref b), (4, .int (nI 0))] [] 775) : LJ p l e s m b below meth c D A 190 418642 [(a_this, .inr (11, [.ref a_this_clientSide, .ref a_this_serverSide, .ref a_this_toServer, .ref a_this_toClient, .int v_connections])), (a_this_clientSide, .inr (3, [.ref a_this_clientSide_agreement, .ref a_this_clientSide_in, .ref a_this_clientSide_out, .ref a_this_clientSide_requests, .ref a_this_clientSide_words, .int v_clientSide_state, .int (nI v_clientSide_asked), .int (nI v_clientSide_wordCount), .int v_clientSide_ungranted])), (a_m, .inr (12, mfs ad m_thrown m_connections (nI m_size) (nI m_ids) (nI m_dataAll) (nI m_putCount) (nI m_waiting) (nI m_readSize) m_power m_left m_since m_changes (nI m_rowSize))), (ad 2, .inl (ct 0, 2, .inl m_state)), (ad 3, .inl (ct 0, 2, .inl m_credit)), (a_out, .inl (ct 3, 1, .inr (.inl g_out)))] [(4, .int (nI 0)), (3, .ref a_out), (2, .ref a_m), (1, .ref a_this), (0, .ref b)] [] 404 := by
  obtain ⟨X, hT, hX, hbl, hbA, hl⟩ := Y
  refine j_aload_n X 3 dL_law_404 rfl (q := 405) rfl ?_
  refine j_aload_n X 4 dL_law_405 rfl (q := 406) rfl ?_
  refine j_iload X 0 dL_law_406 rfl (q := 408) rfl ?_
  refine j_iconst (v := nI 1) X dL_law_408 (by decide) (q := 409) rfl ?_
  refine j_iadd X dL_law_409 (q := 410) rfl ?_
  refine j_eqi (show nI 0 + nI 1 = nI 1 by decide) ?_
  refine j_sld (j := 1) X hX hbl hbA (vp_in_nI (by omega) (by omega)) (nI_clamp (by omega)) dL_law_410 (q := 411) rfl ?_
  refine j_aload_n X 1 dL_law_411 rfl (q := 412) rfl ?_
  refine j_callHi (As := [.ref a_this, .int (xs 1), .ref a_out]) (rest := []) (wn := fun _ => [(a_m, .inr (12, mfs ad m_thrown m_connections (nI m_size) (nI m_ids) (nI m_dataAll) (nI m_putCount) (nI m_waiting) (nI m_readSize) m_power m_left m_since m_changes (nI m_rowSize))), (ad 2, .inl (ct 0, 2, .inl m_state)), (ad 3, .inl (ct 0, 2, .inl m_credit)), (a_out, .inl (ct 3, 1, .inr (.inl (vp_updL g_out 0 (Int32.toInt64 (f_X11_credit ))))))]) (wr := [(a_m, .inr (12, mfs ad m_thrown m_connections (nI m_size) (nI m_ids) (nI m_dataAll) (nI m_putCount) (nI m_waiting) (nI m_readSize) m_power m_left m_since m_changes (nI m_rowSize))), (ad 2, .inl (ct 0, 2, .inl m_state)), (ad 3, .inl (ct 0, 2, .inl m_credit))]) X hT (fun sz => c_L_credit l D ct ts a_this a_this_clientSide a_this_serverSide a_this_toServer a_this_toClient a_this_clientSide_agreement a_this_clientSide_in a_this_clientSide_out a_this_clientSide_requests a_this_clientSide_words a_out v_connections v_clientSide_state v_clientSide_asked v_clientSide_wordCount v_clientSide_ungranted ((xs 1)) g_out c_h_x c_h_st sz) cal_L_credit mw_K_21 cwt_L_credit rfl ⟨by decide, by decide⟩ rfl rfl (Nat.le_of_ble_eq_true rfl) ⟨by decide, by decide⟩ [0, 1, 5] [2, 3, 4] [0, 1, 2, 3] rfl (by decide) rfl (by decide) (by decide) (fun _ => rfl) (by decide) dL_law_412 (q := 415) rfl (fun r0 u0 hu0 => ?_)
  have hu0 : r0 = nI 0 := hu0
  subst hu0
  refine j_istore (lv' := [(5, .int (nI 0)), (4, .int (nI 0)), (3, .ref a_out), (2, .ref a_m), (1, .ref a_this), (0, .ref b)]) X dL_law_415 (by decide) rfl (q := 417) rfl ?_
  refine j_aload_n X 3 dL_law_417 rfl (q := 418) rfl ?_
  refine j_aload_n X 5 dL_law_418 rfl (q := 419) rfl ?_
  refine j_iload X 1 dL_law_419 rfl (q := 421) rfl ?_
  refine j_iconst (v := nI 1) X dL_law_421 (by decide) (q := 422) rfl ?_
  refine j_iadd X dL_law_422 (q := 423) rfl ?_
  refine j_eqi (show nI 0 + nI 1 = nI 1 by decide) ?_
  refine j_sld (j := 1) X hX hbl hbA (vp_in_nI (by omega) (by omega)) (nI_clamp (by omega)) dL_law_423 (q := 424) rfl ?_
  refine j_callVi (As := [.int (xs 1)]) (rest := []) (wn := fun u2 => [(a_m, .inr (12, mfs ad u2 m_connections (nI m_size) (nI m_ids) (nI m_dataAll) (nI m_putCount) (nI m_waiting) (nI m_readSize) m_power m_left m_since m_changes (nI m_rowSize))), (a_out, .inl (ct 3, 1, .inr (.inl (vp_updL g_out 0 (Int32.toInt64 (f_X11_credit ))))))]) (wr := [(a_out, .inl (ct 3, 1, .inr (.inl (vp_updL g_out 0 (Int32.toInt64 (f_X11_credit ))))))]) X (fun sz => c_X12_credit l D ct ts a_m ad m_thrown m_connections m_size m_ids m_dataAll m_putCount m_waiting m_readSize m_power m_left m_since m_changes m_rowSize m_state m_credit ((xs 1)) sz) cal_X12_credit 0 rfl rfl mw_K_22 cwi_X12_credit cws_X12_credit rfl ⟨by decide, by decide⟩ rfl rfl (Nat.le_of_ble_eq_true rfl) ⟨by decide, by decide⟩ [0, 1, 2] [3] [1, 0] rfl (by decide) rfl (by decide) (by decide) (fun _ => rfl) (by decide) dL_law_424 (q := 427) rfl (fun r2 u2 hu2 => ?_)
  have ht2 : u2 = (f_X12_credit m_power m_state m_credit ((xs 1))).2 := congrArg (fun z => z.2) hu2
  have er2 : r2 = (f_X12_credit m_power m_state m_credit ((xs 1))).1 := congrArg Prod.fst hu2
  obtain ⟨tv, htv⟩ : ∃ tv : Int32, tv = u2 := ⟨_, rfl⟩
  refine j_ws (ws2 := [(a_m, .inr (12, mfs ad tv m_connections (nI m_size) (nI m_ids) (nI m_dataAll) (nI m_putCount) (nI m_waiting) (nI m_readSize) m_power m_left m_since m_changes (nI m_rowSize))), (a_out, .inl (ct 3, 1, .inr (.inl (vp_updL g_out 0 (Int32.toInt64 (f_X11_credit ))))))]) (by rw [htv]) ?_
  have hk2 : tv = nI 0 := htv.trans (ht2.trans (by rw [c_h_x, e_m_state]; rfl))
  have hb2 : r2 = nI 0 := er2.trans (by rw [c_h_x, e_m_state]; rfl)
  refine j_eqi hb2 ?_
  refine j_istore (lv' := [(6, .int (nI 0)), (5, .int (nI 0)), (4, .int (nI 0)), (3, .ref a_out), (2, .ref a_m), (1, .ref a_this), (0, .ref b)]) X dL_law_427 (by decide) rfl (q := 429) rfl ?_
  refine j_aload_n X 4 dL_law_429 rfl (q := 430) rfl ?_
  refine j_callVi (As := []) (rest := []) (wn := fun _ => [(a_out, .inl (ct 3, 1, .inr (.inl (vp_updL g_out 0 (Int32.toInt64 (f_X11_credit ))))))]) (wr := [(a_out, .inl (ct 3, 1, .inr (.inl (vp_updL g_out 0 (Int32.toInt64 (f_X11_credit ))))))]) X (fun sz => c_X12_thrown l D ct ts a_m ad tv m_connections m_size m_ids m_dataAll m_putCount m_waiting m_readSize m_power m_left m_since m_changes m_rowSize sz) cal_X12_thrown 0 rfl rfl mw_K_20 cwi_X12_thrown cws_X12_thrown rfl ⟨by decide, by decide⟩ rfl rfl (Nat.le_of_ble_eq_true rfl) ⟨by decide, by decide⟩ [0] [1] [0] rfl (by decide) rfl (by decide) (by decide) (fun _ => rfl) (by decide) dL_law_430 (q := 433) rfl (fun r2 u2 hu2 => ?_)
  have er2 : r2 = f_X12_thrown tv := hu2
  refine j_eqi er2 ?_
  refine j_iload X 1 dL_law_433 rfl (q := 435) rfl ?_
  refine j_icmp_eq (tgt := 440) X dL_law_435 (by decide) (q := 438) rfl (fun _ => ?_) (fun hne => absurd (show (f_X12_thrown tv) = (nI 0) from hk2) hne)
  refine j_iload X 1 dL_law_440 rfl (q := 442) rfl ?_
  refine j_if_ne (tgt := 457) X dL_law_442 (by decide) (q := 445) rfl (fun hne => absurd (by decide) hne) (fun _ => ?_)
  refine j_aload_n X 3 dL_law_445 rfl (q := 446) rfl ?_
  refine j_iconst (v := nI 0) X dL_law_446 (by decide) (q := 447) rfl ?_
  refine j_lald X 0 rfl (vp_in_nI (by omega) (by omega)) dL_law_447 (q := 448) rfl ?_
  refine j_iload X 0 dL_law_448 rfl (q := 450) rfl ?_
  refine j_i2l X dL_law_450 (q := 451) rfl ?_
  refine j_lcmp X dL_law_451 (q := 452) rfl ?_
  refine j_if_eq (tgt := 457) X dL_law_452 (by decide) (q := 455) rfl (fun _ => ?_) (fun hne => absurd (show (lg_cmp (((vp_updL g_out 0 (Int32.toInt64 (f_X11_credit ))) (nI 0).toNatClampNeg)) ((Int32.toInt64 ((nI 0))))) = 0 from lgc) hne)
  refine j_goto (tgt := 775) X dL_law_457 (by decide) ?_
  refine j_perm (ws2 := []) [] rfl rfl ?_
  refine j_lv (lv' := [(0, .ref b), (4, .int (nI 0))]) [6, 2] rfl ?_
  refine j_wid (a := 600002) (b := 7302232) (by decide) (by decide) ?_
  exact kend
set_option maxHeartbeats 4000000 in
set_option maxRecDepth 100000 in
theorem k_credit_1 {p : Program} {l : Launch} {e : Env} {s : State} {m : MethodId} {b : Nat} {below : List Frame} {meth : Method} {c : Code} {D : va_G} {ct : Nat → ClassId} {ts : Nat → Nat} {A : Nat → Prop} {xs : Nat → Int32} {a_m a_out a_this a_this_clientSide a_this_serverSide a_this_serverSide_agreement a_this_serverSide_answers a_this_serverSide_bytes a_this_serverSide_costs a_this_serverSide_counts a_this_serverSide_disk a_this_serverSide_in a_this_serverSide_numbers a_this_serverSide_out a_this_serverSide_tree a_this_toClient a_this_toServer : Nat} {ad : Nat → Nat} {m_changes : Int32} {m_connections : Int32} {m_credit : Nat → Int32} {m_dataAll : Nat} {m_ids : Nat} {m_left : Int32} {m_power : Int32} {m_putCount : Nat} {m_readSize : Nat} {m_rowSize : Nat} {m_since : Int32} {m_size : Nat} {m_state : Nat → Int32} {m_thrown : Int32} {m_waiting : Nat} {v_connections : Int32} {v_serverSide_answered : Int32} {v_serverSide_first : Nat} {v_serverSide_state : Int32} {v_serverSide_ungranted : Int32} {v_serverSide_waiting : Nat} {g_out : Nat → Int64} (Y : LX p l s m meth c D ct ts A b xs) (c_h_x : (xs 1) = nI 1) (c_h_st : v_serverSide_state = nI 0) (e_m_state : m_state = fun _ => 0) (kend : LJ p l e s m b below meth c D A 600002 7302232 [] [(0, .ref b), (4, .int (nI 0))] [] 775) : LJ p l e s m b below meth c D A 190 418642 [(a_this, .inr (11, [.ref a_this_clientSide, .ref a_this_serverSide, .ref a_this_toServer, .ref a_this_toClient, .int v_connections])), (a_this_serverSide, .inr (9, [.ref a_this_serverSide_agreement, .ref a_this_serverSide_in, .ref a_this_serverSide_out, .ref a_this_serverSide_tree, .ref a_this_serverSide_disk, .ref a_this_serverSide_numbers, .ref a_this_serverSide_answers, .ref a_this_serverSide_counts, .ref a_this_serverSide_costs, .ref a_this_serverSide_bytes, .int v_serverSide_state, .int (nI v_serverSide_first), .int (nI v_serverSide_waiting), .int v_serverSide_ungranted, .int v_serverSide_answered])), (a_m, .inr (12, mfs ad m_thrown m_connections (nI m_size) (nI m_ids) (nI m_dataAll) (nI m_putCount) (nI m_waiting) (nI m_readSize) m_power m_left m_since m_changes (nI m_rowSize))), (ad 2, .inl (ct 0, 2, .inl m_state)), (ad 3, .inl (ct 0, 2, .inl m_credit)), (a_out, .inl (ct 3, 1, .inr (.inl g_out)))] [(4, .int (nI 0)), (3, .ref a_out), (2, .ref a_m), (1, .ref a_this), (0, .ref b)] [] 404 := by
  obtain ⟨X, hT, hX, hbl, hbA, hl⟩ := Y
  refine j_aload_n X 3 dL_law_404 rfl (q := 405) rfl ?_
  refine j_aload_n X 4 dL_law_405 rfl (q := 406) rfl ?_
  refine j_iload X 0 dL_law_406 rfl (q := 408) rfl ?_
  refine j_iconst (v := nI 1) X dL_law_408 (by decide) (q := 409) rfl ?_
  refine j_iadd X dL_law_409 (q := 410) rfl ?_
  refine j_eqi (show nI 0 + nI 1 = nI 1 by decide) ?_
  refine j_sld (j := 1) X hX hbl hbA (vp_in_nI (by omega) (by omega)) (nI_clamp (by omega)) dL_law_410 (q := 411) rfl ?_
  refine j_aload_n X 1 dL_law_411 rfl (q := 412) rfl ?_
  refine j_callHi (As := [.ref a_this, .int (xs 1), .ref a_out]) (rest := []) (wn := fun _ => [(a_m, .inr (12, mfs ad m_thrown m_connections (nI m_size) (nI m_ids) (nI m_dataAll) (nI m_putCount) (nI m_waiting) (nI m_readSize) m_power m_left m_since m_changes (nI m_rowSize))), (ad 2, .inl (ct 0, 2, .inl m_state)), (ad 3, .inl (ct 0, 2, .inl m_credit)), (a_out, .inl (ct 3, 1, .inr (.inl (vp_updL g_out 0 (Int32.toInt64 (f_X11_credit_1 ))))))]) (wr := [(a_m, .inr (12, mfs ad m_thrown m_connections (nI m_size) (nI m_ids) (nI m_dataAll) (nI m_putCount) (nI m_waiting) (nI m_readSize) m_power m_left m_since m_changes (nI m_rowSize))), (ad 2, .inl (ct 0, 2, .inl m_state)), (ad 3, .inl (ct 0, 2, .inl m_credit))]) X hT (fun sz => c_L_credit_1 l D ct ts a_this a_this_serverSide a_this_clientSide a_this_toServer a_this_toClient a_this_serverSide_agreement a_this_serverSide_in a_this_serverSide_out a_this_serverSide_tree a_this_serverSide_disk a_this_serverSide_numbers a_this_serverSide_answers a_this_serverSide_counts a_this_serverSide_costs a_this_serverSide_bytes a_out v_connections v_serverSide_state v_serverSide_first v_serverSide_waiting v_serverSide_ungranted v_serverSide_answered ((xs 1)) g_out c_h_x c_h_st sz) cal_L_credit mw_K_21 cwt_L_credit rfl ⟨by decide, by decide⟩ rfl rfl (Nat.le_of_ble_eq_true rfl) ⟨by decide, by decide⟩ [0, 1, 5] [2, 3, 4] [0, 1, 2, 3] rfl (by decide) rfl (by decide) (by decide) (fun _ => rfl) (by decide) dL_law_412 (q := 415) rfl (fun r0 u0 hu0 => ?_)
  have hu0 : r0 = nI 0 := hu0
  subst hu0
  refine j_istore (lv' := [(5, .int (nI 0)), (4, .int (nI 0)), (3, .ref a_out), (2, .ref a_m), (1, .ref a_this), (0, .ref b)]) X dL_law_415 (by decide) rfl (q := 417) rfl ?_
  refine j_aload_n X 3 dL_law_417 rfl (q := 418) rfl ?_
  refine j_aload_n X 5 dL_law_418 rfl (q := 419) rfl ?_
  refine j_iload X 1 dL_law_419 rfl (q := 421) rfl ?_
  refine j_iconst (v := nI 1) X dL_law_421 (by decide) (q := 422) rfl ?_
  refine j_iadd X dL_law_422 (q := 423) rfl ?_
  refine j_eqi (show nI 0 + nI 1 = nI 1 by decide) ?_
  refine j_sld (j := 1) X hX hbl hbA (vp_in_nI (by omega) (by omega)) (nI_clamp (by omega)) dL_law_423 (q := 424) rfl ?_
  refine j_callVi (As := [.int (xs 1)]) (rest := []) (wn := fun u2 => [(a_m, .inr (12, mfs ad u2 m_connections (nI m_size) (nI m_ids) (nI m_dataAll) (nI m_putCount) (nI m_waiting) (nI m_readSize) m_power m_left m_since m_changes (nI m_rowSize))), (a_out, .inl (ct 3, 1, .inr (.inl (vp_updL g_out 0 (Int32.toInt64 (f_X11_credit_1 ))))))]) (wr := [(a_out, .inl (ct 3, 1, .inr (.inl (vp_updL g_out 0 (Int32.toInt64 (f_X11_credit_1 ))))))]) X (fun sz => c_X12_credit l D ct ts a_m ad m_thrown m_connections m_size m_ids m_dataAll m_putCount m_waiting m_readSize m_power m_left m_since m_changes m_rowSize m_state m_credit ((xs 1)) sz) cal_X12_credit 0 rfl rfl mw_K_22 cwi_X12_credit cws_X12_credit rfl ⟨by decide, by decide⟩ rfl rfl (Nat.le_of_ble_eq_true rfl) ⟨by decide, by decide⟩ [0, 1, 2] [3] [1, 0] rfl (by decide) rfl (by decide) (by decide) (fun _ => rfl) (by decide) dL_law_424 (q := 427) rfl (fun r2 u2 hu2 => ?_)
  have ht2 : u2 = (f_X12_credit m_power m_state m_credit ((xs 1))).2 := congrArg (fun z => z.2) hu2
  have er2 : r2 = (f_X12_credit m_power m_state m_credit ((xs 1))).1 := congrArg Prod.fst hu2
  obtain ⟨tv, htv⟩ : ∃ tv : Int32, tv = u2 := ⟨_, rfl⟩
  refine j_ws (ws2 := [(a_m, .inr (12, mfs ad tv m_connections (nI m_size) (nI m_ids) (nI m_dataAll) (nI m_putCount) (nI m_waiting) (nI m_readSize) m_power m_left m_since m_changes (nI m_rowSize))), (a_out, .inl (ct 3, 1, .inr (.inl (vp_updL g_out 0 (Int32.toInt64 (f_X11_credit_1 ))))))]) (by rw [htv]) ?_
  have hk2 : tv = nI 0 := htv.trans (ht2.trans (by rw [c_h_x, e_m_state]; rfl))
  have hb2 : r2 = nI 0 := er2.trans (by rw [c_h_x, e_m_state]; rfl)
  refine j_eqi hb2 ?_
  refine j_istore (lv' := [(6, .int (nI 0)), (5, .int (nI 0)), (4, .int (nI 0)), (3, .ref a_out), (2, .ref a_m), (1, .ref a_this), (0, .ref b)]) X dL_law_427 (by decide) rfl (q := 429) rfl ?_
  refine j_aload_n X 4 dL_law_429 rfl (q := 430) rfl ?_
  refine j_callVi (As := []) (rest := []) (wn := fun _ => [(a_out, .inl (ct 3, 1, .inr (.inl (vp_updL g_out 0 (Int32.toInt64 (f_X11_credit_1 ))))))]) (wr := [(a_out, .inl (ct 3, 1, .inr (.inl (vp_updL g_out 0 (Int32.toInt64 (f_X11_credit_1 ))))))]) X (fun sz => c_X12_thrown l D ct ts a_m ad tv m_connections m_size m_ids m_dataAll m_putCount m_waiting m_readSize m_power m_left m_since m_changes m_rowSize sz) cal_X12_thrown 0 rfl rfl mw_K_20 cwi_X12_thrown cws_X12_thrown rfl ⟨by decide, by decide⟩ rfl rfl (Nat.le_of_ble_eq_true rfl) ⟨by decide, by decide⟩ [0] [1] [0] rfl (by decide) rfl (by decide) (by decide) (fun _ => rfl) (by decide) dL_law_430 (q := 433) rfl (fun r2 u2 hu2 => ?_)
  have er2 : r2 = f_X12_thrown tv := hu2
  refine j_eqi er2 ?_
  refine j_iload X 1 dL_law_433 rfl (q := 435) rfl ?_
  refine j_icmp_eq (tgt := 440) X dL_law_435 (by decide) (q := 438) rfl (fun _ => ?_) (fun hne => absurd (show (f_X12_thrown tv) = (nI 0) from hk2) hne)
  refine j_iload X 1 dL_law_440 rfl (q := 442) rfl ?_
  refine j_if_ne (tgt := 457) X dL_law_442 (by decide) (q := 445) rfl (fun hne => absurd (by decide) hne) (fun _ => ?_)
  refine j_aload_n X 3 dL_law_445 rfl (q := 446) rfl ?_
  refine j_iconst (v := nI 0) X dL_law_446 (by decide) (q := 447) rfl ?_
  refine j_lald X 0 rfl (vp_in_nI (by omega) (by omega)) dL_law_447 (q := 448) rfl ?_
  refine j_iload X 0 dL_law_448 rfl (q := 450) rfl ?_
  refine j_i2l X dL_law_450 (q := 451) rfl ?_
  refine j_lcmp X dL_law_451 (q := 452) rfl ?_
  refine j_if_eq (tgt := 457) X dL_law_452 (by decide) (q := 455) rfl (fun _ => ?_) (fun hne => absurd (show (lg_cmp (((vp_updL g_out 0 (Int32.toInt64 (f_X11_credit_1 ))) (nI 0).toNatClampNeg)) ((Int32.toInt64 ((nI 0))))) = 0 from lgc) hne)
  refine j_goto (tgt := 775) X dL_law_457 (by decide) ?_
  refine j_perm (ws2 := []) [] rfl rfl ?_
  refine j_lv (lv' := [(0, .ref b), (4, .int (nI 0))]) [6, 2] rfl ?_
  refine j_wid (a := 600002) (b := 7302232) (by decide) (by decide) ?_
  exact kend
set_option maxHeartbeats 4000000 in
set_option maxRecDepth 100000 in
theorem k_credit_b {p : Program} {l : Launch} {e : Env} {s : State} {m : MethodId} {b : Nat} {below : List Frame} {meth : Method} {c : Code} {D : va_G} {ct : Nat → ClassId} {ts : Nat → Nat} {A : Nat → Prop} {xs : Nat → Int32} {a_m a_out a_this a_this_clientSide a_this_serverSide a_this_toClient a_this_toServer : Nat} {ad : Nat → Nat} {m_changes : Int32} {m_connections : Int32} {m_credit : Nat → Int32} {m_dataAll : Nat} {m_ids : Nat} {m_left : Int32} {m_power : Int32} {m_putCount : Nat} {m_readSize : Nat} {m_rowSize : Nat} {m_since : Int32} {m_size : Nat} {m_state : Nat → Int32} {m_thrown : Int32} {m_waiting : Nat} {v_connections : Int32} {g_out : Nat → Int64} (Y : LX p l s m meth c D ct ts A b xs) (c_h_b : (xs 1) < 0 ∨ ¬ (xs 1) ≤ nI 1) (kend : LJ p l e s m b below meth c D A 600002 7302232 [] [(0, .ref b), (4, .int (nI 0))] [] 775) : LJ p l e s m b below meth c D A 190 418642 [(a_this, .inr (11, [.ref a_this_clientSide, .ref a_this_serverSide, .ref a_this_toServer, .ref a_this_toClient, .int v_connections])), (a_m, .inr (12, mfs ad m_thrown m_connections (nI m_size) (nI m_ids) (nI m_dataAll) (nI m_putCount) (nI m_waiting) (nI m_readSize) m_power m_left m_since m_changes (nI m_rowSize))), (ad 2, .inl (ct 0, 2, .inl m_state)), (ad 3, .inl (ct 0, 2, .inl m_credit)), (a_out, .inl (ct 3, 1, .inr (.inl g_out)))] [(4, .int (nI 0)), (3, .ref a_out), (2, .ref a_m), (1, .ref a_this), (0, .ref b)] [] 404 := by
  obtain ⟨X, hT, hX, hbl, hbA, hl⟩ := Y
  refine j_aload_n X 3 dL_law_404 rfl (q := 405) rfl ?_
  refine j_aload_n X 4 dL_law_405 rfl (q := 406) rfl ?_
  refine j_iload X 0 dL_law_406 rfl (q := 408) rfl ?_
  refine j_iconst (v := nI 1) X dL_law_408 (by decide) (q := 409) rfl ?_
  refine j_iadd X dL_law_409 (q := 410) rfl ?_
  refine j_eqi (show nI 0 + nI 1 = nI 1 by decide) ?_
  refine j_sld (j := 1) X hX hbl hbA (vp_in_nI (by omega) (by omega)) (nI_clamp (by omega)) dL_law_410 (q := 411) rfl ?_
  refine j_aload_n X 1 dL_law_411 rfl (q := 412) rfl ?_
  refine j_callHi (As := [.ref a_this, .int (xs 1), .ref a_out]) (rest := []) (wn := fun _ => [(a_m, .inr (12, mfs ad m_thrown m_connections (nI m_size) (nI m_ids) (nI m_dataAll) (nI m_putCount) (nI m_waiting) (nI m_readSize) m_power m_left m_since m_changes (nI m_rowSize))), (ad 2, .inl (ct 0, 2, .inl m_state)), (ad 3, .inl (ct 0, 2, .inl m_credit)), (a_out, .inl (ct 3, 1, .inr (.inl g_out)))]) (wr := [(a_m, .inr (12, mfs ad m_thrown m_connections (nI m_size) (nI m_ids) (nI m_dataAll) (nI m_putCount) (nI m_waiting) (nI m_readSize) m_power m_left m_since m_changes (nI m_rowSize))), (ad 2, .inl (ct 0, 2, .inl m_state)), (ad 3, .inl (ct 0, 2, .inl m_credit))]) X hT (fun sz => c_L_credit_b l D ct ts hl a_this a_this_clientSide a_this_serverSide a_this_toServer a_this_toClient a_out v_connections ((xs 1)) g_out c_h_b sz) cal_L_credit mw_K_21 cwt_L_credit rfl ⟨by decide, by decide⟩ rfl rfl (Nat.le_of_ble_eq_true rfl) ⟨by decide, by decide⟩ [0, 4] [1, 2, 3] [0, 1, 2, 3] rfl (by decide) rfl (by decide) (by decide) (fun _ => rfl) (by decide) dL_law_412 (q := 415) rfl (fun r0 u0 hu0 => ?_)
  have hu0 : r0 = nI 1 := hu0
  subst hu0
  refine j_istore (lv' := [(5, .int (nI 1)), (4, .int (nI 0)), (3, .ref a_out), (2, .ref a_m), (1, .ref a_this), (0, .ref b)]) X dL_law_415 (by decide) rfl (q := 417) rfl ?_
  refine j_aload_n X 3 dL_law_417 rfl (q := 418) rfl ?_
  refine j_aload_n X 5 dL_law_418 rfl (q := 419) rfl ?_
  refine j_iload X 1 dL_law_419 rfl (q := 421) rfl ?_
  refine j_iconst (v := nI 1) X dL_law_421 (by decide) (q := 422) rfl ?_
  refine j_iadd X dL_law_422 (q := 423) rfl ?_
  refine j_eqi (show nI 0 + nI 1 = nI 1 by decide) ?_
  refine j_sld (j := 1) X hX hbl hbA (vp_in_nI (by omega) (by omega)) (nI_clamp (by omega)) dL_law_423 (q := 424) rfl ?_
  refine j_callVi (As := [.int (xs 1)]) (rest := []) (wn := fun u2 => [(a_m, .inr (12, mfs ad u2 m_connections (nI m_size) (nI m_ids) (nI m_dataAll) (nI m_putCount) (nI m_waiting) (nI m_readSize) m_power m_left m_since m_changes (nI m_rowSize))), (a_out, .inl (ct 3, 1, .inr (.inl g_out)))]) (wr := [(a_out, .inl (ct 3, 1, .inr (.inl g_out)))]) X (fun sz => c_X12_credit l D ct ts a_m ad m_thrown m_connections m_size m_ids m_dataAll m_putCount m_waiting m_readSize m_power m_left m_since m_changes m_rowSize m_state m_credit ((xs 1)) sz) cal_X12_credit 0 rfl rfl mw_K_22 cwi_X12_credit cws_X12_credit rfl ⟨by decide, by decide⟩ rfl rfl (Nat.le_of_ble_eq_true rfl) ⟨by decide, by decide⟩ [0, 1, 2] [3] [1, 0] rfl (by decide) rfl (by decide) (by decide) (fun _ => rfl) (by decide) dL_law_424 (q := 427) rfl (fun r2 u2 hu2 => ?_)
  have ht2 : u2 = (f_X12_credit m_power m_state m_credit ((xs 1))).2 := congrArg (fun z => z.2) hu2
  have er2 : r2 = (f_X12_credit m_power m_state m_credit ((xs 1))).1 := congrArg Prod.fst hu2
  obtain ⟨tv, htv⟩ : ∃ tv : Int32, tv = u2 := ⟨_, rfl⟩
  refine j_ws (ws2 := [(a_m, .inr (12, mfs ad tv m_connections (nI m_size) (nI m_ids) (nI m_dataAll) (nI m_putCount) (nI m_waiting) (nI m_readSize) m_power m_left m_since m_changes (nI m_rowSize))), (a_out, .inl (ct 3, 1, .inr (.inl g_out)))]) (by rw [htv]) ?_
  have hk2 : tv = nI 1 := htv.trans (ht2.trans (by rw [mc_b c_h_b]))
  have hb2 : r2 = nI 0 := er2.trans (by rw [mc_b c_h_b])
  refine j_eqi hb2 ?_
  refine j_istore (lv' := [(6, .int (nI 0)), (5, .int (nI 1)), (4, .int (nI 0)), (3, .ref a_out), (2, .ref a_m), (1, .ref a_this), (0, .ref b)]) X dL_law_427 (by decide) rfl (q := 429) rfl ?_
  refine j_aload_n X 4 dL_law_429 rfl (q := 430) rfl ?_
  refine j_callVi (As := []) (rest := []) (wn := fun _ => [(a_out, .inl (ct 3, 1, .inr (.inl g_out)))]) (wr := [(a_out, .inl (ct 3, 1, .inr (.inl g_out)))]) X (fun sz => c_X12_thrown l D ct ts a_m ad tv m_connections m_size m_ids m_dataAll m_putCount m_waiting m_readSize m_power m_left m_since m_changes m_rowSize sz) cal_X12_thrown 0 rfl rfl mw_K_20 cwi_X12_thrown cws_X12_thrown rfl ⟨by decide, by decide⟩ rfl rfl (Nat.le_of_ble_eq_true rfl) ⟨by decide, by decide⟩ [0] [1] [0] rfl (by decide) rfl (by decide) (by decide) (fun _ => rfl) (by decide) dL_law_430 (q := 433) rfl (fun r2 u2 hu2 => ?_)
  have er2 : r2 = f_X12_thrown tv := hu2
  refine j_eqi er2 ?_
  refine j_iload X 1 dL_law_433 rfl (q := 435) rfl ?_
  refine j_icmp_eq (tgt := 440) X dL_law_435 (by decide) (q := 438) rfl (fun _ => ?_) (fun hne => absurd (show (f_X12_thrown tv) = (nI 1) from hk2) hne)
  refine j_iload X 1 dL_law_440 rfl (q := 442) rfl ?_
  refine j_if_ne (tgt := 457) X dL_law_442 (by decide) (q := 445) rfl (fun _ => ?_) (fun hne => absurd hne (by decide))
  refine j_goto (tgt := 775) X dL_law_457 (by decide) ?_
  refine j_perm (ws2 := []) [] rfl rfl ?_
  refine j_lv (lv' := [(0, .ref b), (4, .int (nI 0))]) [6, 2] rfl ?_
  refine j_wid (a := 600002) (b := 7302232) (by decide) (by decide) ?_
  exact kend
theorem mw_K_23 : Cond.methodLink "GuardedTreeLaw" 87 yL_octet ∈ tb := tb_at 833 (by decide +kernel) (by decide +kernel)
theorem mw_K_24 : Cond.methodLink "GuardedTreeLaw" 89 yX12_octet ∈ tb := tb_at 1620 (by decide +kernel) (by decide +kernel)
set_option maxHeartbeats 4000000 in
set_option maxRecDepth 100000 in
theorem k_octet {p : Program} {l : Launch} {e : Env} {s : State} {m : MethodId} {b : Nat} {below : List Frame} {meth : Method} {c : Code} {D : va_G} {ct : Nat → ClassId} {ts : Nat → Nat} {A : Nat → Prop} {xs : Nat → Int32} {a_m a_out a_this a_this_clientSide a_this_serverSide a_this_toClient a_this_toServer a_this_toServer_bytes : Nat} {ad : Nat → Nat} {m_changes : Int32} {m_connections : Int32} {m_dataAll : Nat} {m_ids : Nat} {m_left : Int32} {m_power : Int32} {m_putCount : Nat} {m_readSize : Nat} {m_rowSize : Nat} {m_since : Int32} {m_size : Nat} {m_thrown : Int32} {m_waiting : Nat} {m_way : Nat → Int32} {m_waySize : Nat → Int32} {v_connections : Int32} {v_toServer_size : Nat} {g_out : Nat → Int64} (Y : LX p l s m meth c D ct ts A b xs) (c_h_x : (xs 1) = nI 0) (c_h_z : v_toServer_size = 0) (m_hway : ∀ j, j < 2 → ∃ m : Nat, m ≤ 9999 ∧ m_waySize j = nI m) (e_m_waySize : m_waySize = fun _ => 0) (kend : LJ p l e s m b below meth c D A 600002 7302232 [] [(0, .ref b), (4, .int (nI 0))] [] 775) : LJ p l e s m b below meth c D A 190 418642 [(a_this, .inr (11, [.ref a_this_clientSide, .ref a_this_serverSide, .ref a_this_toServer, .ref a_this_toClient, .int v_connections])), (a_this_toServer, .inr (6, [.ref a_this_toServer_bytes, .int (nI v_toServer_size)])), (a_m, .inr (12, mfs ad m_thrown m_connections (nI m_size) (nI m_ids) (nI m_dataAll) (nI m_putCount) (nI m_waiting) (nI m_readSize) m_power m_left m_since m_changes (nI m_rowSize))), (ad 8, .inl (ct 0, 2, .inl m_waySize)), (ad 7, .inl (ct 1, 20000, .inl m_way)), (a_out, .inl (ct 3, 1, .inr (.inl g_out)))] [(4, .int (nI 0)), (3, .ref a_out), (2, .ref a_m), (1, .ref a_this), (0, .ref b)] [] 516 := by
  obtain ⟨X, hT, hX, hbl, hbA, hl⟩ := Y
  refine j_aload_n X 3 dL_law_516 rfl (q := 517) rfl ?_
  refine j_aload_n X 4 dL_law_517 rfl (q := 518) rfl ?_
  refine j_iload X 0 dL_law_518 rfl (q := 520) rfl ?_
  refine j_iconst (v := nI 1) X dL_law_520 (by decide) (q := 521) rfl ?_
  refine j_iadd X dL_law_521 (q := 522) rfl ?_
  refine j_eqi (show nI 0 + nI 1 = nI 1 by decide) ?_
  refine j_sld (j := 1) X hX hbl hbA (vp_in_nI (by omega) (by omega)) (nI_clamp (by omega)) dL_law_522 (q := 523) rfl ?_
  refine j_aload_n X 4 dL_law_523 rfl (q := 524) rfl ?_
  refine j_iload X 0 dL_law_524 rfl (q := 526) rfl ?_
  refine j_iconst (v := nI 2) X dL_law_526 (by decide) (q := 527) rfl ?_
  refine j_iadd X dL_law_527 (q := 528) rfl ?_
  refine j_eqi (show nI 0 + nI 2 = nI 2 by decide) ?_
  refine j_sld (j := 2) X hX hbl hbA (vp_in_nI (by omega) (by omega)) (nI_clamp (by omega)) dL_law_528 (q := 529) rfl ?_
  refine j_aload_n X 1 dL_law_529 rfl (q := 530) rfl ?_
  refine j_callHi (As := [.ref a_this, .int (xs 1), .int (xs 2), .ref a_out]) (rest := []) (wn := fun _ => [(a_m, .inr (12, mfs ad m_thrown m_connections (nI m_size) (nI m_ids) (nI m_dataAll) (nI m_putCount) (nI m_waiting) (nI m_readSize) m_power m_left m_since m_changes (nI m_rowSize))), (ad 8, .inl (ct 0, 2, .inl m_waySize)), (ad 7, .inl (ct 1, 20000, .inl m_way)), (a_out, .inl (ct 3, 1, .inr (.inl g_out)))]) (wr := [(a_m, .inr (12, mfs ad m_thrown m_connections (nI m_size) (nI m_ids) (nI m_dataAll) (nI m_putCount) (nI m_waiting) (nI m_readSize) m_power m_left m_since m_changes (nI m_rowSize))), (ad 8, .inl (ct 0, 2, .inl m_waySize)), (ad 7, .inl (ct 1, 20000, .inl m_way))]) X hT (fun sz => c_L_octet l D ct ts hl a_this a_this_toServer a_this_clientSide a_this_serverSide a_this_toClient a_this_toServer_bytes a_out v_connections v_toServer_size ((xs 1)) ((xs 2)) g_out c_h_x c_h_z sz) cal_L_octet mw_K_23 cwt_L_octet rfl ⟨by decide, by decide⟩ rfl rfl (Nat.le_of_ble_eq_true rfl) ⟨by decide, by decide⟩ [0, 1, 5] [2, 3, 4] [0, 1, 2, 3] rfl (by decide) rfl (by decide) (by decide) (fun _ => rfl) (by decide) dL_law_530 (q := 533) rfl (fun r0 u0 hu0 => ?_)
  have hu0 : r0 = nI 1 := hu0
  subst hu0
  refine j_istore (lv' := [(5, .int (nI 1)), (4, .int (nI 0)), (3, .ref a_out), (2, .ref a_m), (1, .ref a_this), (0, .ref b)]) X dL_law_533 (by decide) rfl (q := 535) rfl ?_
  refine j_aload_n X 3 dL_law_535 rfl (q := 536) rfl ?_
  refine j_aload_n X 5 dL_law_536 rfl (q := 537) rfl ?_
  refine j_iload X 1 dL_law_537 rfl (q := 539) rfl ?_
  refine j_iconst (v := nI 1) X dL_law_539 (by decide) (q := 540) rfl ?_
  refine j_iadd X dL_law_540 (q := 541) rfl ?_
  refine j_eqi (show nI 0 + nI 1 = nI 1 by decide) ?_
  refine j_sld (j := 1) X hX hbl hbA (vp_in_nI (by omega) (by omega)) (nI_clamp (by omega)) dL_law_541 (q := 542) rfl ?_
  refine j_aload_n X 5 dL_law_542 rfl (q := 543) rfl ?_
  refine j_iload X 1 dL_law_543 rfl (q := 545) rfl ?_
  refine j_iconst (v := nI 2) X dL_law_545 (by decide) (q := 546) rfl ?_
  refine j_iadd X dL_law_546 (q := 547) rfl ?_
  refine j_eqi (show nI 0 + nI 2 = nI 2 by decide) ?_
  refine j_sld (j := 2) X hX hbl hbA (vp_in_nI (by omega) (by omega)) (nI_clamp (by omega)) dL_law_547 (q := 548) rfl ?_
  refine j_callVi (As := [.int (xs 1), .int (xs 2)]) (rest := []) (wn := fun u2 => [(a_m, .inr (12, mfs ad u2 m_connections (nI m_size) (nI m_ids) (nI m_dataAll) (nI m_putCount) (nI m_waiting) (nI m_readSize) m_power m_left m_since m_changes (nI m_rowSize))), (a_out, .inl (ct 3, 1, .inr (.inl g_out)))]) (wr := [(a_out, .inl (ct 3, 1, .inr (.inl g_out)))]) X (fun sz => c_X12_octet l D ct ts a_m ad m_thrown m_connections m_size m_ids m_dataAll m_putCount m_waiting m_readSize m_power m_left m_since m_changes m_rowSize m_waySize m_way ((xs 1)) ((xs 2)) m_hway sz) cal_X12_octet 0 rfl rfl mw_K_24 cwi_X12_octet cws_X12_octet rfl ⟨by decide, by decide⟩ rfl rfl (Nat.le_of_ble_eq_true rfl) ⟨by decide, by decide⟩ [0, 1, 2] [3] [1, 0] rfl (by decide) rfl (by decide) (by decide) (fun _ => rfl) (by decide) dL_law_548 (q := 551) rfl (fun r2 u2 hu2 => ?_)
  have ht2 : u2 = (f_X12_octet m_waySize m_way ((xs 1)) ((xs 2))).2 := congrArg (fun z => z.2) hu2
  have er2 : r2 = (f_X12_octet m_waySize m_way ((xs 1)) ((xs 2))).1 := congrArg Prod.fst hu2
  obtain ⟨tv, htv⟩ : ∃ tv : Int32, tv = u2 := ⟨_, rfl⟩
  refine j_ws (ws2 := [(a_m, .inr (12, mfs ad tv m_connections (nI m_size) (nI m_ids) (nI m_dataAll) (nI m_putCount) (nI m_waiting) (nI m_readSize) m_power m_left m_since m_changes (nI m_rowSize))), (a_out, .inl (ct 3, 1, .inr (.inl g_out)))]) (by rw [htv]) ?_
  have hk2 : tv = nI 1 := htv.trans (ht2.trans (by rw [e_m_waySize, mo_o]))
  have hb2 : r2 = nI 0 := er2.trans (by rw [e_m_waySize, mo_o])
  refine j_eqi hb2 ?_
  refine j_istore (lv' := [(6, .int (nI 0)), (5, .int (nI 1)), (4, .int (nI 0)), (3, .ref a_out), (2, .ref a_m), (1, .ref a_this), (0, .ref b)]) X dL_law_551 (by decide) rfl (q := 553) rfl ?_
  refine j_aload_n X 4 dL_law_553 rfl (q := 554) rfl ?_
  refine j_callVi (As := []) (rest := []) (wn := fun _ => [(a_out, .inl (ct 3, 1, .inr (.inl g_out)))]) (wr := [(a_out, .inl (ct 3, 1, .inr (.inl g_out)))]) X (fun sz => c_X12_thrown l D ct ts a_m ad tv m_connections m_size m_ids m_dataAll m_putCount m_waiting m_readSize m_power m_left m_since m_changes m_rowSize sz) cal_X12_thrown 0 rfl rfl mw_K_20 cwi_X12_thrown cws_X12_thrown rfl ⟨by decide, by decide⟩ rfl rfl (Nat.le_of_ble_eq_true rfl) ⟨by decide, by decide⟩ [0] [1] [0] rfl (by decide) rfl (by decide) (by decide) (fun _ => rfl) (by decide) dL_law_554 (q := 557) rfl (fun r2 u2 hu2 => ?_)
  have er2 : r2 = f_X12_thrown tv := hu2
  refine j_eqi er2 ?_
  refine j_iload X 1 dL_law_557 rfl (q := 559) rfl ?_
  refine j_icmp_eq (tgt := 564) X dL_law_559 (by decide) (q := 562) rfl (fun _ => ?_) (fun hne => absurd (show (f_X12_thrown tv) = (nI 1) from hk2) hne)
  refine j_iload X 1 dL_law_564 rfl (q := 566) rfl ?_
  refine j_if_ne (tgt := 581) X dL_law_566 (by decide) (q := 569) rfl (fun _ => ?_) (fun hne => absurd hne (by decide))
  refine j_goto (tgt := 775) X dL_law_581 (by decide) ?_
  refine j_perm (ws2 := []) [] rfl rfl ?_
  refine j_lv (lv' := [(0, .ref b), (4, .int (nI 0))]) [6, 2] rfl ?_
  refine j_wid (a := 600002) (b := 7302232) (by decide) (by decide) ?_
  exact kend
set_option maxHeartbeats 4000000 in
set_option maxRecDepth 100000 in
theorem k_octet_1 {p : Program} {l : Launch} {e : Env} {s : State} {m : MethodId} {b : Nat} {below : List Frame} {meth : Method} {c : Code} {D : va_G} {ct : Nat → ClassId} {ts : Nat → Nat} {A : Nat → Prop} {xs : Nat → Int32} {a_m a_out a_this a_this_clientSide a_this_serverSide a_this_toClient a_this_toClient_bytes a_this_toServer : Nat} {ad : Nat → Nat} {m_changes : Int32} {m_connections : Int32} {m_dataAll : Nat} {m_ids : Nat} {m_left : Int32} {m_power : Int32} {m_putCount : Nat} {m_readSize : Nat} {m_rowSize : Nat} {m_since : Int32} {m_size : Nat} {m_thrown : Int32} {m_waiting : Nat} {m_way : Nat → Int32} {m_waySize : Nat → Int32} {v_connections : Int32} {v_toClient_size : Nat} {g_out : Nat → Int64} (Y : LX p l s m meth c D ct ts A b xs) (c_h_x : (xs 1) = nI 1) (c_h_z : v_toClient_size = 0) (m_hway : ∀ j, j < 2 → ∃ m : Nat, m ≤ 9999 ∧ m_waySize j = nI m) (e_m_waySize : m_waySize = fun _ => 0) (kend : LJ p l e s m b below meth c D A 600002 7302232 [] [(0, .ref b), (4, .int (nI 0))] [] 775) : LJ p l e s m b below meth c D A 190 418642 [(a_this, .inr (11, [.ref a_this_clientSide, .ref a_this_serverSide, .ref a_this_toServer, .ref a_this_toClient, .int v_connections])), (a_this_toClient, .inr (6, [.ref a_this_toClient_bytes, .int (nI v_toClient_size)])), (a_m, .inr (12, mfs ad m_thrown m_connections (nI m_size) (nI m_ids) (nI m_dataAll) (nI m_putCount) (nI m_waiting) (nI m_readSize) m_power m_left m_since m_changes (nI m_rowSize))), (ad 8, .inl (ct 0, 2, .inl m_waySize)), (ad 7, .inl (ct 1, 20000, .inl m_way)), (a_out, .inl (ct 3, 1, .inr (.inl g_out)))] [(4, .int (nI 0)), (3, .ref a_out), (2, .ref a_m), (1, .ref a_this), (0, .ref b)] [] 516 := by
  obtain ⟨X, hT, hX, hbl, hbA, hl⟩ := Y
  refine j_aload_n X 3 dL_law_516 rfl (q := 517) rfl ?_
  refine j_aload_n X 4 dL_law_517 rfl (q := 518) rfl ?_
  refine j_iload X 0 dL_law_518 rfl (q := 520) rfl ?_
  refine j_iconst (v := nI 1) X dL_law_520 (by decide) (q := 521) rfl ?_
  refine j_iadd X dL_law_521 (q := 522) rfl ?_
  refine j_eqi (show nI 0 + nI 1 = nI 1 by decide) ?_
  refine j_sld (j := 1) X hX hbl hbA (vp_in_nI (by omega) (by omega)) (nI_clamp (by omega)) dL_law_522 (q := 523) rfl ?_
  refine j_aload_n X 4 dL_law_523 rfl (q := 524) rfl ?_
  refine j_iload X 0 dL_law_524 rfl (q := 526) rfl ?_
  refine j_iconst (v := nI 2) X dL_law_526 (by decide) (q := 527) rfl ?_
  refine j_iadd X dL_law_527 (q := 528) rfl ?_
  refine j_eqi (show nI 0 + nI 2 = nI 2 by decide) ?_
  refine j_sld (j := 2) X hX hbl hbA (vp_in_nI (by omega) (by omega)) (nI_clamp (by omega)) dL_law_528 (q := 529) rfl ?_
  refine j_aload_n X 1 dL_law_529 rfl (q := 530) rfl ?_
  refine j_callHi (As := [.ref a_this, .int (xs 1), .int (xs 2), .ref a_out]) (rest := []) (wn := fun _ => [(a_m, .inr (12, mfs ad m_thrown m_connections (nI m_size) (nI m_ids) (nI m_dataAll) (nI m_putCount) (nI m_waiting) (nI m_readSize) m_power m_left m_since m_changes (nI m_rowSize))), (ad 8, .inl (ct 0, 2, .inl m_waySize)), (ad 7, .inl (ct 1, 20000, .inl m_way)), (a_out, .inl (ct 3, 1, .inr (.inl g_out)))]) (wr := [(a_m, .inr (12, mfs ad m_thrown m_connections (nI m_size) (nI m_ids) (nI m_dataAll) (nI m_putCount) (nI m_waiting) (nI m_readSize) m_power m_left m_since m_changes (nI m_rowSize))), (ad 8, .inl (ct 0, 2, .inl m_waySize)), (ad 7, .inl (ct 1, 20000, .inl m_way))]) X hT (fun sz => c_L_octet_1 l D ct ts hl a_this a_this_toClient a_this_clientSide a_this_serverSide a_this_toServer a_this_toClient_bytes a_out v_connections v_toClient_size ((xs 1)) ((xs 2)) g_out c_h_x c_h_z sz) cal_L_octet mw_K_23 cwt_L_octet rfl ⟨by decide, by decide⟩ rfl rfl (Nat.le_of_ble_eq_true rfl) ⟨by decide, by decide⟩ [0, 1, 5] [2, 3, 4] [0, 1, 2, 3] rfl (by decide) rfl (by decide) (by decide) (fun _ => rfl) (by decide) dL_law_530 (q := 533) rfl (fun r0 u0 hu0 => ?_)
  have hu0 : r0 = nI 1 := hu0
  subst hu0
  refine j_istore (lv' := [(5, .int (nI 1)), (4, .int (nI 0)), (3, .ref a_out), (2, .ref a_m), (1, .ref a_this), (0, .ref b)]) X dL_law_533 (by decide) rfl (q := 535) rfl ?_
  refine j_aload_n X 3 dL_law_535 rfl (q := 536) rfl ?_
  refine j_aload_n X 5 dL_law_536 rfl (q := 537) rfl ?_
  refine j_iload X 1 dL_law_537 rfl (q := 539) rfl ?_
  refine j_iconst (v := nI 1) X dL_law_539 (by decide) (q := 540) rfl ?_
  refine j_iadd X dL_law_540 (q := 541) rfl ?_
  refine j_eqi (show nI 0 + nI 1 = nI 1 by decide) ?_
  refine j_sld (j := 1) X hX hbl hbA (vp_in_nI (by omega) (by omega)) (nI_clamp (by omega)) dL_law_541 (q := 542) rfl ?_
  refine j_aload_n X 5 dL_law_542 rfl (q := 543) rfl ?_
  refine j_iload X 1 dL_law_543 rfl (q := 545) rfl ?_
  refine j_iconst (v := nI 2) X dL_law_545 (by decide) (q := 546) rfl ?_
  refine j_iadd X dL_law_546 (q := 547) rfl ?_
  refine j_eqi (show nI 0 + nI 2 = nI 2 by decide) ?_
  refine j_sld (j := 2) X hX hbl hbA (vp_in_nI (by omega) (by omega)) (nI_clamp (by omega)) dL_law_547 (q := 548) rfl ?_
  refine j_callVi (As := [.int (xs 1), .int (xs 2)]) (rest := []) (wn := fun u2 => [(a_m, .inr (12, mfs ad u2 m_connections (nI m_size) (nI m_ids) (nI m_dataAll) (nI m_putCount) (nI m_waiting) (nI m_readSize) m_power m_left m_since m_changes (nI m_rowSize))), (a_out, .inl (ct 3, 1, .inr (.inl g_out)))]) (wr := [(a_out, .inl (ct 3, 1, .inr (.inl g_out)))]) X (fun sz => c_X12_octet l D ct ts a_m ad m_thrown m_connections m_size m_ids m_dataAll m_putCount m_waiting m_readSize m_power m_left m_since m_changes m_rowSize m_waySize m_way ((xs 1)) ((xs 2)) m_hway sz) cal_X12_octet 0 rfl rfl mw_K_24 cwi_X12_octet cws_X12_octet rfl ⟨by decide, by decide⟩ rfl rfl (Nat.le_of_ble_eq_true rfl) ⟨by decide, by decide⟩ [0, 1, 2] [3] [1, 0] rfl (by decide) rfl (by decide) (by decide) (fun _ => rfl) (by decide) dL_law_548 (q := 551) rfl (fun r2 u2 hu2 => ?_)
  have ht2 : u2 = (f_X12_octet m_waySize m_way ((xs 1)) ((xs 2))).2 := congrArg (fun z => z.2) hu2
  have er2 : r2 = (f_X12_octet m_waySize m_way ((xs 1)) ((xs 2))).1 := congrArg Prod.fst hu2
  obtain ⟨tv, htv⟩ : ∃ tv : Int32, tv = u2 := ⟨_, rfl⟩
  refine j_ws (ws2 := [(a_m, .inr (12, mfs ad tv m_connections (nI m_size) (nI m_ids) (nI m_dataAll) (nI m_putCount) (nI m_waiting) (nI m_readSize) m_power m_left m_since m_changes (nI m_rowSize))), (a_out, .inl (ct 3, 1, .inr (.inl g_out)))]) (by rw [htv]) ?_
  have hk2 : tv = nI 1 := htv.trans (ht2.trans (by rw [e_m_waySize, mo_o]))
  have hb2 : r2 = nI 0 := er2.trans (by rw [e_m_waySize, mo_o])
  refine j_eqi hb2 ?_
  refine j_istore (lv' := [(6, .int (nI 0)), (5, .int (nI 1)), (4, .int (nI 0)), (3, .ref a_out), (2, .ref a_m), (1, .ref a_this), (0, .ref b)]) X dL_law_551 (by decide) rfl (q := 553) rfl ?_
  refine j_aload_n X 4 dL_law_553 rfl (q := 554) rfl ?_
  refine j_callVi (As := []) (rest := []) (wn := fun _ => [(a_out, .inl (ct 3, 1, .inr (.inl g_out)))]) (wr := [(a_out, .inl (ct 3, 1, .inr (.inl g_out)))]) X (fun sz => c_X12_thrown l D ct ts a_m ad tv m_connections m_size m_ids m_dataAll m_putCount m_waiting m_readSize m_power m_left m_since m_changes m_rowSize sz) cal_X12_thrown 0 rfl rfl mw_K_20 cwi_X12_thrown cws_X12_thrown rfl ⟨by decide, by decide⟩ rfl rfl (Nat.le_of_ble_eq_true rfl) ⟨by decide, by decide⟩ [0] [1] [0] rfl (by decide) rfl (by decide) (by decide) (fun _ => rfl) (by decide) dL_law_554 (q := 557) rfl (fun r2 u2 hu2 => ?_)
  have er2 : r2 = f_X12_thrown tv := hu2
  refine j_eqi er2 ?_
  refine j_iload X 1 dL_law_557 rfl (q := 559) rfl ?_
  refine j_icmp_eq (tgt := 564) X dL_law_559 (by decide) (q := 562) rfl (fun _ => ?_) (fun hne => absurd (show (f_X12_thrown tv) = (nI 1) from hk2) hne)
  refine j_iload X 1 dL_law_564 rfl (q := 566) rfl ?_
  refine j_if_ne (tgt := 581) X dL_law_566 (by decide) (q := 569) rfl (fun _ => ?_) (fun hne => absurd hne (by decide))
  refine j_goto (tgt := 775) X dL_law_581 (by decide) ?_
  refine j_perm (ws2 := []) [] rfl rfl ?_
  refine j_lv (lv' := [(0, .ref b), (4, .int (nI 0))]) [6, 2] rfl ?_
  refine j_wid (a := 600002) (b := 7302232) (by decide) (by decide) ?_
  exact kend
set_option maxHeartbeats 4000000 in
set_option maxRecDepth 100000 in
theorem k_octet_b {p : Program} {l : Launch} {e : Env} {s : State} {m : MethodId} {b : Nat} {below : List Frame} {meth : Method} {c : Code} {D : va_G} {ct : Nat → ClassId} {ts : Nat → Nat} {A : Nat → Prop} {xs : Nat → Int32} {a_m a_out a_this a_this_clientSide a_this_serverSide a_this_toClient a_this_toServer : Nat} {ad : Nat → Nat} {m_changes : Int32} {m_connections : Int32} {m_dataAll : Nat} {m_ids : Nat} {m_left : Int32} {m_power : Int32} {m_putCount : Nat} {m_readSize : Nat} {m_rowSize : Nat} {m_since : Int32} {m_size : Nat} {m_thrown : Int32} {m_waiting : Nat} {m_way : Nat → Int32} {m_waySize : Nat → Int32} {v_connections : Int32} {g_out : Nat → Int64} (Y : LX p l s m meth c D ct ts A b xs) (c_h_b : (xs 1) < 0 ∨ ¬ (xs 1) ≤ nI 1) (m_hway : ∀ j, j < 2 → ∃ m : Nat, m ≤ 9999 ∧ m_waySize j = nI m) (e_m_waySize : m_waySize = fun _ => 0) (kend : LJ p l e s m b below meth c D A 600002 7302232 [] [(0, .ref b), (4, .int (nI 0))] [] 775) : LJ p l e s m b below meth c D A 190 418642 [(a_this, .inr (11, [.ref a_this_clientSide, .ref a_this_serverSide, .ref a_this_toServer, .ref a_this_toClient, .int v_connections])), (a_m, .inr (12, mfs ad m_thrown m_connections (nI m_size) (nI m_ids) (nI m_dataAll) (nI m_putCount) (nI m_waiting) (nI m_readSize) m_power m_left m_since m_changes (nI m_rowSize))), (ad 8, .inl (ct 0, 2, .inl m_waySize)), (ad 7, .inl (ct 1, 20000, .inl m_way)), (a_out, .inl (ct 3, 1, .inr (.inl g_out)))] [(4, .int (nI 0)), (3, .ref a_out), (2, .ref a_m), (1, .ref a_this), (0, .ref b)] [] 516 := by
  obtain ⟨X, hT, hX, hbl, hbA, hl⟩ := Y
  refine j_aload_n X 3 dL_law_516 rfl (q := 517) rfl ?_
  refine j_aload_n X 4 dL_law_517 rfl (q := 518) rfl ?_
  refine j_iload X 0 dL_law_518 rfl (q := 520) rfl ?_
  refine j_iconst (v := nI 1) X dL_law_520 (by decide) (q := 521) rfl ?_
  refine j_iadd X dL_law_521 (q := 522) rfl ?_
  refine j_eqi (show nI 0 + nI 1 = nI 1 by decide) ?_
  refine j_sld (j := 1) X hX hbl hbA (vp_in_nI (by omega) (by omega)) (nI_clamp (by omega)) dL_law_522 (q := 523) rfl ?_
  refine j_aload_n X 4 dL_law_523 rfl (q := 524) rfl ?_
  refine j_iload X 0 dL_law_524 rfl (q := 526) rfl ?_
  refine j_iconst (v := nI 2) X dL_law_526 (by decide) (q := 527) rfl ?_
  refine j_iadd X dL_law_527 (q := 528) rfl ?_
  refine j_eqi (show nI 0 + nI 2 = nI 2 by decide) ?_
  refine j_sld (j := 2) X hX hbl hbA (vp_in_nI (by omega) (by omega)) (nI_clamp (by omega)) dL_law_528 (q := 529) rfl ?_
  refine j_aload_n X 1 dL_law_529 rfl (q := 530) rfl ?_
  refine j_callHi (As := [.ref a_this, .int (xs 1), .int (xs 2), .ref a_out]) (rest := []) (wn := fun _ => [(a_m, .inr (12, mfs ad m_thrown m_connections (nI m_size) (nI m_ids) (nI m_dataAll) (nI m_putCount) (nI m_waiting) (nI m_readSize) m_power m_left m_since m_changes (nI m_rowSize))), (ad 8, .inl (ct 0, 2, .inl m_waySize)), (ad 7, .inl (ct 1, 20000, .inl m_way)), (a_out, .inl (ct 3, 1, .inr (.inl g_out)))]) (wr := [(a_m, .inr (12, mfs ad m_thrown m_connections (nI m_size) (nI m_ids) (nI m_dataAll) (nI m_putCount) (nI m_waiting) (nI m_readSize) m_power m_left m_since m_changes (nI m_rowSize))), (ad 8, .inl (ct 0, 2, .inl m_waySize)), (ad 7, .inl (ct 1, 20000, .inl m_way))]) X hT (fun sz => c_L_octet_b l D ct ts hl a_this a_this_clientSide a_this_serverSide a_this_toServer a_this_toClient a_out v_connections ((xs 1)) ((xs 2)) g_out c_h_b sz) cal_L_octet mw_K_23 cwt_L_octet rfl ⟨by decide, by decide⟩ rfl rfl (Nat.le_of_ble_eq_true rfl) ⟨by decide, by decide⟩ [0, 4] [1, 2, 3] [0, 1, 2, 3] rfl (by decide) rfl (by decide) (by decide) (fun _ => rfl) (by decide) dL_law_530 (q := 533) rfl (fun r0 u0 hu0 => ?_)
  have hu0 : r0 = nI 1 := hu0
  subst hu0
  refine j_istore (lv' := [(5, .int (nI 1)), (4, .int (nI 0)), (3, .ref a_out), (2, .ref a_m), (1, .ref a_this), (0, .ref b)]) X dL_law_533 (by decide) rfl (q := 535) rfl ?_
  refine j_aload_n X 3 dL_law_535 rfl (q := 536) rfl ?_
  refine j_aload_n X 5 dL_law_536 rfl (q := 537) rfl ?_
  refine j_iload X 1 dL_law_537 rfl (q := 539) rfl ?_
  refine j_iconst (v := nI 1) X dL_law_539 (by decide) (q := 540) rfl ?_
  refine j_iadd X dL_law_540 (q := 541) rfl ?_
  refine j_eqi (show nI 0 + nI 1 = nI 1 by decide) ?_
  refine j_sld (j := 1) X hX hbl hbA (vp_in_nI (by omega) (by omega)) (nI_clamp (by omega)) dL_law_541 (q := 542) rfl ?_
  refine j_aload_n X 5 dL_law_542 rfl (q := 543) rfl ?_
  refine j_iload X 1 dL_law_543 rfl (q := 545) rfl ?_
  refine j_iconst (v := nI 2) X dL_law_545 (by decide) (q := 546) rfl ?_
  refine j_iadd X dL_law_546 (q := 547) rfl ?_
  refine j_eqi (show nI 0 + nI 2 = nI 2 by decide) ?_
  refine j_sld (j := 2) X hX hbl hbA (vp_in_nI (by omega) (by omega)) (nI_clamp (by omega)) dL_law_547 (q := 548) rfl ?_
  refine j_callVi (As := [.int (xs 1), .int (xs 2)]) (rest := []) (wn := fun u2 => [(a_m, .inr (12, mfs ad u2 m_connections (nI m_size) (nI m_ids) (nI m_dataAll) (nI m_putCount) (nI m_waiting) (nI m_readSize) m_power m_left m_since m_changes (nI m_rowSize))), (a_out, .inl (ct 3, 1, .inr (.inl g_out)))]) (wr := [(a_out, .inl (ct 3, 1, .inr (.inl g_out)))]) X (fun sz => c_X12_octet l D ct ts a_m ad m_thrown m_connections m_size m_ids m_dataAll m_putCount m_waiting m_readSize m_power m_left m_since m_changes m_rowSize m_waySize m_way ((xs 1)) ((xs 2)) m_hway sz) cal_X12_octet 0 rfl rfl mw_K_24 cwi_X12_octet cws_X12_octet rfl ⟨by decide, by decide⟩ rfl rfl (Nat.le_of_ble_eq_true rfl) ⟨by decide, by decide⟩ [0, 1, 2] [3] [1, 0] rfl (by decide) rfl (by decide) (by decide) (fun _ => rfl) (by decide) dL_law_548 (q := 551) rfl (fun r2 u2 hu2 => ?_)
  have ht2 : u2 = (f_X12_octet m_waySize m_way ((xs 1)) ((xs 2))).2 := congrArg (fun z => z.2) hu2
  have er2 : r2 = (f_X12_octet m_waySize m_way ((xs 1)) ((xs 2))).1 := congrArg Prod.fst hu2
  obtain ⟨tv, htv⟩ : ∃ tv : Int32, tv = u2 := ⟨_, rfl⟩
  refine j_ws (ws2 := [(a_m, .inr (12, mfs ad tv m_connections (nI m_size) (nI m_ids) (nI m_dataAll) (nI m_putCount) (nI m_waiting) (nI m_readSize) m_power m_left m_since m_changes (nI m_rowSize))), (a_out, .inl (ct 3, 1, .inr (.inl g_out)))]) (by rw [htv]) ?_
  have hk2 : tv = nI 1 := htv.trans (ht2.trans (by rw [e_m_waySize, mo_o]))
  have hb2 : r2 = nI 0 := er2.trans (by rw [e_m_waySize, mo_o])
  refine j_eqi hb2 ?_
  refine j_istore (lv' := [(6, .int (nI 0)), (5, .int (nI 1)), (4, .int (nI 0)), (3, .ref a_out), (2, .ref a_m), (1, .ref a_this), (0, .ref b)]) X dL_law_551 (by decide) rfl (q := 553) rfl ?_
  refine j_aload_n X 4 dL_law_553 rfl (q := 554) rfl ?_
  refine j_callVi (As := []) (rest := []) (wn := fun _ => [(a_out, .inl (ct 3, 1, .inr (.inl g_out)))]) (wr := [(a_out, .inl (ct 3, 1, .inr (.inl g_out)))]) X (fun sz => c_X12_thrown l D ct ts a_m ad tv m_connections m_size m_ids m_dataAll m_putCount m_waiting m_readSize m_power m_left m_since m_changes m_rowSize sz) cal_X12_thrown 0 rfl rfl mw_K_20 cwi_X12_thrown cws_X12_thrown rfl ⟨by decide, by decide⟩ rfl rfl (Nat.le_of_ble_eq_true rfl) ⟨by decide, by decide⟩ [0] [1] [0] rfl (by decide) rfl (by decide) (by decide) (fun _ => rfl) (by decide) dL_law_554 (q := 557) rfl (fun r2 u2 hu2 => ?_)
  have er2 : r2 = f_X12_thrown tv := hu2
  refine j_eqi er2 ?_
  refine j_iload X 1 dL_law_557 rfl (q := 559) rfl ?_
  refine j_icmp_eq (tgt := 564) X dL_law_559 (by decide) (q := 562) rfl (fun _ => ?_) (fun hne => absurd (show (f_X12_thrown tv) = (nI 1) from hk2) hne)
  refine j_iload X 1 dL_law_564 rfl (q := 566) rfl ?_
  refine j_if_ne (tgt := 581) X dL_law_566 (by decide) (q := 569) rfl (fun _ => ?_) (fun hne => absurd hne (by decide))
  refine j_goto (tgt := 775) X dL_law_581 (by decide) ?_
  refine j_perm (ws2 := []) [] rfl rfl ?_
  refine j_lv (lv' := [(0, .ref b), (4, .int (nI 0))]) [6, 2] rfl ?_
  refine j_wid (a := 600002) (b := 7302232) (by decide) (by decide) ?_
  exact kend
theorem mw_K_25 : Cond.methodLink "GuardedTreeLaw" 90 yL_alter ∈ tb := tb_at 840 (by decide +kernel) (by decide +kernel)
theorem mw_K_26 : Cond.methodLink "GuardedTreeLaw" 93 yX12_alter ∈ tb := tb_at 1628 (by decide +kernel) (by decide +kernel)
set_option maxHeartbeats 4000000 in
set_option maxRecDepth 100000 in
theorem k_alter {p : Program} {l : Launch} {e : Env} {s : State} {m : MethodId} {b : Nat} {below : List Frame} {meth : Method} {c : Code} {D : va_G} {ct : Nat → ClassId} {ts : Nat → Nat} {A : Nat → Prop} {xs : Nat → Int32} {a_m a_this a_this_clientSide a_this_serverSide a_this_toClient a_this_toServer a_this_toServer_bytes a_out : Nat} {ad : Nat → Nat} {m_changes : Int32} {m_connections : Int32} {m_dataAll : Nat} {m_ids : Nat} {m_left : Int32} {m_power : Int32} {m_putCount : Nat} {m_readSize : Nat} {m_rowSize : Nat} {m_since : Int32} {m_size : Nat} {m_thrown : Int32} {m_waiting : Nat} {m_way : Nat → Int32} {m_waySize : Nat → Int32} {v_connections : Int32} {v_toServer_size : Nat} (Y : LX p l s m meth c D ct ts A b xs) (c_h_x : (xs 1) = nI 0) (c_h_z : v_toServer_size = 0) (m_hway : ∀ j, j < 2 → ∃ m : Nat, m ≤ 9999 ∧ m_waySize j = nI m) (e_m_waySize : m_waySize = fun _ => 0) (kend : LJ p l e s m b below meth c D A 600002 7302232 [] [(0, .ref b), (4, .int (nI 0))] [] 775) : LJ p l e s m b below meth c D A 190 418642 [(a_this, .inr (11, [.ref a_this_clientSide, .ref a_this_serverSide, .ref a_this_toServer, .ref a_this_toClient, .int v_connections])), (a_this_toServer, .inr (6, [.ref a_this_toServer_bytes, .int (nI v_toServer_size)])), (a_m, .inr (12, mfs ad m_thrown m_connections (nI m_size) (nI m_ids) (nI m_dataAll) (nI m_putCount) (nI m_waiting) (nI m_readSize) m_power m_left m_since m_changes (nI m_rowSize))), (ad 8, .inl (ct 0, 2, .inl m_waySize)), (ad 7, .inl (ct 1, 20000, .inl m_way))] [(4, .int (nI 0)), (3, .ref a_out), (2, .ref a_m), (1, .ref a_this), (0, .ref b)] [] 584 := by
  obtain ⟨X, hT, hX, hbl, hbA, hl⟩ := Y
  refine j_aload_n X 3 dL_law_584 rfl (q := 585) rfl ?_
  refine j_aload_n X 4 dL_law_585 rfl (q := 586) rfl ?_
  refine j_iload X 0 dL_law_586 rfl (q := 588) rfl ?_
  refine j_iconst (v := nI 1) X dL_law_588 (by decide) (q := 589) rfl ?_
  refine j_iadd X dL_law_589 (q := 590) rfl ?_
  refine j_eqi (show nI 0 + nI 1 = nI 1 by decide) ?_
  refine j_sld (j := 1) X hX hbl hbA (vp_in_nI (by omega) (by omega)) (nI_clamp (by omega)) dL_law_590 (q := 591) rfl ?_
  refine j_aload_n X 4 dL_law_591 rfl (q := 592) rfl ?_
  refine j_iload X 0 dL_law_592 rfl (q := 594) rfl ?_
  refine j_iconst (v := nI 2) X dL_law_594 (by decide) (q := 595) rfl ?_
  refine j_iadd X dL_law_595 (q := 596) rfl ?_
  refine j_eqi (show nI 0 + nI 2 = nI 2 by decide) ?_
  refine j_sld (j := 2) X hX hbl hbA (vp_in_nI (by omega) (by omega)) (nI_clamp (by omega)) dL_law_596 (q := 597) rfl ?_
  refine j_aload_n X 4 dL_law_597 rfl (q := 598) rfl ?_
  refine j_iload X 0 dL_law_598 rfl (q := 600) rfl ?_
  refine j_iconst (v := nI 3) X dL_law_600 (by decide) (q := 601) rfl ?_
  refine j_iadd X dL_law_601 (q := 602) rfl ?_
  refine j_eqi (show nI 0 + nI 3 = nI 3 by decide) ?_
  refine j_sld (j := 3) X hX hbl hbA (vp_in_nI (by omega) (by omega)) (nI_clamp (by omega)) dL_law_602 (q := 603) rfl ?_
  refine j_callHi (As := [.ref a_this, .int (xs 1), .int (xs 2), .int (xs 3)]) (rest := []) (wn := fun _ => [(a_m, .inr (12, mfs ad m_thrown m_connections (nI m_size) (nI m_ids) (nI m_dataAll) (nI m_putCount) (nI m_waiting) (nI m_readSize) m_power m_left m_since m_changes (nI m_rowSize))), (ad 8, .inl (ct 0, 2, .inl m_waySize)), (ad 7, .inl (ct 1, 20000, .inl m_way))]) (wr := [(a_m, .inr (12, mfs ad m_thrown m_connections (nI m_size) (nI m_ids) (nI m_dataAll) (nI m_putCount) (nI m_waiting) (nI m_readSize) m_power m_left m_since m_changes (nI m_rowSize))), (ad 8, .inl (ct 0, 2, .inl m_waySize)), (ad 7, .inl (ct 1, 20000, .inl m_way))]) X hT (fun sz => c_L_alter l D ct ts hl a_this a_this_toServer a_this_clientSide a_this_serverSide a_this_toClient a_this_toServer_bytes v_connections v_toServer_size ((xs 1)) ((xs 2)) ((xs 3)) c_h_x c_h_z sz) cal_L_alter mw_K_25 cwt_L_alter rfl ⟨by decide, by decide⟩ rfl rfl (Nat.le_of_ble_eq_true rfl) ⟨by decide, by decide⟩ [0, 1] [2, 3, 4] [0, 1, 2] rfl (by decide) rfl (by decide) (by decide) (fun _ => rfl) (by decide) dL_law_603 (q := 606) rfl (fun r0 u0 hu0 => ?_)
  have hu0 : r0 = nI 1 := hu0
  subst hu0
  refine j_istore (lv' := [(5, .int (nI 1)), (4, .int (nI 0)), (3, .ref a_out), (2, .ref a_m), (1, .ref a_this), (0, .ref b)]) X dL_law_606 (by decide) rfl (q := 608) rfl ?_
  refine j_aload_n X 3 dL_law_608 rfl (q := 609) rfl ?_
  refine j_aload_n X 5 dL_law_609 rfl (q := 610) rfl ?_
  refine j_iload X 1 dL_law_610 rfl (q := 612) rfl ?_
  refine j_iconst (v := nI 1) X dL_law_612 (by decide) (q := 613) rfl ?_
  refine j_iadd X dL_law_613 (q := 614) rfl ?_
  refine j_eqi (show nI 0 + nI 1 = nI 1 by decide) ?_
  refine j_sld (j := 1) X hX hbl hbA (vp_in_nI (by omega) (by omega)) (nI_clamp (by omega)) dL_law_614 (q := 615) rfl ?_
  refine j_aload_n X 5 dL_law_615 rfl (q := 616) rfl ?_
  refine j_iload X 1 dL_law_616 rfl (q := 618) rfl ?_
  refine j_iconst (v := nI 2) X dL_law_618 (by decide) (q := 619) rfl ?_
  refine j_iadd X dL_law_619 (q := 620) rfl ?_
  refine j_eqi (show nI 0 + nI 2 = nI 2 by decide) ?_
  refine j_sld (j := 2) X hX hbl hbA (vp_in_nI (by omega) (by omega)) (nI_clamp (by omega)) dL_law_620 (q := 621) rfl ?_
  refine j_aload_n X 5 dL_law_621 rfl (q := 622) rfl ?_
  refine j_iload X 1 dL_law_622 rfl (q := 624) rfl ?_
  refine j_iconst (v := nI 3) X dL_law_624 (by decide) (q := 625) rfl ?_
  refine j_iadd X dL_law_625 (q := 626) rfl ?_
  refine j_eqi (show nI 0 + nI 3 = nI 3 by decide) ?_
  refine j_sld (j := 3) X hX hbl hbA (vp_in_nI (by omega) (by omega)) (nI_clamp (by omega)) dL_law_626 (q := 627) rfl ?_
  refine j_callVv (As := [.int (xs 1), .int (xs 2), .int (xs 3)]) (rest := []) (wn := fun u2 => [(a_m, .inr (12, mfs ad u2.1 m_connections (nI m_size) (nI m_ids) (nI m_dataAll) (nI m_putCount) (nI m_waiting) (nI m_readSize) m_power m_left m_since m_changes (nI m_rowSize)))]) (wr := []) X (fun sz => c_X12_alter l D ct ts a_m ad m_thrown m_connections m_size m_ids m_dataAll m_putCount m_waiting m_readSize m_power m_left m_since m_changes m_rowSize m_waySize m_way ((xs 1)) ((xs 2)) ((xs 3)) m_hway sz) cal_X12_alter 0 rfl rfl mw_K_26 cwi_X12_alter cws_X12_alter rfl ⟨by decide, by decide⟩ rfl rfl (Nat.le_of_ble_eq_true rfl) ⟨by decide, by decide⟩ [0, 1, 2] [] [0] rfl (by decide) rfl (by decide) (by decide) (fun _ => rfl) (by decide) dL_law_627 (q := 630) rfl (fun u2 hu2 => ?_)
  have ht2 : u2.1 = ((f_X12_alter m_waySize m_way ((xs 1)) ((xs 2)) ((xs 3)))).1 := congrArg (fun z => z.1) hu2
  obtain ⟨tv, htv⟩ : ∃ tv : Int32, tv = u2.1 := ⟨_, rfl⟩
  refine j_ws (ws2 := [(a_m, .inr (12, mfs ad tv m_connections (nI m_size) (nI m_ids) (nI m_dataAll) (nI m_putCount) (nI m_waiting) (nI m_readSize) m_power m_left m_since m_changes (nI m_rowSize)))]) (by rw [htv]) ?_
  have hk2 : tv = nI 1 := htv.trans (ht2.trans (by rw [e_m_waySize, mo_a]))
  refine j_aload_n X 3 dL_law_630 rfl (q := 631) rfl ?_
  refine j_callVi (As := []) (rest := []) (wn := fun _ => []) (wr := []) X (fun sz => c_X12_thrown l D ct ts a_m ad tv m_connections m_size m_ids m_dataAll m_putCount m_waiting m_readSize m_power m_left m_since m_changes m_rowSize sz) cal_X12_thrown 0 rfl rfl mw_K_20 cwi_X12_thrown cws_X12_thrown rfl ⟨by decide, by decide⟩ rfl rfl (Nat.le_of_ble_eq_true rfl) ⟨by decide, by decide⟩ [0] [] [] rfl (by decide) rfl (by decide) (by decide) (fun _ => rfl) (by decide) dL_law_631 (q := 634) rfl (fun r2 u2 hu2 => ?_)
  have er2 : r2 = f_X12_thrown tv := hu2
  refine j_eqi er2 ?_
  refine j_iload X 0 dL_law_634 rfl (q := 636) rfl ?_
  refine j_icmp_eq (tgt := 641) X dL_law_636 (by decide) (q := 639) rfl (fun _ => ?_) (fun hne => absurd (show (f_X12_thrown tv) = (nI 1) from hk2) hne)
  refine j_goto (tgt := 775) X dL_law_641 (by decide) ?_
  refine j_perm (ws2 := []) [] rfl rfl ?_
  refine j_lv (lv' := [(0, .ref b), (4, .int (nI 0))]) [5, 1] rfl ?_
  refine j_wid (a := 600002) (b := 7302232) (by decide) (by decide) ?_
  exact kend
set_option maxHeartbeats 4000000 in
set_option maxRecDepth 100000 in
theorem k_alter_1 {p : Program} {l : Launch} {e : Env} {s : State} {m : MethodId} {b : Nat} {below : List Frame} {meth : Method} {c : Code} {D : va_G} {ct : Nat → ClassId} {ts : Nat → Nat} {A : Nat → Prop} {xs : Nat → Int32} {a_m a_this a_this_clientSide a_this_serverSide a_this_toClient a_this_toClient_bytes a_this_toServer a_out : Nat} {ad : Nat → Nat} {m_changes : Int32} {m_connections : Int32} {m_dataAll : Nat} {m_ids : Nat} {m_left : Int32} {m_power : Int32} {m_putCount : Nat} {m_readSize : Nat} {m_rowSize : Nat} {m_since : Int32} {m_size : Nat} {m_thrown : Int32} {m_waiting : Nat} {m_way : Nat → Int32} {m_waySize : Nat → Int32} {v_connections : Int32} {v_toClient_size : Nat} (Y : LX p l s m meth c D ct ts A b xs) (c_h_x : (xs 1) = nI 1) (c_h_z : v_toClient_size = 0) (m_hway : ∀ j, j < 2 → ∃ m : Nat, m ≤ 9999 ∧ m_waySize j = nI m) (e_m_waySize : m_waySize = fun _ => 0) (kend : LJ p l e s m b below meth c D A 600002 7302232 [] [(0, .ref b), (4, .int (nI 0))] [] 775) : LJ p l e s m b below meth c D A 190 418642 [(a_this, .inr (11, [.ref a_this_clientSide, .ref a_this_serverSide, .ref a_this_toServer, .ref a_this_toClient, .int v_connections])), (a_this_toClient, .inr (6, [.ref a_this_toClient_bytes, .int (nI v_toClient_size)])), (a_m, .inr (12, mfs ad m_thrown m_connections (nI m_size) (nI m_ids) (nI m_dataAll) (nI m_putCount) (nI m_waiting) (nI m_readSize) m_power m_left m_since m_changes (nI m_rowSize))), (ad 8, .inl (ct 0, 2, .inl m_waySize)), (ad 7, .inl (ct 1, 20000, .inl m_way))] [(4, .int (nI 0)), (3, .ref a_out), (2, .ref a_m), (1, .ref a_this), (0, .ref b)] [] 584 := by
  obtain ⟨X, hT, hX, hbl, hbA, hl⟩ := Y
  refine j_aload_n X 3 dL_law_584 rfl (q := 585) rfl ?_
  refine j_aload_n X 4 dL_law_585 rfl (q := 586) rfl ?_
  refine j_iload X 0 dL_law_586 rfl (q := 588) rfl ?_
  refine j_iconst (v := nI 1) X dL_law_588 (by decide) (q := 589) rfl ?_
  refine j_iadd X dL_law_589 (q := 590) rfl ?_
  refine j_eqi (show nI 0 + nI 1 = nI 1 by decide) ?_
  refine j_sld (j := 1) X hX hbl hbA (vp_in_nI (by omega) (by omega)) (nI_clamp (by omega)) dL_law_590 (q := 591) rfl ?_
  refine j_aload_n X 4 dL_law_591 rfl (q := 592) rfl ?_
  refine j_iload X 0 dL_law_592 rfl (q := 594) rfl ?_
  refine j_iconst (v := nI 2) X dL_law_594 (by decide) (q := 595) rfl ?_
  refine j_iadd X dL_law_595 (q := 596) rfl ?_
  refine j_eqi (show nI 0 + nI 2 = nI 2 by decide) ?_
  refine j_sld (j := 2) X hX hbl hbA (vp_in_nI (by omega) (by omega)) (nI_clamp (by omega)) dL_law_596 (q := 597) rfl ?_
  refine j_aload_n X 4 dL_law_597 rfl (q := 598) rfl ?_
  refine j_iload X 0 dL_law_598 rfl (q := 600) rfl ?_
  refine j_iconst (v := nI 3) X dL_law_600 (by decide) (q := 601) rfl ?_
  refine j_iadd X dL_law_601 (q := 602) rfl ?_
  refine j_eqi (show nI 0 + nI 3 = nI 3 by decide) ?_
  refine j_sld (j := 3) X hX hbl hbA (vp_in_nI (by omega) (by omega)) (nI_clamp (by omega)) dL_law_602 (q := 603) rfl ?_
  refine j_callHi (As := [.ref a_this, .int (xs 1), .int (xs 2), .int (xs 3)]) (rest := []) (wn := fun _ => [(a_m, .inr (12, mfs ad m_thrown m_connections (nI m_size) (nI m_ids) (nI m_dataAll) (nI m_putCount) (nI m_waiting) (nI m_readSize) m_power m_left m_since m_changes (nI m_rowSize))), (ad 8, .inl (ct 0, 2, .inl m_waySize)), (ad 7, .inl (ct 1, 20000, .inl m_way))]) (wr := [(a_m, .inr (12, mfs ad m_thrown m_connections (nI m_size) (nI m_ids) (nI m_dataAll) (nI m_putCount) (nI m_waiting) (nI m_readSize) m_power m_left m_since m_changes (nI m_rowSize))), (ad 8, .inl (ct 0, 2, .inl m_waySize)), (ad 7, .inl (ct 1, 20000, .inl m_way))]) X hT (fun sz => c_L_alter_1 l D ct ts hl a_this a_this_toClient a_this_clientSide a_this_serverSide a_this_toServer a_this_toClient_bytes v_connections v_toClient_size ((xs 1)) ((xs 2)) ((xs 3)) c_h_x c_h_z sz) cal_L_alter mw_K_25 cwt_L_alter rfl ⟨by decide, by decide⟩ rfl rfl (Nat.le_of_ble_eq_true rfl) ⟨by decide, by decide⟩ [0, 1] [2, 3, 4] [0, 1, 2] rfl (by decide) rfl (by decide) (by decide) (fun _ => rfl) (by decide) dL_law_603 (q := 606) rfl (fun r0 u0 hu0 => ?_)
  have hu0 : r0 = nI 1 := hu0
  subst hu0
  refine j_istore (lv' := [(5, .int (nI 1)), (4, .int (nI 0)), (3, .ref a_out), (2, .ref a_m), (1, .ref a_this), (0, .ref b)]) X dL_law_606 (by decide) rfl (q := 608) rfl ?_
  refine j_aload_n X 3 dL_law_608 rfl (q := 609) rfl ?_
  refine j_aload_n X 5 dL_law_609 rfl (q := 610) rfl ?_
  refine j_iload X 1 dL_law_610 rfl (q := 612) rfl ?_
  refine j_iconst (v := nI 1) X dL_law_612 (by decide) (q := 613) rfl ?_
  refine j_iadd X dL_law_613 (q := 614) rfl ?_
  refine j_eqi (show nI 0 + nI 1 = nI 1 by decide) ?_
  refine j_sld (j := 1) X hX hbl hbA (vp_in_nI (by omega) (by omega)) (nI_clamp (by omega)) dL_law_614 (q := 615) rfl ?_
  refine j_aload_n X 5 dL_law_615 rfl (q := 616) rfl ?_
  refine j_iload X 1 dL_law_616 rfl (q := 618) rfl ?_
  refine j_iconst (v := nI 2) X dL_law_618 (by decide) (q := 619) rfl ?_
  refine j_iadd X dL_law_619 (q := 620) rfl ?_
  refine j_eqi (show nI 0 + nI 2 = nI 2 by decide) ?_
  refine j_sld (j := 2) X hX hbl hbA (vp_in_nI (by omega) (by omega)) (nI_clamp (by omega)) dL_law_620 (q := 621) rfl ?_
  refine j_aload_n X 5 dL_law_621 rfl (q := 622) rfl ?_
  refine j_iload X 1 dL_law_622 rfl (q := 624) rfl ?_
  refine j_iconst (v := nI 3) X dL_law_624 (by decide) (q := 625) rfl ?_
  refine j_iadd X dL_law_625 (q := 626) rfl ?_
  refine j_eqi (show nI 0 + nI 3 = nI 3 by decide) ?_
  refine j_sld (j := 3) X hX hbl hbA (vp_in_nI (by omega) (by omega)) (nI_clamp (by omega)) dL_law_626 (q := 627) rfl ?_
  refine j_callVv (As := [.int (xs 1), .int (xs 2), .int (xs 3)]) (rest := []) (wn := fun u2 => [(a_m, .inr (12, mfs ad u2.1 m_connections (nI m_size) (nI m_ids) (nI m_dataAll) (nI m_putCount) (nI m_waiting) (nI m_readSize) m_power m_left m_since m_changes (nI m_rowSize)))]) (wr := []) X (fun sz => c_X12_alter l D ct ts a_m ad m_thrown m_connections m_size m_ids m_dataAll m_putCount m_waiting m_readSize m_power m_left m_since m_changes m_rowSize m_waySize m_way ((xs 1)) ((xs 2)) ((xs 3)) m_hway sz) cal_X12_alter 0 rfl rfl mw_K_26 cwi_X12_alter cws_X12_alter rfl ⟨by decide, by decide⟩ rfl rfl (Nat.le_of_ble_eq_true rfl) ⟨by decide, by decide⟩ [0, 1, 2] [] [0] rfl (by decide) rfl (by decide) (by decide) (fun _ => rfl) (by decide) dL_law_627 (q := 630) rfl (fun u2 hu2 => ?_)
  have ht2 : u2.1 = ((f_X12_alter m_waySize m_way ((xs 1)) ((xs 2)) ((xs 3)))).1 := congrArg (fun z => z.1) hu2
  obtain ⟨tv, htv⟩ : ∃ tv : Int32, tv = u2.1 := ⟨_, rfl⟩
  refine j_ws (ws2 := [(a_m, .inr (12, mfs ad tv m_connections (nI m_size) (nI m_ids) (nI m_dataAll) (nI m_putCount) (nI m_waiting) (nI m_readSize) m_power m_left m_since m_changes (nI m_rowSize)))]) (by rw [htv]) ?_
  have hk2 : tv = nI 1 := htv.trans (ht2.trans (by rw [e_m_waySize, mo_a]))
  refine j_aload_n X 3 dL_law_630 rfl (q := 631) rfl ?_
  refine j_callVi (As := []) (rest := []) (wn := fun _ => []) (wr := []) X (fun sz => c_X12_thrown l D ct ts a_m ad tv m_connections m_size m_ids m_dataAll m_putCount m_waiting m_readSize m_power m_left m_since m_changes m_rowSize sz) cal_X12_thrown 0 rfl rfl mw_K_20 cwi_X12_thrown cws_X12_thrown rfl ⟨by decide, by decide⟩ rfl rfl (Nat.le_of_ble_eq_true rfl) ⟨by decide, by decide⟩ [0] [] [] rfl (by decide) rfl (by decide) (by decide) (fun _ => rfl) (by decide) dL_law_631 (q := 634) rfl (fun r2 u2 hu2 => ?_)
  have er2 : r2 = f_X12_thrown tv := hu2
  refine j_eqi er2 ?_
  refine j_iload X 0 dL_law_634 rfl (q := 636) rfl ?_
  refine j_icmp_eq (tgt := 641) X dL_law_636 (by decide) (q := 639) rfl (fun _ => ?_) (fun hne => absurd (show (f_X12_thrown tv) = (nI 1) from hk2) hne)
  refine j_goto (tgt := 775) X dL_law_641 (by decide) ?_
  refine j_perm (ws2 := []) [] rfl rfl ?_
  refine j_lv (lv' := [(0, .ref b), (4, .int (nI 0))]) [5, 1] rfl ?_
  refine j_wid (a := 600002) (b := 7302232) (by decide) (by decide) ?_
  exact kend
set_option maxHeartbeats 4000000 in
set_option maxRecDepth 100000 in
theorem k_alter_b {p : Program} {l : Launch} {e : Env} {s : State} {m : MethodId} {b : Nat} {below : List Frame} {meth : Method} {c : Code} {D : va_G} {ct : Nat → ClassId} {ts : Nat → Nat} {A : Nat → Prop} {xs : Nat → Int32} {a_m a_this a_this_clientSide a_this_serverSide a_this_toClient a_this_toServer a_out : Nat} {ad : Nat → Nat} {m_changes : Int32} {m_connections : Int32} {m_dataAll : Nat} {m_ids : Nat} {m_left : Int32} {m_power : Int32} {m_putCount : Nat} {m_readSize : Nat} {m_rowSize : Nat} {m_since : Int32} {m_size : Nat} {m_thrown : Int32} {m_waiting : Nat} {m_way : Nat → Int32} {m_waySize : Nat → Int32} {v_connections : Int32} (Y : LX p l s m meth c D ct ts A b xs) (c_h_b : (xs 1) < 0 ∨ ¬ (xs 1) ≤ nI 1) (m_hway : ∀ j, j < 2 → ∃ m : Nat, m ≤ 9999 ∧ m_waySize j = nI m) (e_m_waySize : m_waySize = fun _ => 0) (kend : LJ p l e s m b below meth c D A 600002 7302232 [] [(0, .ref b), (4, .int (nI 0))] [] 775) : LJ p l e s m b below meth c D A 190 418642 [(a_this, .inr (11, [.ref a_this_clientSide, .ref a_this_serverSide, .ref a_this_toServer, .ref a_this_toClient, .int v_connections])), (a_m, .inr (12, mfs ad m_thrown m_connections (nI m_size) (nI m_ids) (nI m_dataAll) (nI m_putCount) (nI m_waiting) (nI m_readSize) m_power m_left m_since m_changes (nI m_rowSize))), (ad 8, .inl (ct 0, 2, .inl m_waySize)), (ad 7, .inl (ct 1, 20000, .inl m_way))] [(4, .int (nI 0)), (3, .ref a_out), (2, .ref a_m), (1, .ref a_this), (0, .ref b)] [] 584 := by
  obtain ⟨X, hT, hX, hbl, hbA, hl⟩ := Y
  refine j_aload_n X 3 dL_law_584 rfl (q := 585) rfl ?_
  refine j_aload_n X 4 dL_law_585 rfl (q := 586) rfl ?_
  refine j_iload X 0 dL_law_586 rfl (q := 588) rfl ?_
  refine j_iconst (v := nI 1) X dL_law_588 (by decide) (q := 589) rfl ?_
  refine j_iadd X dL_law_589 (q := 590) rfl ?_
  refine j_eqi (show nI 0 + nI 1 = nI 1 by decide) ?_
  refine j_sld (j := 1) X hX hbl hbA (vp_in_nI (by omega) (by omega)) (nI_clamp (by omega)) dL_law_590 (q := 591) rfl ?_
  refine j_aload_n X 4 dL_law_591 rfl (q := 592) rfl ?_
  refine j_iload X 0 dL_law_592 rfl (q := 594) rfl ?_
  refine j_iconst (v := nI 2) X dL_law_594 (by decide) (q := 595) rfl ?_
  refine j_iadd X dL_law_595 (q := 596) rfl ?_
  refine j_eqi (show nI 0 + nI 2 = nI 2 by decide) ?_
  refine j_sld (j := 2) X hX hbl hbA (vp_in_nI (by omega) (by omega)) (nI_clamp (by omega)) dL_law_596 (q := 597) rfl ?_
  refine j_aload_n X 4 dL_law_597 rfl (q := 598) rfl ?_
  refine j_iload X 0 dL_law_598 rfl (q := 600) rfl ?_
  refine j_iconst (v := nI 3) X dL_law_600 (by decide) (q := 601) rfl ?_
  refine j_iadd X dL_law_601 (q := 602) rfl ?_
  refine j_eqi (show nI 0 + nI 3 = nI 3 by decide) ?_
  refine j_sld (j := 3) X hX hbl hbA (vp_in_nI (by omega) (by omega)) (nI_clamp (by omega)) dL_law_602 (q := 603) rfl ?_
  refine j_callHi (As := [.ref a_this, .int (xs 1), .int (xs 2), .int (xs 3)]) (rest := []) (wn := fun _ => [(a_m, .inr (12, mfs ad m_thrown m_connections (nI m_size) (nI m_ids) (nI m_dataAll) (nI m_putCount) (nI m_waiting) (nI m_readSize) m_power m_left m_since m_changes (nI m_rowSize))), (ad 8, .inl (ct 0, 2, .inl m_waySize)), (ad 7, .inl (ct 1, 20000, .inl m_way))]) (wr := [(a_m, .inr (12, mfs ad m_thrown m_connections (nI m_size) (nI m_ids) (nI m_dataAll) (nI m_putCount) (nI m_waiting) (nI m_readSize) m_power m_left m_since m_changes (nI m_rowSize))), (ad 8, .inl (ct 0, 2, .inl m_waySize)), (ad 7, .inl (ct 1, 20000, .inl m_way))]) X hT (fun sz => c_L_alter_b l D ct ts hl a_this a_this_clientSide a_this_serverSide a_this_toServer a_this_toClient v_connections ((xs 1)) ((xs 2)) ((xs 3)) c_h_b sz) cal_L_alter mw_K_25 cwt_L_alter rfl ⟨by decide, by decide⟩ rfl rfl (Nat.le_of_ble_eq_true rfl) ⟨by decide, by decide⟩ [0] [1, 2, 3] [0, 1, 2] rfl (by decide) rfl (by decide) (by decide) (fun _ => rfl) (by decide) dL_law_603 (q := 606) rfl (fun r0 u0 hu0 => ?_)
  have hu0 : r0 = nI 1 := hu0
  subst hu0
  refine j_istore (lv' := [(5, .int (nI 1)), (4, .int (nI 0)), (3, .ref a_out), (2, .ref a_m), (1, .ref a_this), (0, .ref b)]) X dL_law_606 (by decide) rfl (q := 608) rfl ?_
  refine j_aload_n X 3 dL_law_608 rfl (q := 609) rfl ?_
  refine j_aload_n X 5 dL_law_609 rfl (q := 610) rfl ?_
  refine j_iload X 1 dL_law_610 rfl (q := 612) rfl ?_
  refine j_iconst (v := nI 1) X dL_law_612 (by decide) (q := 613) rfl ?_
  refine j_iadd X dL_law_613 (q := 614) rfl ?_
  refine j_eqi (show nI 0 + nI 1 = nI 1 by decide) ?_
  refine j_sld (j := 1) X hX hbl hbA (vp_in_nI (by omega) (by omega)) (nI_clamp (by omega)) dL_law_614 (q := 615) rfl ?_
  refine j_aload_n X 5 dL_law_615 rfl (q := 616) rfl ?_
  refine j_iload X 1 dL_law_616 rfl (q := 618) rfl ?_
  refine j_iconst (v := nI 2) X dL_law_618 (by decide) (q := 619) rfl ?_
  refine j_iadd X dL_law_619 (q := 620) rfl ?_
  refine j_eqi (show nI 0 + nI 2 = nI 2 by decide) ?_
  refine j_sld (j := 2) X hX hbl hbA (vp_in_nI (by omega) (by omega)) (nI_clamp (by omega)) dL_law_620 (q := 621) rfl ?_
  refine j_aload_n X 5 dL_law_621 rfl (q := 622) rfl ?_
  refine j_iload X 1 dL_law_622 rfl (q := 624) rfl ?_
  refine j_iconst (v := nI 3) X dL_law_624 (by decide) (q := 625) rfl ?_
  refine j_iadd X dL_law_625 (q := 626) rfl ?_
  refine j_eqi (show nI 0 + nI 3 = nI 3 by decide) ?_
  refine j_sld (j := 3) X hX hbl hbA (vp_in_nI (by omega) (by omega)) (nI_clamp (by omega)) dL_law_626 (q := 627) rfl ?_
  refine j_callVv (As := [.int (xs 1), .int (xs 2), .int (xs 3)]) (rest := []) (wn := fun u2 => [(a_m, .inr (12, mfs ad u2.1 m_connections (nI m_size) (nI m_ids) (nI m_dataAll) (nI m_putCount) (nI m_waiting) (nI m_readSize) m_power m_left m_since m_changes (nI m_rowSize)))]) (wr := []) X (fun sz => c_X12_alter l D ct ts a_m ad m_thrown m_connections m_size m_ids m_dataAll m_putCount m_waiting m_readSize m_power m_left m_since m_changes m_rowSize m_waySize m_way ((xs 1)) ((xs 2)) ((xs 3)) m_hway sz) cal_X12_alter 0 rfl rfl mw_K_26 cwi_X12_alter cws_X12_alter rfl ⟨by decide, by decide⟩ rfl rfl (Nat.le_of_ble_eq_true rfl) ⟨by decide, by decide⟩ [0, 1, 2] [] [0] rfl (by decide) rfl (by decide) (by decide) (fun _ => rfl) (by decide) dL_law_627 (q := 630) rfl (fun u2 hu2 => ?_)
  have ht2 : u2.1 = ((f_X12_alter m_waySize m_way ((xs 1)) ((xs 2)) ((xs 3)))).1 := congrArg (fun z => z.1) hu2
  obtain ⟨tv, htv⟩ : ∃ tv : Int32, tv = u2.1 := ⟨_, rfl⟩
  refine j_ws (ws2 := [(a_m, .inr (12, mfs ad tv m_connections (nI m_size) (nI m_ids) (nI m_dataAll) (nI m_putCount) (nI m_waiting) (nI m_readSize) m_power m_left m_since m_changes (nI m_rowSize)))]) (by rw [htv]) ?_
  have hk2 : tv = nI 1 := htv.trans (ht2.trans (by rw [e_m_waySize, mo_a]))
  refine j_aload_n X 3 dL_law_630 rfl (q := 631) rfl ?_
  refine j_callVi (As := []) (rest := []) (wn := fun _ => []) (wr := []) X (fun sz => c_X12_thrown l D ct ts a_m ad tv m_connections m_size m_ids m_dataAll m_putCount m_waiting m_readSize m_power m_left m_since m_changes m_rowSize sz) cal_X12_thrown 0 rfl rfl mw_K_20 cwi_X12_thrown cws_X12_thrown rfl ⟨by decide, by decide⟩ rfl rfl (Nat.le_of_ble_eq_true rfl) ⟨by decide, by decide⟩ [0] [] [] rfl (by decide) rfl (by decide) (by decide) (fun _ => rfl) (by decide) dL_law_631 (q := 634) rfl (fun r2 u2 hu2 => ?_)
  have er2 : r2 = f_X12_thrown tv := hu2
  refine j_eqi er2 ?_
  refine j_iload X 0 dL_law_634 rfl (q := 636) rfl ?_
  refine j_icmp_eq (tgt := 641) X dL_law_636 (by decide) (q := 639) rfl (fun _ => ?_) (fun hne => absurd (show (f_X12_thrown tv) = (nI 1) from hk2) hne)
  refine j_goto (tgt := 775) X dL_law_641 (by decide) ?_
  refine j_perm (ws2 := []) [] rfl rfl ?_
  refine j_lv (lv' := [(0, .ref b), (4, .int (nI 0))]) [5, 1] rfl ?_
  refine j_wid (a := 600002) (b := 7302232) (by decide) (by decide) ?_
  exact kend
theorem mw_K_27 : Cond.methodLink "GuardedTreeLaw" 94 yL_move ∈ tb := tb_at 847 (by decide +kernel) (by decide +kernel)
theorem mw_K_28 : Cond.methodLink "GuardedTreeLaw" 96 yX12_move ∈ tb := tb_at 1632 (by decide +kernel) (by decide +kernel)
set_option maxHeartbeats 4000000 in
set_option maxRecDepth 100000 in
theorem k_move {p : Program} {l : Launch} {e : Env} {s : State} {m : MethodId} {b : Nat} {below : List Frame} {meth : Method} {c : Code} {D : va_G} {ct : Nat → ClassId} {ts : Nat → Nat} {A : Nat → Prop} {xs : Nat → Int32} {a_m a_out a_this a_this_clientSide a_this_serverSide a_this_toClient a_this_toServer a_this_toServer_bytes : Nat} {ad : Nat → Nat} {f_toServer_bytes : Nat → Int32} {m_cameSize : Nat → Int32} {m_changes : Int32} {m_connections : Int32} {m_dataAll : Nat} {m_ids : Nat} {m_left : Int32} {m_power : Int32} {m_putCount : Nat} {m_readSize : Nat} {m_rowSize : Nat} {m_since : Int32} {m_size : Nat} {m_state : Nat → Int32} {m_thrown : Int32} {m_waiting : Nat} {m_waySize : Nat → Int32} {v_connections : Int32} {v_toServer_size : Nat} {g_out : Nat → Int64} (Y : LX p l s m meth c D ct ts A b xs) (c_h_x : (xs 1) = nI 0) (c_h_z : v_toServer_size = 0) (m_h_s0 : ∀ j, j < 2 → m_state j = nI 0) (m_h_w0 : ∀ j, j < 2 → m_waySize j = nI 0) (e_m_waySize : m_waySize = fun _ => 0) (kend : LJ p l e s m b below meth c D A 600002 7302232 [] [(0, .ref b), (4, .int (nI 0))] [] 775) : LJ p l e s m b below meth c D A 190 418642 [(a_this, .inr (11, [.ref a_this_clientSide, .ref a_this_serverSide, .ref a_this_toServer, .ref a_this_toClient, .int v_connections])), (a_this_toServer, .inr (6, [.ref a_this_toServer_bytes, .int (nI v_toServer_size)])), (a_this_toServer_bytes, .inl (ct 1, 3160, .inl f_toServer_bytes)), (a_m, .inr (12, mfs ad m_thrown m_connections (nI m_size) (nI m_ids) (nI m_dataAll) (nI m_putCount) (nI m_waiting) (nI m_readSize) m_power m_left m_since m_changes (nI m_rowSize))), (ad 8, .inl (ct 0, 2, .inl m_waySize)), (ad 2, .inl (ct 0, 2, .inl m_state)), (ad 6, .inl (ct 0, 2, .inl m_cameSize)), (a_out, .inl (ct 3, 1, .inr (.inl g_out)))] [(4, .int (nI 0)), (3, .ref a_out), (2, .ref a_m), (1, .ref a_this), (0, .ref b)] [] 644 := by
  obtain ⟨X, hT, hX, hbl, hbA, hl⟩ := Y
  refine j_aload_n X 3 dL_law_644 rfl (q := 645) rfl ?_
  refine j_aload_n X 4 dL_law_645 rfl (q := 646) rfl ?_
  refine j_iload X 0 dL_law_646 rfl (q := 648) rfl ?_
  refine j_iconst (v := nI 1) X dL_law_648 (by decide) (q := 649) rfl ?_
  refine j_iadd X dL_law_649 (q := 650) rfl ?_
  refine j_eqi (show nI 0 + nI 1 = nI 1 by decide) ?_
  refine j_sld (j := 1) X hX hbl hbA (vp_in_nI (by omega) (by omega)) (nI_clamp (by omega)) dL_law_650 (q := 651) rfl ?_
  refine j_aload_n X 4 dL_law_651 rfl (q := 652) rfl ?_
  refine j_iload X 0 dL_law_652 rfl (q := 654) rfl ?_
  refine j_iconst (v := nI 2) X dL_law_654 (by decide) (q := 655) rfl ?_
  refine j_iadd X dL_law_655 (q := 656) rfl ?_
  refine j_eqi (show nI 0 + nI 2 = nI 2 by decide) ?_
  refine j_sld (j := 2) X hX hbl hbA (vp_in_nI (by omega) (by omega)) (nI_clamp (by omega)) dL_law_656 (q := 657) rfl ?_
  refine j_aload_n X 1 dL_law_657 rfl (q := 658) rfl ?_
  refine j_callHi (As := [.ref a_this, .int (xs 1), .int (xs 2), .ref a_out]) (rest := []) (wn := fun _ => [(a_m, .inr (12, mfs ad m_thrown m_connections (nI m_size) (nI m_ids) (nI m_dataAll) (nI m_putCount) (nI m_waiting) (nI m_readSize) m_power m_left m_since m_changes (nI m_rowSize))), (ad 8, .inl (ct 0, 2, .inl m_waySize)), (ad 2, .inl (ct 0, 2, .inl m_state)), (ad 6, .inl (ct 0, 2, .inl m_cameSize)), (a_out, .inl (ct 3, 1, .inr (.inl (vp_updL g_out 0 (Int32.toInt64 (f_X11_move v_toServer_size f_toServer_bytes (xs 2)).1)))))]) (wr := [(a_m, .inr (12, mfs ad m_thrown m_connections (nI m_size) (nI m_ids) (nI m_dataAll) (nI m_putCount) (nI m_waiting) (nI m_readSize) m_power m_left m_since m_changes (nI m_rowSize))), (ad 8, .inl (ct 0, 2, .inl m_waySize)), (ad 2, .inl (ct 0, 2, .inl m_state)), (ad 6, .inl (ct 0, 2, .inl m_cameSize))]) X hT (fun sz => c_L_move l D ct ts a_this a_this_toServer a_this_toServer_bytes a_this_clientSide a_this_serverSide a_this_toClient a_out v_connections v_toServer_size f_toServer_bytes ((xs 1)) ((xs 2)) g_out c_h_x c_h_z sz) cal_L_move mw_K_27 cwt_L_move rfl ⟨by decide, by decide⟩ rfl rfl (Nat.le_of_ble_eq_true rfl) ⟨by decide, by decide⟩ [0, 1, 2, 7] [3, 4, 5, 6] [0, 1, 2, 3, 4] rfl (by decide) rfl (by decide) (by decide) (fun _ => rfl) (by decide) dL_law_658 (q := 661) rfl (fun r0 u0 hu0 => ?_)
  have hu0 : r0 = nI 0 := hu0
  subst hu0
  refine j_istore (lv' := [(5, .int (nI 0)), (4, .int (nI 0)), (3, .ref a_out), (2, .ref a_m), (1, .ref a_this), (0, .ref b)]) X dL_law_661 (by decide) rfl (q := 663) rfl ?_
  refine j_aload_n X 3 dL_law_663 rfl (q := 664) rfl ?_
  refine j_aload_n X 5 dL_law_664 rfl (q := 665) rfl ?_
  refine j_iload X 1 dL_law_665 rfl (q := 667) rfl ?_
  refine j_iconst (v := nI 1) X dL_law_667 (by decide) (q := 668) rfl ?_
  refine j_iadd X dL_law_668 (q := 669) rfl ?_
  refine j_eqi (show nI 0 + nI 1 = nI 1 by decide) ?_
  refine j_sld (j := 1) X hX hbl hbA (vp_in_nI (by omega) (by omega)) (nI_clamp (by omega)) dL_law_669 (q := 670) rfl ?_
  refine j_aload_n X 5 dL_law_670 rfl (q := 671) rfl ?_
  refine j_iload X 1 dL_law_671 rfl (q := 673) rfl ?_
  refine j_iconst (v := nI 2) X dL_law_673 (by decide) (q := 674) rfl ?_
  refine j_iadd X dL_law_674 (q := 675) rfl ?_
  refine j_eqi (show nI 0 + nI 2 = nI 2 by decide) ?_
  refine j_sld (j := 2) X hX hbl hbA (vp_in_nI (by omega) (by omega)) (nI_clamp (by omega)) dL_law_675 (q := 676) rfl ?_
  refine j_callVi (As := [.int (xs 1), .int (xs 2)]) (rest := []) (wn := fun u2 => [(a_m, .inr (12, mfs ad u2.1 m_connections (nI m_size) (nI m_ids) (nI m_dataAll) (nI m_putCount) (nI m_waiting) (nI m_readSize) m_power m_left m_since m_changes (nI m_rowSize))), (a_out, .inl (ct 3, 1, .inr (.inl (vp_updL g_out 0 (Int32.toInt64 (f_X11_move v_toServer_size f_toServer_bytes (xs 2)).1)))))]) (wr := [(a_out, .inl (ct 3, 1, .inr (.inl (vp_updL g_out 0 (Int32.toInt64 (f_X11_move v_toServer_size f_toServer_bytes (xs 2)).1)))))]) X (fun sz => c_X12_move l D ct ts a_m ad m_thrown m_connections m_size m_ids m_dataAll m_putCount m_waiting m_readSize m_power m_left m_since m_changes m_rowSize m_waySize m_state m_cameSize ((xs 1)) ((xs 2)) m_h_s0 m_h_w0 sz) cal_X12_move 0 rfl rfl mw_K_28 cwi_X12_move cws_X12_move rfl ⟨by decide, by decide⟩ rfl rfl (Nat.le_of_ble_eq_true rfl) ⟨by decide, by decide⟩ [0, 1, 2, 3] [4] [1, 0] rfl (by decide) rfl (by decide) (by decide) (fun _ => rfl) (by decide) dL_law_676 (q := 679) rfl (fun r2 u2 hu2 => ?_)
  have ht2 : u2.1 = ((f_X12_move m_waySize m_cameSize ((xs 1)) ((xs 2))).2).1 := congrArg (fun z => z.2.1) hu2
  have er2 : r2 = (f_X12_move m_waySize m_cameSize ((xs 1)) ((xs 2))).1 := congrArg Prod.fst hu2
  obtain ⟨tv, htv⟩ : ∃ tv : Int32, tv = u2.1 := ⟨_, rfl⟩
  refine j_ws (ws2 := [(a_m, .inr (12, mfs ad tv m_connections (nI m_size) (nI m_ids) (nI m_dataAll) (nI m_putCount) (nI m_waiting) (nI m_readSize) m_power m_left m_since m_changes (nI m_rowSize))), (a_out, .inl (ct 3, 1, .inr (.inl (vp_updL g_out 0 (Int32.toInt64 (f_X11_move v_toServer_size f_toServer_bytes (xs 2)).1)))))]) (by rw [htv]) ?_
  have hk2 : tv = nI 0 := htv.trans (ht2.trans (by rw [e_m_waySize]; exact (mv_k (by rw [c_h_x]; exact vp_in_nI (by omega) (by omega)) (by rw [c_h_x]; rfl)).2))
  have hb2 : r2 = nI 0 := er2.trans (by rw [e_m_waySize]; exact (mv_k (by rw [c_h_x]; exact vp_in_nI (by omega) (by omega)) (by rw [c_h_x]; rfl)).1)
  refine j_eqi hb2 ?_
  refine j_istore (lv' := [(6, .int (nI 0)), (5, .int (nI 0)), (4, .int (nI 0)), (3, .ref a_out), (2, .ref a_m), (1, .ref a_this), (0, .ref b)]) X dL_law_679 (by decide) rfl (q := 681) rfl ?_
  refine j_aload_n X 4 dL_law_681 rfl (q := 682) rfl ?_
  refine j_callVi (As := []) (rest := []) (wn := fun _ => [(a_out, .inl (ct 3, 1, .inr (.inl (vp_updL g_out 0 (Int32.toInt64 (f_X11_move v_toServer_size f_toServer_bytes (xs 2)).1)))))]) (wr := [(a_out, .inl (ct 3, 1, .inr (.inl (vp_updL g_out 0 (Int32.toInt64 (f_X11_move v_toServer_size f_toServer_bytes (xs 2)).1)))))]) X (fun sz => c_X12_thrown l D ct ts a_m ad tv m_connections m_size m_ids m_dataAll m_putCount m_waiting m_readSize m_power m_left m_since m_changes m_rowSize sz) cal_X12_thrown 0 rfl rfl mw_K_20 cwi_X12_thrown cws_X12_thrown rfl ⟨by decide, by decide⟩ rfl rfl (Nat.le_of_ble_eq_true rfl) ⟨by decide, by decide⟩ [0] [1] [0] rfl (by decide) rfl (by decide) (by decide) (fun _ => rfl) (by decide) dL_law_682 (q := 685) rfl (fun r2 u2 hu2 => ?_)
  have er2 : r2 = f_X12_thrown tv := hu2
  refine j_eqi er2 ?_
  refine j_iload X 1 dL_law_685 rfl (q := 687) rfl ?_
  refine j_icmp_eq (tgt := 692) X dL_law_687 (by decide) (q := 690) rfl (fun _ => ?_) (fun hne => absurd (show (f_X12_thrown tv) = (nI 0) from hk2) hne)
  refine j_iload X 1 dL_law_692 rfl (q := 694) rfl ?_
  refine j_if_ne (tgt := 709) X dL_law_694 (by decide) (q := 697) rfl (fun hne => absurd (by decide) hne) (fun _ => ?_)
  refine j_aload_n X 3 dL_law_697 rfl (q := 698) rfl ?_
  refine j_iconst (v := nI 0) X dL_law_698 (by decide) (q := 699) rfl ?_
  refine j_lald X 0 rfl (vp_in_nI (by omega) (by omega)) dL_law_699 (q := 700) rfl ?_
  refine j_iload X 0 dL_law_700 rfl (q := 702) rfl ?_
  refine j_i2l X dL_law_702 (q := 703) rfl ?_
  refine j_lcmp X dL_law_703 (q := 704) rfl ?_
  refine j_if_eq (tgt := 709) X dL_law_704 (by decide) (q := 707) rfl (fun _ => ?_) (fun hne => absurd (show (lg_cmp (((vp_updL g_out 0 (Int32.toInt64 (f_X11_move v_toServer_size f_toServer_bytes (xs 2)).1)) (nI 0).toNatClampNeg)) ((Int32.toInt64 ((nI 0))))) = 0 from by rw [show (f_X11_move v_toServer_size f_toServer_bytes (xs 2)).1 = nI 0 from mx0 c_h_z]; exact lgc) hne)
  refine j_goto (tgt := 775) X dL_law_709 (by decide) ?_
  refine j_perm (ws2 := []) [] rfl rfl ?_
  refine j_lv (lv' := [(0, .ref b), (4, .int (nI 0))]) [6, 2] rfl ?_
  refine j_wid (a := 600002) (b := 7302232) (by decide) (by decide) ?_
  exact kend
set_option maxHeartbeats 4000000 in
set_option maxRecDepth 100000 in
theorem k_move_1 {p : Program} {l : Launch} {e : Env} {s : State} {m : MethodId} {b : Nat} {below : List Frame} {meth : Method} {c : Code} {D : va_G} {ct : Nat → ClassId} {ts : Nat → Nat} {A : Nat → Prop} {xs : Nat → Int32} {a_m a_out a_this a_this_clientSide a_this_serverSide a_this_toClient a_this_toClient_bytes a_this_toServer : Nat} {ad : Nat → Nat} {f_toClient_bytes : Nat → Int32} {m_cameSize : Nat → Int32} {m_changes : Int32} {m_connections : Int32} {m_dataAll : Nat} {m_ids : Nat} {m_left : Int32} {m_power : Int32} {m_putCount : Nat} {m_readSize : Nat} {m_rowSize : Nat} {m_since : Int32} {m_size : Nat} {m_state : Nat → Int32} {m_thrown : Int32} {m_waiting : Nat} {m_waySize : Nat → Int32} {v_connections : Int32} {v_toClient_size : Nat} {g_out : Nat → Int64} (Y : LX p l s m meth c D ct ts A b xs) (c_h_x : (xs 1) = nI 1) (c_h_z : v_toClient_size = 0) (m_h_s0 : ∀ j, j < 2 → m_state j = nI 0) (m_h_w0 : ∀ j, j < 2 → m_waySize j = nI 0) (e_m_waySize : m_waySize = fun _ => 0) (kend : LJ p l e s m b below meth c D A 600002 7302232 [] [(0, .ref b), (4, .int (nI 0))] [] 775) : LJ p l e s m b below meth c D A 190 418642 [(a_this, .inr (11, [.ref a_this_clientSide, .ref a_this_serverSide, .ref a_this_toServer, .ref a_this_toClient, .int v_connections])), (a_this_toClient, .inr (6, [.ref a_this_toClient_bytes, .int (nI v_toClient_size)])), (a_this_toClient_bytes, .inl (ct 1, 3160, .inl f_toClient_bytes)), (a_m, .inr (12, mfs ad m_thrown m_connections (nI m_size) (nI m_ids) (nI m_dataAll) (nI m_putCount) (nI m_waiting) (nI m_readSize) m_power m_left m_since m_changes (nI m_rowSize))), (ad 8, .inl (ct 0, 2, .inl m_waySize)), (ad 2, .inl (ct 0, 2, .inl m_state)), (ad 6, .inl (ct 0, 2, .inl m_cameSize)), (a_out, .inl (ct 3, 1, .inr (.inl g_out)))] [(4, .int (nI 0)), (3, .ref a_out), (2, .ref a_m), (1, .ref a_this), (0, .ref b)] [] 644 := by
  obtain ⟨X, hT, hX, hbl, hbA, hl⟩ := Y
  refine j_aload_n X 3 dL_law_644 rfl (q := 645) rfl ?_
  refine j_aload_n X 4 dL_law_645 rfl (q := 646) rfl ?_
  refine j_iload X 0 dL_law_646 rfl (q := 648) rfl ?_
  refine j_iconst (v := nI 1) X dL_law_648 (by decide) (q := 649) rfl ?_
  refine j_iadd X dL_law_649 (q := 650) rfl ?_
  refine j_eqi (show nI 0 + nI 1 = nI 1 by decide) ?_
  refine j_sld (j := 1) X hX hbl hbA (vp_in_nI (by omega) (by omega)) (nI_clamp (by omega)) dL_law_650 (q := 651) rfl ?_
  refine j_aload_n X 4 dL_law_651 rfl (q := 652) rfl ?_
  refine j_iload X 0 dL_law_652 rfl (q := 654) rfl ?_
  refine j_iconst (v := nI 2) X dL_law_654 (by decide) (q := 655) rfl ?_
  refine j_iadd X dL_law_655 (q := 656) rfl ?_
  refine j_eqi (show nI 0 + nI 2 = nI 2 by decide) ?_
  refine j_sld (j := 2) X hX hbl hbA (vp_in_nI (by omega) (by omega)) (nI_clamp (by omega)) dL_law_656 (q := 657) rfl ?_
  refine j_aload_n X 1 dL_law_657 rfl (q := 658) rfl ?_
  refine j_callHi (As := [.ref a_this, .int (xs 1), .int (xs 2), .ref a_out]) (rest := []) (wn := fun _ => [(a_m, .inr (12, mfs ad m_thrown m_connections (nI m_size) (nI m_ids) (nI m_dataAll) (nI m_putCount) (nI m_waiting) (nI m_readSize) m_power m_left m_since m_changes (nI m_rowSize))), (ad 8, .inl (ct 0, 2, .inl m_waySize)), (ad 2, .inl (ct 0, 2, .inl m_state)), (ad 6, .inl (ct 0, 2, .inl m_cameSize)), (a_out, .inl (ct 3, 1, .inr (.inl (vp_updL g_out 0 (Int32.toInt64 (f_X11_move_1 v_toClient_size f_toClient_bytes (xs 2)).1)))))]) (wr := [(a_m, .inr (12, mfs ad m_thrown m_connections (nI m_size) (nI m_ids) (nI m_dataAll) (nI m_putCount) (nI m_waiting) (nI m_readSize) m_power m_left m_since m_changes (nI m_rowSize))), (ad 8, .inl (ct 0, 2, .inl m_waySize)), (ad 2, .inl (ct 0, 2, .inl m_state)), (ad 6, .inl (ct 0, 2, .inl m_cameSize))]) X hT (fun sz => c_L_move_1 l D ct ts a_this a_this_toClient a_this_toClient_bytes a_this_clientSide a_this_serverSide a_this_toServer a_out v_connections v_toClient_size f_toClient_bytes ((xs 1)) ((xs 2)) g_out c_h_x c_h_z sz) cal_L_move mw_K_27 cwt_L_move rfl ⟨by decide, by decide⟩ rfl rfl (Nat.le_of_ble_eq_true rfl) ⟨by decide, by decide⟩ [0, 1, 2, 7] [3, 4, 5, 6] [0, 1, 2, 3, 4] rfl (by decide) rfl (by decide) (by decide) (fun _ => rfl) (by decide) dL_law_658 (q := 661) rfl (fun r0 u0 hu0 => ?_)
  have hu0 : r0 = nI 0 := hu0
  subst hu0
  refine j_istore (lv' := [(5, .int (nI 0)), (4, .int (nI 0)), (3, .ref a_out), (2, .ref a_m), (1, .ref a_this), (0, .ref b)]) X dL_law_661 (by decide) rfl (q := 663) rfl ?_
  refine j_aload_n X 3 dL_law_663 rfl (q := 664) rfl ?_
  refine j_aload_n X 5 dL_law_664 rfl (q := 665) rfl ?_
  refine j_iload X 1 dL_law_665 rfl (q := 667) rfl ?_
  refine j_iconst (v := nI 1) X dL_law_667 (by decide) (q := 668) rfl ?_
  refine j_iadd X dL_law_668 (q := 669) rfl ?_
  refine j_eqi (show nI 0 + nI 1 = nI 1 by decide) ?_
  refine j_sld (j := 1) X hX hbl hbA (vp_in_nI (by omega) (by omega)) (nI_clamp (by omega)) dL_law_669 (q := 670) rfl ?_
  refine j_aload_n X 5 dL_law_670 rfl (q := 671) rfl ?_
  refine j_iload X 1 dL_law_671 rfl (q := 673) rfl ?_
  refine j_iconst (v := nI 2) X dL_law_673 (by decide) (q := 674) rfl ?_
  refine j_iadd X dL_law_674 (q := 675) rfl ?_
  refine j_eqi (show nI 0 + nI 2 = nI 2 by decide) ?_
  refine j_sld (j := 2) X hX hbl hbA (vp_in_nI (by omega) (by omega)) (nI_clamp (by omega)) dL_law_675 (q := 676) rfl ?_
  refine j_callVi (As := [.int (xs 1), .int (xs 2)]) (rest := []) (wn := fun u2 => [(a_m, .inr (12, mfs ad u2.1 m_connections (nI m_size) (nI m_ids) (nI m_dataAll) (nI m_putCount) (nI m_waiting) (nI m_readSize) m_power m_left m_since m_changes (nI m_rowSize))), (a_out, .inl (ct 3, 1, .inr (.inl (vp_updL g_out 0 (Int32.toInt64 (f_X11_move_1 v_toClient_size f_toClient_bytes (xs 2)).1)))))]) (wr := [(a_out, .inl (ct 3, 1, .inr (.inl (vp_updL g_out 0 (Int32.toInt64 (f_X11_move_1 v_toClient_size f_toClient_bytes (xs 2)).1)))))]) X (fun sz => c_X12_move l D ct ts a_m ad m_thrown m_connections m_size m_ids m_dataAll m_putCount m_waiting m_readSize m_power m_left m_since m_changes m_rowSize m_waySize m_state m_cameSize ((xs 1)) ((xs 2)) m_h_s0 m_h_w0 sz) cal_X12_move 0 rfl rfl mw_K_28 cwi_X12_move cws_X12_move rfl ⟨by decide, by decide⟩ rfl rfl (Nat.le_of_ble_eq_true rfl) ⟨by decide, by decide⟩ [0, 1, 2, 3] [4] [1, 0] rfl (by decide) rfl (by decide) (by decide) (fun _ => rfl) (by decide) dL_law_676 (q := 679) rfl (fun r2 u2 hu2 => ?_)
  have ht2 : u2.1 = ((f_X12_move m_waySize m_cameSize ((xs 1)) ((xs 2))).2).1 := congrArg (fun z => z.2.1) hu2
  have er2 : r2 = (f_X12_move m_waySize m_cameSize ((xs 1)) ((xs 2))).1 := congrArg Prod.fst hu2
  obtain ⟨tv, htv⟩ : ∃ tv : Int32, tv = u2.1 := ⟨_, rfl⟩
  refine j_ws (ws2 := [(a_m, .inr (12, mfs ad tv m_connections (nI m_size) (nI m_ids) (nI m_dataAll) (nI m_putCount) (nI m_waiting) (nI m_readSize) m_power m_left m_since m_changes (nI m_rowSize))), (a_out, .inl (ct 3, 1, .inr (.inl (vp_updL g_out 0 (Int32.toInt64 (f_X11_move_1 v_toClient_size f_toClient_bytes (xs 2)).1)))))]) (by rw [htv]) ?_
  have hk2 : tv = nI 0 := htv.trans (ht2.trans (by rw [e_m_waySize]; exact (mv_k (by rw [c_h_x]; exact vp_in_nI (by omega) (by omega)) (by rw [c_h_x]; rfl)).2))
  have hb2 : r2 = nI 0 := er2.trans (by rw [e_m_waySize]; exact (mv_k (by rw [c_h_x]; exact vp_in_nI (by omega) (by omega)) (by rw [c_h_x]; rfl)).1)
  refine j_eqi hb2 ?_
  refine j_istore (lv' := [(6, .int (nI 0)), (5, .int (nI 0)), (4, .int (nI 0)), (3, .ref a_out), (2, .ref a_m), (1, .ref a_this), (0, .ref b)]) X dL_law_679 (by decide) rfl (q := 681) rfl ?_
  refine j_aload_n X 4 dL_law_681 rfl (q := 682) rfl ?_
  refine j_callVi (As := []) (rest := []) (wn := fun _ => [(a_out, .inl (ct 3, 1, .inr (.inl (vp_updL g_out 0 (Int32.toInt64 (f_X11_move_1 v_toClient_size f_toClient_bytes (xs 2)).1)))))]) (wr := [(a_out, .inl (ct 3, 1, .inr (.inl (vp_updL g_out 0 (Int32.toInt64 (f_X11_move_1 v_toClient_size f_toClient_bytes (xs 2)).1)))))]) X (fun sz => c_X12_thrown l D ct ts a_m ad tv m_connections m_size m_ids m_dataAll m_putCount m_waiting m_readSize m_power m_left m_since m_changes m_rowSize sz) cal_X12_thrown 0 rfl rfl mw_K_20 cwi_X12_thrown cws_X12_thrown rfl ⟨by decide, by decide⟩ rfl rfl (Nat.le_of_ble_eq_true rfl) ⟨by decide, by decide⟩ [0] [1] [0] rfl (by decide) rfl (by decide) (by decide) (fun _ => rfl) (by decide) dL_law_682 (q := 685) rfl (fun r2 u2 hu2 => ?_)
  have er2 : r2 = f_X12_thrown tv := hu2
  refine j_eqi er2 ?_
  refine j_iload X 1 dL_law_685 rfl (q := 687) rfl ?_
  refine j_icmp_eq (tgt := 692) X dL_law_687 (by decide) (q := 690) rfl (fun _ => ?_) (fun hne => absurd (show (f_X12_thrown tv) = (nI 0) from hk2) hne)
  refine j_iload X 1 dL_law_692 rfl (q := 694) rfl ?_
  refine j_if_ne (tgt := 709) X dL_law_694 (by decide) (q := 697) rfl (fun hne => absurd (by decide) hne) (fun _ => ?_)
  refine j_aload_n X 3 dL_law_697 rfl (q := 698) rfl ?_
  refine j_iconst (v := nI 0) X dL_law_698 (by decide) (q := 699) rfl ?_
  refine j_lald X 0 rfl (vp_in_nI (by omega) (by omega)) dL_law_699 (q := 700) rfl ?_
  refine j_iload X 0 dL_law_700 rfl (q := 702) rfl ?_
  refine j_i2l X dL_law_702 (q := 703) rfl ?_
  refine j_lcmp X dL_law_703 (q := 704) rfl ?_
  refine j_if_eq (tgt := 709) X dL_law_704 (by decide) (q := 707) rfl (fun _ => ?_) (fun hne => absurd (show (lg_cmp (((vp_updL g_out 0 (Int32.toInt64 (f_X11_move_1 v_toClient_size f_toClient_bytes (xs 2)).1)) (nI 0).toNatClampNeg)) ((Int32.toInt64 ((nI 0))))) = 0 from by rw [show (f_X11_move_1 v_toClient_size f_toClient_bytes (xs 2)).1 = nI 0 from mx0 c_h_z]; exact lgc) hne)
  refine j_goto (tgt := 775) X dL_law_709 (by decide) ?_
  refine j_perm (ws2 := []) [] rfl rfl ?_
  refine j_lv (lv' := [(0, .ref b), (4, .int (nI 0))]) [6, 2] rfl ?_
  refine j_wid (a := 600002) (b := 7302232) (by decide) (by decide) ?_
  exact kend
set_option maxHeartbeats 4000000 in
set_option maxRecDepth 100000 in
theorem k_move_b {p : Program} {l : Launch} {e : Env} {s : State} {m : MethodId} {b : Nat} {below : List Frame} {meth : Method} {c : Code} {D : va_G} {ct : Nat → ClassId} {ts : Nat → Nat} {A : Nat → Prop} {xs : Nat → Int32} {a_m a_out a_this a_this_clientSide a_this_serverSide a_this_toClient a_this_toServer : Nat} {ad : Nat → Nat} {m_cameSize : Nat → Int32} {m_changes : Int32} {m_connections : Int32} {m_dataAll : Nat} {m_ids : Nat} {m_left : Int32} {m_power : Int32} {m_putCount : Nat} {m_readSize : Nat} {m_rowSize : Nat} {m_since : Int32} {m_size : Nat} {m_state : Nat → Int32} {m_thrown : Int32} {m_waiting : Nat} {m_waySize : Nat → Int32} {v_connections : Int32} {g_out : Nat → Int64} (Y : LX p l s m meth c D ct ts A b xs) (c_h_b : (xs 1) < 0 ∨ ¬ (xs 1) ≤ nI 1) (m_h_s0 : ∀ j, j < 2 → m_state j = nI 0) (m_h_w0 : ∀ j, j < 2 → m_waySize j = nI 0) (kend : LJ p l e s m b below meth c D A 600002 7302232 [] [(0, .ref b), (4, .int (nI 0))] [] 775) : LJ p l e s m b below meth c D A 190 418642 [(a_this, .inr (11, [.ref a_this_clientSide, .ref a_this_serverSide, .ref a_this_toServer, .ref a_this_toClient, .int v_connections])), (a_m, .inr (12, mfs ad m_thrown m_connections (nI m_size) (nI m_ids) (nI m_dataAll) (nI m_putCount) (nI m_waiting) (nI m_readSize) m_power m_left m_since m_changes (nI m_rowSize))), (ad 8, .inl (ct 0, 2, .inl m_waySize)), (ad 2, .inl (ct 0, 2, .inl m_state)), (ad 6, .inl (ct 0, 2, .inl m_cameSize)), (a_out, .inl (ct 3, 1, .inr (.inl g_out)))] [(4, .int (nI 0)), (3, .ref a_out), (2, .ref a_m), (1, .ref a_this), (0, .ref b)] [] 644 := by
  obtain ⟨X, hT, hX, hbl, hbA, hl⟩ := Y
  refine j_aload_n X 3 dL_law_644 rfl (q := 645) rfl ?_
  refine j_aload_n X 4 dL_law_645 rfl (q := 646) rfl ?_
  refine j_iload X 0 dL_law_646 rfl (q := 648) rfl ?_
  refine j_iconst (v := nI 1) X dL_law_648 (by decide) (q := 649) rfl ?_
  refine j_iadd X dL_law_649 (q := 650) rfl ?_
  refine j_eqi (show nI 0 + nI 1 = nI 1 by decide) ?_
  refine j_sld (j := 1) X hX hbl hbA (vp_in_nI (by omega) (by omega)) (nI_clamp (by omega)) dL_law_650 (q := 651) rfl ?_
  refine j_aload_n X 4 dL_law_651 rfl (q := 652) rfl ?_
  refine j_iload X 0 dL_law_652 rfl (q := 654) rfl ?_
  refine j_iconst (v := nI 2) X dL_law_654 (by decide) (q := 655) rfl ?_
  refine j_iadd X dL_law_655 (q := 656) rfl ?_
  refine j_eqi (show nI 0 + nI 2 = nI 2 by decide) ?_
  refine j_sld (j := 2) X hX hbl hbA (vp_in_nI (by omega) (by omega)) (nI_clamp (by omega)) dL_law_656 (q := 657) rfl ?_
  refine j_aload_n X 1 dL_law_657 rfl (q := 658) rfl ?_
  refine j_callHi (As := [.ref a_this, .int (xs 1), .int (xs 2), .ref a_out]) (rest := []) (wn := fun _ => [(a_m, .inr (12, mfs ad m_thrown m_connections (nI m_size) (nI m_ids) (nI m_dataAll) (nI m_putCount) (nI m_waiting) (nI m_readSize) m_power m_left m_since m_changes (nI m_rowSize))), (ad 8, .inl (ct 0, 2, .inl m_waySize)), (ad 2, .inl (ct 0, 2, .inl m_state)), (ad 6, .inl (ct 0, 2, .inl m_cameSize)), (a_out, .inl (ct 3, 1, .inr (.inl g_out)))]) (wr := [(a_m, .inr (12, mfs ad m_thrown m_connections (nI m_size) (nI m_ids) (nI m_dataAll) (nI m_putCount) (nI m_waiting) (nI m_readSize) m_power m_left m_since m_changes (nI m_rowSize))), (ad 8, .inl (ct 0, 2, .inl m_waySize)), (ad 2, .inl (ct 0, 2, .inl m_state)), (ad 6, .inl (ct 0, 2, .inl m_cameSize))]) X hT (fun sz => c_L_move_b l D ct ts hl a_this a_this_clientSide a_this_serverSide a_this_toServer a_this_toClient a_out v_connections ((xs 1)) ((xs 2)) g_out c_h_b sz) cal_L_move mw_K_27 cwt_L_move rfl ⟨by decide, by decide⟩ rfl rfl (Nat.le_of_ble_eq_true rfl) ⟨by decide, by decide⟩ [0, 5] [1, 2, 3, 4] [0, 1, 2, 3, 4] rfl (by decide) rfl (by decide) (by decide) (fun _ => rfl) (by decide) dL_law_658 (q := 661) rfl (fun r0 u0 hu0 => ?_)
  have hu0 : r0 = nI 1 := hu0
  subst hu0
  refine j_istore (lv' := [(5, .int (nI 1)), (4, .int (nI 0)), (3, .ref a_out), (2, .ref a_m), (1, .ref a_this), (0, .ref b)]) X dL_law_661 (by decide) rfl (q := 663) rfl ?_
  refine j_aload_n X 3 dL_law_663 rfl (q := 664) rfl ?_
  refine j_aload_n X 5 dL_law_664 rfl (q := 665) rfl ?_
  refine j_iload X 1 dL_law_665 rfl (q := 667) rfl ?_
  refine j_iconst (v := nI 1) X dL_law_667 (by decide) (q := 668) rfl ?_
  refine j_iadd X dL_law_668 (q := 669) rfl ?_
  refine j_eqi (show nI 0 + nI 1 = nI 1 by decide) ?_
  refine j_sld (j := 1) X hX hbl hbA (vp_in_nI (by omega) (by omega)) (nI_clamp (by omega)) dL_law_669 (q := 670) rfl ?_
  refine j_aload_n X 5 dL_law_670 rfl (q := 671) rfl ?_
  refine j_iload X 1 dL_law_671 rfl (q := 673) rfl ?_
  refine j_iconst (v := nI 2) X dL_law_673 (by decide) (q := 674) rfl ?_
  refine j_iadd X dL_law_674 (q := 675) rfl ?_
  refine j_eqi (show nI 0 + nI 2 = nI 2 by decide) ?_
  refine j_sld (j := 2) X hX hbl hbA (vp_in_nI (by omega) (by omega)) (nI_clamp (by omega)) dL_law_675 (q := 676) rfl ?_
  refine j_callVi (As := [.int (xs 1), .int (xs 2)]) (rest := []) (wn := fun u2 => [(a_m, .inr (12, mfs ad u2.1 m_connections (nI m_size) (nI m_ids) (nI m_dataAll) (nI m_putCount) (nI m_waiting) (nI m_readSize) m_power m_left m_since m_changes (nI m_rowSize))), (a_out, .inl (ct 3, 1, .inr (.inl g_out)))]) (wr := [(a_out, .inl (ct 3, 1, .inr (.inl g_out)))]) X (fun sz => c_X12_move l D ct ts a_m ad m_thrown m_connections m_size m_ids m_dataAll m_putCount m_waiting m_readSize m_power m_left m_since m_changes m_rowSize m_waySize m_state m_cameSize ((xs 1)) ((xs 2)) m_h_s0 m_h_w0 sz) cal_X12_move 0 rfl rfl mw_K_28 cwi_X12_move cws_X12_move rfl ⟨by decide, by decide⟩ rfl rfl (Nat.le_of_ble_eq_true rfl) ⟨by decide, by decide⟩ [0, 1, 2, 3] [4] [1, 0] rfl (by decide) rfl (by decide) (by decide) (fun _ => rfl) (by decide) dL_law_676 (q := 679) rfl (fun r2 u2 hu2 => ?_)
  have ht2 : u2.1 = ((f_X12_move m_waySize m_cameSize ((xs 1)) ((xs 2))).2).1 := congrArg (fun z => z.2.1) hu2
  have er2 : r2 = (f_X12_move m_waySize m_cameSize ((xs 1)) ((xs 2))).1 := congrArg Prod.fst hu2
  obtain ⟨tv, htv⟩ : ∃ tv : Int32, tv = u2.1 := ⟨_, rfl⟩
  refine j_ws (ws2 := [(a_m, .inr (12, mfs ad tv m_connections (nI m_size) (nI m_ids) (nI m_dataAll) (nI m_putCount) (nI m_waiting) (nI m_readSize) m_power m_left m_since m_changes (nI m_rowSize))), (a_out, .inl (ct 3, 1, .inr (.inl g_out)))]) (by rw [htv]) ?_
  have hk2 : tv = nI 1 := htv.trans (ht2.trans (by rw [mv_b c_h_b]))
  have hb2 : r2 = nI 0 := er2.trans (by rw [mv_b c_h_b])
  refine j_eqi hb2 ?_
  refine j_istore (lv' := [(6, .int (nI 0)), (5, .int (nI 1)), (4, .int (nI 0)), (3, .ref a_out), (2, .ref a_m), (1, .ref a_this), (0, .ref b)]) X dL_law_679 (by decide) rfl (q := 681) rfl ?_
  refine j_aload_n X 4 dL_law_681 rfl (q := 682) rfl ?_
  refine j_callVi (As := []) (rest := []) (wn := fun _ => [(a_out, .inl (ct 3, 1, .inr (.inl g_out)))]) (wr := [(a_out, .inl (ct 3, 1, .inr (.inl g_out)))]) X (fun sz => c_X12_thrown l D ct ts a_m ad tv m_connections m_size m_ids m_dataAll m_putCount m_waiting m_readSize m_power m_left m_since m_changes m_rowSize sz) cal_X12_thrown 0 rfl rfl mw_K_20 cwi_X12_thrown cws_X12_thrown rfl ⟨by decide, by decide⟩ rfl rfl (Nat.le_of_ble_eq_true rfl) ⟨by decide, by decide⟩ [0] [1] [0] rfl (by decide) rfl (by decide) (by decide) (fun _ => rfl) (by decide) dL_law_682 (q := 685) rfl (fun r2 u2 hu2 => ?_)
  have er2 : r2 = f_X12_thrown tv := hu2
  refine j_eqi er2 ?_
  refine j_iload X 1 dL_law_685 rfl (q := 687) rfl ?_
  refine j_icmp_eq (tgt := 692) X dL_law_687 (by decide) (q := 690) rfl (fun _ => ?_) (fun hne => absurd (show (f_X12_thrown tv) = (nI 1) from hk2) hne)
  refine j_iload X 1 dL_law_692 rfl (q := 694) rfl ?_
  refine j_if_ne (tgt := 709) X dL_law_694 (by decide) (q := 697) rfl (fun _ => ?_) (fun hne => absurd hne (by decide))
  refine j_goto (tgt := 775) X dL_law_709 (by decide) ?_
  refine j_perm (ws2 := []) [] rfl rfl ?_
  refine j_lv (lv' := [(0, .ref b), (4, .int (nI 0))]) [6, 2] rfl ?_
  refine j_wid (a := 600002) (b := 7302232) (by decide) (by decide) ?_
  exact kend
theorem mw_K_29 : Cond.methodLink "GuardedTreeLaw" 63 yL_ask ∈ tb := tb_at 623 (by decide +kernel) (by decide +kernel)
theorem mw_K_30 : Cond.methodLink "GuardedTreeLaw" 68 yX12_ask ∈ tb := tb_at 1548 (by decide +kernel) (by decide +kernel)
set_option maxHeartbeats 4000000 in
set_option maxRecDepth 100000 in
theorem k_ask {p : Program} {l : Launch} {e : Env} {s : State} {m : MethodId} {b : Nat} {below : List Frame} {meth : Method} {c : Code} {D : va_G} {ct : Nat → ClassId} {ts : Nat → Nat} {A : Nat → Prop} {xs : Nat → Int32} {a_m a_out a_this a_this_clientSide a_this_clientSide_agreement a_this_clientSide_in a_this_clientSide_out a_this_clientSide_out_cipher a_this_clientSide_out_digest a_this_clientSide_out_packet a_this_clientSide_out_sealKey a_this_clientSide_requests a_this_clientSide_words a_this_serverSide a_this_toClient a_this_toServer a_this_toServer_bytes : Nat} {ad : Nat → Nat} {m_changes : Int32} {m_connections : Int32} {m_dataAll : Nat} {m_ids : Nat} {m_left : Int32} {m_power : Int32} {m_putCount : Nat} {m_readSize : Nat} {m_rowSize : Nat} {m_since : Int32} {m_size : Nat} {m_state : Nat → Int32} {m_thrown : Int32} {m_waiting : Nat} {v_clientSide_asked : Nat} {v_clientSide_out_allowance : Int32} {v_clientSide_out_length : Int32} {v_clientSide_out_number : Int32} {v_clientSide_out_payload : Nat} {v_clientSide_out_size : Nat} {v_clientSide_state : Int32} {v_clientSide_ungranted : Int32} {v_clientSide_wordCount : Nat} {v_connections : Int32} {v_toServer_size : Nat} {g_out : Nat → Int64} (Y : LX p l s m meth c D ct ts A b xs) (c_h_k1 : ¬ (xs 1) < 0) (c_h_k2 : (xs 1) ≤ nI 9) (c_h_st : v_clientSide_state = nI 0) (c_h_a : v_clientSide_asked = 0) (c_h_z : v_toServer_size = 0) (m_h_st : m_state 0 = nI 0) (kend : LJ p l e s m b below meth c D A 600002 7302232 [] [(0, .ref b), (4, .int (nI 0))] [] 775) : LJ p l e s m b below meth c D A 190 418642 [(a_this, .inr (11, [.ref a_this_clientSide, .ref a_this_serverSide, .ref a_this_toServer, .ref a_this_toClient, .int v_connections])), (a_this_toServer, .inr (6, [.ref a_this_toServer_bytes, .int (nI v_toServer_size)])), (a_this_clientSide, .inr (3, [.ref a_this_clientSide_agreement, .ref a_this_clientSide_in, .ref a_this_clientSide_out, .ref a_this_clientSide_requests, .ref a_this_clientSide_words, .int v_clientSide_state, .int (nI v_clientSide_asked), .int (nI v_clientSide_wordCount), .int v_clientSide_ungranted])), (a_this_clientSide_out, .inr (1, [.ref a_this_clientSide_out_packet, .ref a_this_clientSide_out_cipher, .ref a_this_clientSide_out_digest, .ref a_this_clientSide_out_sealKey, .int v_clientSide_out_allowance, .int (nI v_clientSide_out_size), .int v_clientSide_out_length, .int (nI v_clientSide_out_payload), .int v_clientSide_out_number])), (a_m, .inr (12, mfs ad m_thrown m_connections (nI m_size) (nI m_ids) (nI m_dataAll) (nI m_putCount) (nI m_waiting) (nI m_readSize) m_power m_left m_since m_changes (nI m_rowSize))), (ad 2, .inl (ct 0, 2, .inl m_state)), (a_out, .inl (ct 3, 1, .inr (.inl g_out)))] [(4, .int (nI 0)), (3, .ref a_out), (2, .ref a_m), (1, .ref a_this), (0, .ref b)] [] 207 := by
  obtain ⟨X, hT, hX, hbl, hbA, hl⟩ := Y
  refine j_aload_n X 3 dL_law_207 rfl (q := 208) rfl ?_
  refine j_aload_n X 4 dL_law_208 rfl (q := 209) rfl ?_
  refine j_iload X 0 dL_law_209 rfl (q := 211) rfl ?_
  refine j_iconst (v := nI 1) X dL_law_211 (by decide) (q := 212) rfl ?_
  refine j_iadd X dL_law_212 (q := 213) rfl ?_
  refine j_eqi (show nI 0 + nI 1 = nI 1 by decide) ?_
  refine j_sld (j := 1) X hX hbl hbA (vp_in_nI (by omega) (by omega)) (nI_clamp (by omega)) dL_law_213 (q := 214) rfl ?_
  refine j_aload_n X 4 dL_law_214 rfl (q := 215) rfl ?_
  refine j_iload X 0 dL_law_215 rfl (q := 217) rfl ?_
  refine j_iconst (v := nI 2) X dL_law_217 (by decide) (q := 218) rfl ?_
  refine j_iadd X dL_law_218 (q := 219) rfl ?_
  refine j_eqi (show nI 0 + nI 2 = nI 2 by decide) ?_
  refine j_sld (j := 2) X hX hbl hbA (vp_in_nI (by omega) (by omega)) (nI_clamp (by omega)) dL_law_219 (q := 220) rfl ?_
  refine j_aload_n X 4 dL_law_220 rfl (q := 221) rfl ?_
  refine j_iload X 0 dL_law_221 rfl (q := 223) rfl ?_
  refine j_iconst (v := nI 3) X dL_law_223 (by decide) (q := 224) rfl ?_
  refine j_iadd X dL_law_224 (q := 225) rfl ?_
  refine j_eqi (show nI 0 + nI 3 = nI 3 by decide) ?_
  refine j_sld (j := 3) X hX hbl hbA (vp_in_nI (by omega) (by omega)) (nI_clamp (by omega)) dL_law_225 (q := 226) rfl ?_
  refine j_aload_n X 4 dL_law_226 rfl (q := 227) rfl ?_
  refine j_iload X 0 dL_law_227 rfl (q := 229) rfl ?_
  refine j_iconst (v := nI 4) X dL_law_229 (by decide) (q := 230) rfl ?_
  refine j_iadd X dL_law_230 (q := 231) rfl ?_
  refine j_eqi (show nI 0 + nI 4 = nI 4 by decide) ?_
  refine j_sld (j := 4) X hX hbl hbA (vp_in_nI (by omega) (by omega)) (nI_clamp (by omega)) dL_law_231 (q := 232) rfl ?_
  refine j_aload_n X 4 dL_law_232 rfl (q := 233) rfl ?_
  refine j_iload X 0 dL_law_233 rfl (q := 235) rfl ?_
  refine j_iconst (v := nI 5) X dL_law_235 (by decide) (q := 236) rfl ?_
  refine j_iadd X dL_law_236 (q := 237) rfl ?_
  refine j_eqi (show nI 0 + nI 5 = nI 5 by decide) ?_
  refine j_sld (j := 5) X hX hbl hbA (vp_in_nI (by omega) (by omega)) (nI_clamp (by omega)) dL_law_237 (q := 238) rfl ?_
  refine j_aload_n X 1 dL_law_238 rfl (q := 239) rfl ?_
  refine j_callHi (As := [.ref a_this, .int (xs 1), .int (xs 2), .int (xs 3), .int (xs 4), .int (xs 5), .ref a_out]) (rest := []) (wn := fun _ => [(a_m, .inr (12, mfs ad m_thrown m_connections (nI m_size) (nI m_ids) (nI m_dataAll) (nI m_putCount) (nI m_waiting) (nI m_readSize) m_power m_left m_since m_changes (nI m_rowSize))), (ad 2, .inl (ct 0, 2, .inl m_state)), (a_out, .inl (ct 3, 1, .inr (.inl (vp_updL g_out 0 (Int32.toInt64 (f_X11_ask v_toServer_size (xs 1) (xs 4)))))))]) (wr := [(a_m, .inr (12, mfs ad m_thrown m_connections (nI m_size) (nI m_ids) (nI m_dataAll) (nI m_putCount) (nI m_waiting) (nI m_readSize) m_power m_left m_since m_changes (nI m_rowSize))), (ad 2, .inl (ct 0, 2, .inl m_state))]) X hT (fun sz => c_L_ask l D ct ts a_this a_this_toServer a_this_clientSide a_this_clientSide_out a_this_serverSide a_this_toClient a_this_toServer_bytes a_this_clientSide_agreement a_this_clientSide_in a_this_clientSide_requests a_this_clientSide_words a_this_clientSide_out_packet a_this_clientSide_out_cipher a_this_clientSide_out_digest a_this_clientSide_out_sealKey a_out v_connections v_toServer_size v_clientSide_state v_clientSide_asked v_clientSide_wordCount v_clientSide_ungranted v_clientSide_out_allowance v_clientSide_out_size v_clientSide_out_length v_clientSide_out_payload v_clientSide_out_number ((xs 1)) ((xs 2)) ((xs 3)) ((xs 4)) ((xs 5)) g_out c_h_k1 c_h_k2 c_h_st c_h_a c_h_z sz) cal_L_ask mw_K_29 cwt_L_ask rfl ⟨by decide, by decide⟩ rfl rfl (Nat.le_of_ble_eq_true rfl) ⟨by decide, by decide⟩ [0, 1, 2, 3, 6] [4, 5] [0, 1, 2] rfl (by decide) rfl (by decide) (by decide) (fun _ => rfl) (by decide) dL_law_239 (q := 242) rfl (fun r0 u0 hu0 => ?_)
  have hu0 : r0 = nI 0 := hu0
  subst hu0
  refine j_istore (lv' := [(5, .int (nI 0)), (4, .int (nI 0)), (3, .ref a_out), (2, .ref a_m), (1, .ref a_this), (0, .ref b)]) X dL_law_242 (by decide) rfl (q := 244) rfl ?_
  refine j_aload_n X 3 dL_law_244 rfl (q := 245) rfl ?_
  refine j_aload_n X 5 dL_law_245 rfl (q := 246) rfl ?_
  refine j_iload X 1 dL_law_246 rfl (q := 248) rfl ?_
  refine j_iconst (v := nI 1) X dL_law_248 (by decide) (q := 249) rfl ?_
  refine j_iadd X dL_law_249 (q := 250) rfl ?_
  refine j_eqi (show nI 0 + nI 1 = nI 1 by decide) ?_
  refine j_sld (j := 1) X hX hbl hbA (vp_in_nI (by omega) (by omega)) (nI_clamp (by omega)) dL_law_250 (q := 251) rfl ?_
  refine j_aload_n X 5 dL_law_251 rfl (q := 252) rfl ?_
  refine j_iload X 1 dL_law_252 rfl (q := 254) rfl ?_
  refine j_iconst (v := nI 2) X dL_law_254 (by decide) (q := 255) rfl ?_
  refine j_iadd X dL_law_255 (q := 256) rfl ?_
  refine j_eqi (show nI 0 + nI 2 = nI 2 by decide) ?_
  refine j_sld (j := 2) X hX hbl hbA (vp_in_nI (by omega) (by omega)) (nI_clamp (by omega)) dL_law_256 (q := 257) rfl ?_
  refine j_aload_n X 5 dL_law_257 rfl (q := 258) rfl ?_
  refine j_iload X 1 dL_law_258 rfl (q := 260) rfl ?_
  refine j_iconst (v := nI 3) X dL_law_260 (by decide) (q := 261) rfl ?_
  refine j_iadd X dL_law_261 (q := 262) rfl ?_
  refine j_eqi (show nI 0 + nI 3 = nI 3 by decide) ?_
  refine j_sld (j := 3) X hX hbl hbA (vp_in_nI (by omega) (by omega)) (nI_clamp (by omega)) dL_law_262 (q := 263) rfl ?_
  refine j_aload_n X 5 dL_law_263 rfl (q := 264) rfl ?_
  refine j_iload X 1 dL_law_264 rfl (q := 266) rfl ?_
  refine j_iconst (v := nI 4) X dL_law_266 (by decide) (q := 267) rfl ?_
  refine j_iadd X dL_law_267 (q := 268) rfl ?_
  refine j_eqi (show nI 0 + nI 4 = nI 4 by decide) ?_
  refine j_sld (j := 4) X hX hbl hbA (vp_in_nI (by omega) (by omega)) (nI_clamp (by omega)) dL_law_268 (q := 269) rfl ?_
  refine j_aload_n X 5 dL_law_269 rfl (q := 270) rfl ?_
  refine j_iload X 1 dL_law_270 rfl (q := 272) rfl ?_
  refine j_iconst (v := nI 5) X dL_law_272 (by decide) (q := 273) rfl ?_
  refine j_iadd X dL_law_273 (q := 274) rfl ?_
  refine j_eqi (show nI 0 + nI 5 = nI 5 by decide) ?_
  refine j_sld (j := 5) X hX hbl hbA (vp_in_nI (by omega) (by omega)) (nI_clamp (by omega)) dL_law_274 (q := 275) rfl ?_
  refine j_callVi (As := [.int (xs 1), .int (xs 2), .int (xs 3), .int (xs 4), .int (xs 5)]) (rest := []) (wn := fun u2 => [(a_m, .inr (12, mfs ad u2 m_connections (nI m_size) (nI m_ids) (nI m_dataAll) (nI m_putCount) (nI m_waiting) (nI m_readSize) m_power m_left m_since m_changes (nI m_rowSize))), (a_out, .inl (ct 3, 1, .inr (.inl (vp_updL g_out 0 (Int32.toInt64 (f_X11_ask v_toServer_size (xs 1) (xs 4)))))))]) (wr := [(a_out, .inl (ct 3, 1, .inr (.inl (vp_updL g_out 0 (Int32.toInt64 (f_X11_ask v_toServer_size (xs 1) (xs 4)))))))]) X (fun sz => c_X12_ask l D ct ts a_m ad m_thrown m_connections m_size m_ids m_dataAll m_putCount m_waiting m_readSize m_power m_left m_since m_changes m_rowSize m_state ((xs 1)) ((xs 2)) ((xs 3)) ((xs 4)) ((xs 5)) m_h_st sz) cal_X12_ask 0 rfl rfl mw_K_30 cwi_X12_ask cws_X12_ask rfl ⟨by decide, by decide⟩ rfl rfl (Nat.le_of_ble_eq_true rfl) ⟨by decide, by decide⟩ [0, 1] [2] [1, 0] rfl (by decide) rfl (by decide) (by decide) (fun _ => rfl) (by decide) dL_law_275 (q := 278) rfl (fun r2 u2 hu2 => ?_)
  have ht2 : u2 = (f_X12_ask ((xs 1)) ((xs 4))).2 := congrArg (fun z => z.2) hu2
  have er2 : r2 = (f_X12_ask ((xs 1)) ((xs 4))).1 := congrArg Prod.fst hu2
  obtain ⟨tv, htv⟩ : ∃ tv : Int32, tv = u2 := ⟨_, rfl⟩
  refine j_ws (ws2 := [(a_m, .inr (12, mfs ad tv m_connections (nI m_size) (nI m_ids) (nI m_dataAll) (nI m_putCount) (nI m_waiting) (nI m_readSize) m_power m_left m_since m_changes (nI m_rowSize))), (a_out, .inl (ct 3, 1, .inr (.inl (vp_updL g_out 0 (Int32.toInt64 (f_X11_ask v_toServer_size (xs 1) (xs 4)))))))]) (by rw [htv]) ?_
  have hk2 : tv = nI 0 := htv.trans (ht2.trans (by rw [ma_k c_h_k1 c_h_k2]))
  have hb2 : r2 = (-1) := er2.trans (by rw [ma_k c_h_k1 c_h_k2])
  refine j_eqi hb2 ?_
  refine j_istore (lv' := [(6, .int ((-1))), (5, .int (nI 0)), (4, .int (nI 0)), (3, .ref a_out), (2, .ref a_m), (1, .ref a_this), (0, .ref b)]) X dL_law_278 (by decide) rfl (q := 280) rfl ?_
  refine j_aload_n X 4 dL_law_280 rfl (q := 281) rfl ?_
  refine j_callVi (As := []) (rest := []) (wn := fun _ => [(a_out, .inl (ct 3, 1, .inr (.inl (vp_updL g_out 0 (Int32.toInt64 (f_X11_ask v_toServer_size (xs 1) (xs 4)))))))]) (wr := [(a_out, .inl (ct 3, 1, .inr (.inl (vp_updL g_out 0 (Int32.toInt64 (f_X11_ask v_toServer_size (xs 1) (xs 4)))))))]) X (fun sz => c_X12_thrown l D ct ts a_m ad tv m_connections m_size m_ids m_dataAll m_putCount m_waiting m_readSize m_power m_left m_since m_changes m_rowSize sz) cal_X12_thrown 0 rfl rfl mw_K_20 cwi_X12_thrown cws_X12_thrown rfl ⟨by decide, by decide⟩ rfl rfl (Nat.le_of_ble_eq_true rfl) ⟨by decide, by decide⟩ [0] [1] [0] rfl (by decide) rfl (by decide) (by decide) (fun _ => rfl) (by decide) dL_law_281 (q := 284) rfl (fun r2 u2 hu2 => ?_)
  have er2 : r2 = f_X12_thrown tv := hu2
  refine j_eqi er2 ?_
  refine j_iload X 1 dL_law_284 rfl (q := 286) rfl ?_
  refine j_icmp_eq (tgt := 291) X dL_law_286 (by decide) (q := 289) rfl (fun _ => ?_) (fun hne => absurd (show (f_X12_thrown tv) = (nI 0) from hk2) hne)
  refine j_iload X 1 dL_law_291 rfl (q := 293) rfl ?_
  refine j_if_ne (tgt := 308) X dL_law_293 (by decide) (q := 296) rfl (fun hne => absurd (by decide) hne) (fun _ => ?_)
  refine j_aload_n X 3 dL_law_296 rfl (q := 297) rfl ?_
  refine j_iconst (v := nI 0) X dL_law_297 (by decide) (q := 298) rfl ?_
  refine j_lald X 0 rfl (vp_in_nI (by omega) (by omega)) dL_law_298 (q := 299) rfl ?_
  refine j_iload X 0 dL_law_299 rfl (q := 301) rfl ?_
  refine j_i2l X dL_law_301 (q := 302) rfl ?_
  refine j_lcmp X dL_law_302 (q := 303) rfl ?_
  refine j_if_eq (tgt := 308) X dL_law_303 (by decide) (q := 306) rfl (fun _ => ?_) (fun hne => absurd (show (lg_cmp (((vp_updL g_out 0 (Int32.toInt64 (f_X11_ask v_toServer_size (xs 1) (xs 4)))) (nI 0).toNatClampNeg)) ((Int32.toInt64 (((-1)))))) = 0 from by rw [xa_k]; exact lgc) hne)
  refine j_goto (tgt := 775) X dL_law_308 (by decide) ?_
  refine j_perm (ws2 := []) [] rfl rfl ?_
  refine j_lv (lv' := [(0, .ref b), (4, .int (nI 0))]) [6, 2] rfl ?_
  refine j_wid (a := 600002) (b := 7302232) (by decide) (by decide) ?_
  exact kend
set_option maxHeartbeats 4000000 in
set_option maxRecDepth 100000 in
theorem k_ask_b {p : Program} {l : Launch} {e : Env} {s : State} {m : MethodId} {b : Nat} {below : List Frame} {meth : Method} {c : Code} {D : va_G} {ct : Nat → ClassId} {ts : Nat → Nat} {A : Nat → Prop} {xs : Nat → Int32} {a_m a_out a_this a_this_clientSide a_this_serverSide a_this_toClient a_this_toServer : Nat} {ad : Nat → Nat} {m_changes : Int32} {m_connections : Int32} {m_dataAll : Nat} {m_ids : Nat} {m_left : Int32} {m_power : Int32} {m_putCount : Nat} {m_readSize : Nat} {m_rowSize : Nat} {m_since : Int32} {m_size : Nat} {m_state : Nat → Int32} {m_thrown : Int32} {m_waiting : Nat} {v_connections : Int32} {g_out : Nat → Int64} (Y : LX p l s m meth c D ct ts A b xs) (c_h_b : (xs 1) < 0 ∨ ¬ (xs 1) ≤ nI 9) (m_h_st : m_state 0 = nI 0) (kend : LJ p l e s m b below meth c D A 600002 7302232 [] [(0, .ref b), (4, .int (nI 0))] [] 775) : LJ p l e s m b below meth c D A 190 418642 [(a_this, .inr (11, [.ref a_this_clientSide, .ref a_this_serverSide, .ref a_this_toServer, .ref a_this_toClient, .int v_connections])), (a_m, .inr (12, mfs ad m_thrown m_connections (nI m_size) (nI m_ids) (nI m_dataAll) (nI m_putCount) (nI m_waiting) (nI m_readSize) m_power m_left m_since m_changes (nI m_rowSize))), (ad 2, .inl (ct 0, 2, .inl m_state)), (a_out, .inl (ct 3, 1, .inr (.inl g_out)))] [(4, .int (nI 0)), (3, .ref a_out), (2, .ref a_m), (1, .ref a_this), (0, .ref b)] [] 207 := by
  obtain ⟨X, hT, hX, hbl, hbA, hl⟩ := Y
  refine j_aload_n X 3 dL_law_207 rfl (q := 208) rfl ?_
  refine j_aload_n X 4 dL_law_208 rfl (q := 209) rfl ?_
  refine j_iload X 0 dL_law_209 rfl (q := 211) rfl ?_
  refine j_iconst (v := nI 1) X dL_law_211 (by decide) (q := 212) rfl ?_
  refine j_iadd X dL_law_212 (q := 213) rfl ?_
  refine j_eqi (show nI 0 + nI 1 = nI 1 by decide) ?_
  refine j_sld (j := 1) X hX hbl hbA (vp_in_nI (by omega) (by omega)) (nI_clamp (by omega)) dL_law_213 (q := 214) rfl ?_
  refine j_aload_n X 4 dL_law_214 rfl (q := 215) rfl ?_
  refine j_iload X 0 dL_law_215 rfl (q := 217) rfl ?_
  refine j_iconst (v := nI 2) X dL_law_217 (by decide) (q := 218) rfl ?_
  refine j_iadd X dL_law_218 (q := 219) rfl ?_
  refine j_eqi (show nI 0 + nI 2 = nI 2 by decide) ?_
  refine j_sld (j := 2) X hX hbl hbA (vp_in_nI (by omega) (by omega)) (nI_clamp (by omega)) dL_law_219 (q := 220) rfl ?_
  refine j_aload_n X 4 dL_law_220 rfl (q := 221) rfl ?_
  refine j_iload X 0 dL_law_221 rfl (q := 223) rfl ?_
  refine j_iconst (v := nI 3) X dL_law_223 (by decide) (q := 224) rfl ?_
  refine j_iadd X dL_law_224 (q := 225) rfl ?_
  refine j_eqi (show nI 0 + nI 3 = nI 3 by decide) ?_
  refine j_sld (j := 3) X hX hbl hbA (vp_in_nI (by omega) (by omega)) (nI_clamp (by omega)) dL_law_225 (q := 226) rfl ?_
  refine j_aload_n X 4 dL_law_226 rfl (q := 227) rfl ?_
  refine j_iload X 0 dL_law_227 rfl (q := 229) rfl ?_
  refine j_iconst (v := nI 4) X dL_law_229 (by decide) (q := 230) rfl ?_
  refine j_iadd X dL_law_230 (q := 231) rfl ?_
  refine j_eqi (show nI 0 + nI 4 = nI 4 by decide) ?_
  refine j_sld (j := 4) X hX hbl hbA (vp_in_nI (by omega) (by omega)) (nI_clamp (by omega)) dL_law_231 (q := 232) rfl ?_
  refine j_aload_n X 4 dL_law_232 rfl (q := 233) rfl ?_
  refine j_iload X 0 dL_law_233 rfl (q := 235) rfl ?_
  refine j_iconst (v := nI 5) X dL_law_235 (by decide) (q := 236) rfl ?_
  refine j_iadd X dL_law_236 (q := 237) rfl ?_
  refine j_eqi (show nI 0 + nI 5 = nI 5 by decide) ?_
  refine j_sld (j := 5) X hX hbl hbA (vp_in_nI (by omega) (by omega)) (nI_clamp (by omega)) dL_law_237 (q := 238) rfl ?_
  refine j_aload_n X 1 dL_law_238 rfl (q := 239) rfl ?_
  refine j_callHi (As := [.ref a_this, .int (xs 1), .int (xs 2), .int (xs 3), .int (xs 4), .int (xs 5), .ref a_out]) (rest := []) (wn := fun _ => [(a_m, .inr (12, mfs ad m_thrown m_connections (nI m_size) (nI m_ids) (nI m_dataAll) (nI m_putCount) (nI m_waiting) (nI m_readSize) m_power m_left m_since m_changes (nI m_rowSize))), (ad 2, .inl (ct 0, 2, .inl m_state)), (a_out, .inl (ct 3, 1, .inr (.inl g_out)))]) (wr := [(a_m, .inr (12, mfs ad m_thrown m_connections (nI m_size) (nI m_ids) (nI m_dataAll) (nI m_putCount) (nI m_waiting) (nI m_readSize) m_power m_left m_since m_changes (nI m_rowSize))), (ad 2, .inl (ct 0, 2, .inl m_state))]) X hT (fun sz => c_L_ask_b l D ct ts hl a_this a_this_clientSide a_this_serverSide a_this_toServer a_this_toClient a_out v_connections ((xs 1)) ((xs 2)) ((xs 3)) ((xs 4)) ((xs 5)) g_out c_h_b sz) cal_L_ask mw_K_29 cwt_L_ask rfl ⟨by decide, by decide⟩ rfl rfl (Nat.le_of_ble_eq_true rfl) ⟨by decide, by decide⟩ [0, 3] [1, 2] [0, 1, 2] rfl (by decide) rfl (by decide) (by decide) (fun _ => rfl) (by decide) dL_law_239 (q := 242) rfl (fun r0 u0 hu0 => ?_)
  have hu0 : r0 = nI 1 := hu0
  subst hu0
  refine j_istore (lv' := [(5, .int (nI 1)), (4, .int (nI 0)), (3, .ref a_out), (2, .ref a_m), (1, .ref a_this), (0, .ref b)]) X dL_law_242 (by decide) rfl (q := 244) rfl ?_
  refine j_aload_n X 3 dL_law_244 rfl (q := 245) rfl ?_
  refine j_aload_n X 5 dL_law_245 rfl (q := 246) rfl ?_
  refine j_iload X 1 dL_law_246 rfl (q := 248) rfl ?_
  refine j_iconst (v := nI 1) X dL_law_248 (by decide) (q := 249) rfl ?_
  refine j_iadd X dL_law_249 (q := 250) rfl ?_
  refine j_eqi (show nI 0 + nI 1 = nI 1 by decide) ?_
  refine j_sld (j := 1) X hX hbl hbA (vp_in_nI (by omega) (by omega)) (nI_clamp (by omega)) dL_law_250 (q := 251) rfl ?_
  refine j_aload_n X 5 dL_law_251 rfl (q := 252) rfl ?_
  refine j_iload X 1 dL_law_252 rfl (q := 254) rfl ?_
  refine j_iconst (v := nI 2) X dL_law_254 (by decide) (q := 255) rfl ?_
  refine j_iadd X dL_law_255 (q := 256) rfl ?_
  refine j_eqi (show nI 0 + nI 2 = nI 2 by decide) ?_
  refine j_sld (j := 2) X hX hbl hbA (vp_in_nI (by omega) (by omega)) (nI_clamp (by omega)) dL_law_256 (q := 257) rfl ?_
  refine j_aload_n X 5 dL_law_257 rfl (q := 258) rfl ?_
  refine j_iload X 1 dL_law_258 rfl (q := 260) rfl ?_
  refine j_iconst (v := nI 3) X dL_law_260 (by decide) (q := 261) rfl ?_
  refine j_iadd X dL_law_261 (q := 262) rfl ?_
  refine j_eqi (show nI 0 + nI 3 = nI 3 by decide) ?_
  refine j_sld (j := 3) X hX hbl hbA (vp_in_nI (by omega) (by omega)) (nI_clamp (by omega)) dL_law_262 (q := 263) rfl ?_
  refine j_aload_n X 5 dL_law_263 rfl (q := 264) rfl ?_
  refine j_iload X 1 dL_law_264 rfl (q := 266) rfl ?_
  refine j_iconst (v := nI 4) X dL_law_266 (by decide) (q := 267) rfl ?_
  refine j_iadd X dL_law_267 (q := 268) rfl ?_
  refine j_eqi (show nI 0 + nI 4 = nI 4 by decide) ?_
  refine j_sld (j := 4) X hX hbl hbA (vp_in_nI (by omega) (by omega)) (nI_clamp (by omega)) dL_law_268 (q := 269) rfl ?_
  refine j_aload_n X 5 dL_law_269 rfl (q := 270) rfl ?_
  refine j_iload X 1 dL_law_270 rfl (q := 272) rfl ?_
  refine j_iconst (v := nI 5) X dL_law_272 (by decide) (q := 273) rfl ?_
  refine j_iadd X dL_law_273 (q := 274) rfl ?_
  refine j_eqi (show nI 0 + nI 5 = nI 5 by decide) ?_
  refine j_sld (j := 5) X hX hbl hbA (vp_in_nI (by omega) (by omega)) (nI_clamp (by omega)) dL_law_274 (q := 275) rfl ?_
  refine j_callVi (As := [.int (xs 1), .int (xs 2), .int (xs 3), .int (xs 4), .int (xs 5)]) (rest := []) (wn := fun u2 => [(a_m, .inr (12, mfs ad u2 m_connections (nI m_size) (nI m_ids) (nI m_dataAll) (nI m_putCount) (nI m_waiting) (nI m_readSize) m_power m_left m_since m_changes (nI m_rowSize))), (a_out, .inl (ct 3, 1, .inr (.inl g_out)))]) (wr := [(a_out, .inl (ct 3, 1, .inr (.inl g_out)))]) X (fun sz => c_X12_ask l D ct ts a_m ad m_thrown m_connections m_size m_ids m_dataAll m_putCount m_waiting m_readSize m_power m_left m_since m_changes m_rowSize m_state ((xs 1)) ((xs 2)) ((xs 3)) ((xs 4)) ((xs 5)) m_h_st sz) cal_X12_ask 0 rfl rfl mw_K_30 cwi_X12_ask cws_X12_ask rfl ⟨by decide, by decide⟩ rfl rfl (Nat.le_of_ble_eq_true rfl) ⟨by decide, by decide⟩ [0, 1] [2] [1, 0] rfl (by decide) rfl (by decide) (by decide) (fun _ => rfl) (by decide) dL_law_275 (q := 278) rfl (fun r2 u2 hu2 => ?_)
  have ht2 : u2 = (f_X12_ask ((xs 1)) ((xs 4))).2 := congrArg (fun z => z.2) hu2
  have er2 : r2 = (f_X12_ask ((xs 1)) ((xs 4))).1 := congrArg Prod.fst hu2
  obtain ⟨tv, htv⟩ : ∃ tv : Int32, tv = u2 := ⟨_, rfl⟩
  refine j_ws (ws2 := [(a_m, .inr (12, mfs ad tv m_connections (nI m_size) (nI m_ids) (nI m_dataAll) (nI m_putCount) (nI m_waiting) (nI m_readSize) m_power m_left m_since m_changes (nI m_rowSize))), (a_out, .inl (ct 3, 1, .inr (.inl g_out)))]) (by rw [htv]) ?_
  have hk2 : tv = nI 1 := htv.trans (ht2.trans (by rw [ma_b c_h_b]))
  have hb2 : r2 = nI 0 := er2.trans (by rw [ma_b c_h_b])
  refine j_eqi hb2 ?_
  refine j_istore (lv' := [(6, .int (nI 0)), (5, .int (nI 1)), (4, .int (nI 0)), (3, .ref a_out), (2, .ref a_m), (1, .ref a_this), (0, .ref b)]) X dL_law_278 (by decide) rfl (q := 280) rfl ?_
  refine j_aload_n X 4 dL_law_280 rfl (q := 281) rfl ?_
  refine j_callVi (As := []) (rest := []) (wn := fun _ => [(a_out, .inl (ct 3, 1, .inr (.inl g_out)))]) (wr := [(a_out, .inl (ct 3, 1, .inr (.inl g_out)))]) X (fun sz => c_X12_thrown l D ct ts a_m ad tv m_connections m_size m_ids m_dataAll m_putCount m_waiting m_readSize m_power m_left m_since m_changes m_rowSize sz) cal_X12_thrown 0 rfl rfl mw_K_20 cwi_X12_thrown cws_X12_thrown rfl ⟨by decide, by decide⟩ rfl rfl (Nat.le_of_ble_eq_true rfl) ⟨by decide, by decide⟩ [0] [1] [0] rfl (by decide) rfl (by decide) (by decide) (fun _ => rfl) (by decide) dL_law_281 (q := 284) rfl (fun r2 u2 hu2 => ?_)
  have er2 : r2 = f_X12_thrown tv := hu2
  refine j_eqi er2 ?_
  refine j_iload X 1 dL_law_284 rfl (q := 286) rfl ?_
  refine j_icmp_eq (tgt := 291) X dL_law_286 (by decide) (q := 289) rfl (fun _ => ?_) (fun hne => absurd (show (f_X12_thrown tv) = (nI 1) from hk2) hne)
  refine j_iload X 1 dL_law_291 rfl (q := 293) rfl ?_
  refine j_if_ne (tgt := 308) X dL_law_293 (by decide) (q := 296) rfl (fun _ => ?_) (fun hne => absurd hne (by decide))
  refine j_goto (tgt := 775) X dL_law_308 (by decide) ?_
  refine j_perm (ws2 := []) [] rfl rfl ?_
  refine j_lv (lv' := [(0, .ref b), (4, .int (nI 0))]) [6, 2] rfl ?_
  refine j_wid (a := 600002) (b := 7302232) (by decide) (by decide) ?_
  exact kend
theorem mw_K_31 : Cond.methodLink "GuardedTreeLaw" 76 yL_data ∈ tb := tb_at 792 (by decide +kernel) (by decide +kernel)
theorem mw_K_32 : Cond.methodLink "GuardedTreeLaw" 79 yX12_data ∈ tb := tb_at 1608 (by decide +kernel) (by decide +kernel)
set_option maxHeartbeats 4000000 in
set_option maxRecDepth 100000 in
theorem k_data {p : Program} {l : Launch} {e : Env} {s : State} {m : MethodId} {b : Nat} {below : List Frame} {meth : Method} {c : Code} {D : va_G} {ct : Nat → ClassId} {ts : Nat → Nat} {A : Nat → Prop} {xs : Nat → Int32} {a_m a_out a_this a_this_clientSide a_this_clientSide_agreement a_this_clientSide_in a_this_clientSide_out a_this_clientSide_requests a_this_clientSide_words a_this_serverSide a_this_toClient a_this_toServer : Nat} {ad : Nat → Nat} {m_changes : Int32} {m_connections : Int32} {m_data : Nat → Int32} {m_dataAll : Nat} {m_dataAt : Nat → Int32} {m_ids : Nat} {m_left : Int32} {m_power : Int32} {m_putCount : Nat} {m_readSize : Nat} {m_rowSize : Nat} {m_since : Int32} {m_size : Nat} {m_thrown : Int32} {m_waiting : Nat} {v_clientSide_asked : Nat} {v_clientSide_state : Int32} {v_clientSide_ungranted : Int32} {v_clientSide_wordCount : Nat} {v_connections : Int32} {g_out : Nat → Int64} (Y : LX p l s m meth c D ct ts A b xs) (c_h_a : v_clientSide_asked = 0) (m_h_i : m_ids = 0) (kend : LJ p l e s m b below meth c D A 600002 7302232 [] [(0, .ref b), (4, .int (nI 0))] [] 775) : LJ p l e s m b below meth c D A 190 418642 [(a_this, .inr (11, [.ref a_this_clientSide, .ref a_this_serverSide, .ref a_this_toServer, .ref a_this_toClient, .int v_connections])), (a_this_clientSide, .inr (3, [.ref a_this_clientSide_agreement, .ref a_this_clientSide_in, .ref a_this_clientSide_out, .ref a_this_clientSide_requests, .ref a_this_clientSide_words, .int v_clientSide_state, .int (nI v_clientSide_asked), .int (nI v_clientSide_wordCount), .int v_clientSide_ungranted])), (a_m, .inr (12, mfs ad m_thrown m_connections (nI m_size) (nI m_ids) (nI m_dataAll) (nI m_putCount) (nI m_waiting) (nI m_readSize) m_power m_left m_since m_changes (nI m_rowSize))), (ad 19, .inl (ct 0, 4200, .inl m_dataAt)), (ad 21, .inl (ct 1, 270000, .inl m_data)), (a_out, .inl (ct 3, 1, .inr (.inl g_out)))] [(4, .int (nI 0)), (3, .ref a_out), (2, .ref a_m), (1, .ref a_this), (0, .ref b)] [] 336 := by
  obtain ⟨X, hT, hX, hbl, hbA, hl⟩ := Y
  refine j_aload_n X 3 dL_law_336 rfl (q := 337) rfl ?_
  refine j_aload_n X 4 dL_law_337 rfl (q := 338) rfl ?_
  refine j_iload X 0 dL_law_338 rfl (q := 340) rfl ?_
  refine j_iconst (v := nI 1) X dL_law_340 (by decide) (q := 341) rfl ?_
  refine j_iadd X dL_law_341 (q := 342) rfl ?_
  refine j_eqi (show nI 0 + nI 1 = nI 1 by decide) ?_
  refine j_sld (j := 1) X hX hbl hbA (vp_in_nI (by omega) (by omega)) (nI_clamp (by omega)) dL_law_342 (q := 343) rfl ?_
  refine j_aload_n X 4 dL_law_343 rfl (q := 344) rfl ?_
  refine j_iload X 0 dL_law_344 rfl (q := 346) rfl ?_
  refine j_iconst (v := nI 2) X dL_law_346 (by decide) (q := 347) rfl ?_
  refine j_iadd X dL_law_347 (q := 348) rfl ?_
  refine j_eqi (show nI 0 + nI 2 = nI 2 by decide) ?_
  refine j_sld (j := 2) X hX hbl hbA (vp_in_nI (by omega) (by omega)) (nI_clamp (by omega)) dL_law_348 (q := 349) rfl ?_
  refine j_aload_n X 1 dL_law_349 rfl (q := 350) rfl ?_
  refine j_callHi (As := [.ref a_this, .int (xs 1), .int (xs 2), .ref a_out]) (rest := []) (wn := fun _ => [(a_m, .inr (12, mfs ad m_thrown m_connections (nI m_size) (nI m_ids) (nI m_dataAll) (nI m_putCount) (nI m_waiting) (nI m_readSize) m_power m_left m_since m_changes (nI m_rowSize))), (ad 19, .inl (ct 0, 4200, .inl m_dataAt)), (ad 21, .inl (ct 1, 270000, .inl m_data)), (a_out, .inl (ct 3, 1, .inr (.inl g_out)))]) (wr := [(a_m, .inr (12, mfs ad m_thrown m_connections (nI m_size) (nI m_ids) (nI m_dataAll) (nI m_putCount) (nI m_waiting) (nI m_readSize) m_power m_left m_since m_changes (nI m_rowSize))), (ad 19, .inl (ct 0, 4200, .inl m_dataAt)), (ad 21, .inl (ct 1, 270000, .inl m_data))]) X hT (fun sz => c_L_data l D ct ts hl a_this a_this_clientSide a_this_serverSide a_this_toServer a_this_toClient a_this_clientSide_agreement a_this_clientSide_in a_this_clientSide_out a_this_clientSide_requests a_this_clientSide_words a_out v_connections v_clientSide_state v_clientSide_asked v_clientSide_wordCount v_clientSide_ungranted ((xs 1)) ((xs 2)) g_out c_h_a sz) cal_L_data mw_K_31 cwt_L_data rfl ⟨by decide, by decide⟩ rfl rfl (Nat.le_of_ble_eq_true rfl) ⟨by decide, by decide⟩ [0, 1, 5] [2, 3, 4] [0, 1, 2, 3] rfl (by decide) rfl (by decide) (by decide) (fun _ => rfl) (by decide) dL_law_350 (q := 353) rfl (fun r0 u0 hu0 => ?_)
  have hu0 : r0 = nI 1 := hu0
  subst hu0
  refine j_istore (lv' := [(5, .int (nI 1)), (4, .int (nI 0)), (3, .ref a_out), (2, .ref a_m), (1, .ref a_this), (0, .ref b)]) X dL_law_353 (by decide) rfl (q := 355) rfl ?_
  refine j_aload_n X 3 dL_law_355 rfl (q := 356) rfl ?_
  refine j_aload_n X 5 dL_law_356 rfl (q := 357) rfl ?_
  refine j_iload X 1 dL_law_357 rfl (q := 359) rfl ?_
  refine j_iconst (v := nI 1) X dL_law_359 (by decide) (q := 360) rfl ?_
  refine j_iadd X dL_law_360 (q := 361) rfl ?_
  refine j_eqi (show nI 0 + nI 1 = nI 1 by decide) ?_
  refine j_sld (j := 1) X hX hbl hbA (vp_in_nI (by omega) (by omega)) (nI_clamp (by omega)) dL_law_361 (q := 362) rfl ?_
  refine j_aload_n X 5 dL_law_362 rfl (q := 363) rfl ?_
  refine j_iload X 1 dL_law_363 rfl (q := 365) rfl ?_
  refine j_iconst (v := nI 2) X dL_law_365 (by decide) (q := 366) rfl ?_
  refine j_iadd X dL_law_366 (q := 367) rfl ?_
  refine j_eqi (show nI 0 + nI 2 = nI 2 by decide) ?_
  refine j_sld (j := 2) X hX hbl hbA (vp_in_nI (by omega) (by omega)) (nI_clamp (by omega)) dL_law_367 (q := 368) rfl ?_
  refine j_callVi (As := [.int (xs 1), .int (xs 2)]) (rest := []) (wn := fun u2 => [(a_m, .inr (12, mfs ad u2 m_connections (nI m_size) (nI m_ids) (nI m_dataAll) (nI m_putCount) (nI m_waiting) (nI m_readSize) m_power m_left m_since m_changes (nI m_rowSize))), (a_out, .inl (ct 3, 1, .inr (.inl g_out)))]) (wr := [(a_out, .inl (ct 3, 1, .inr (.inl g_out)))]) X (fun sz => c_X12_data l D ct ts a_m ad m_thrown m_connections m_size m_ids m_dataAll m_putCount m_waiting m_readSize m_power m_left m_since m_changes m_rowSize m_dataAt m_data ((xs 1)) ((xs 2)) m_h_i sz) cal_X12_data 0 rfl rfl mw_K_32 cwi_X12_data cws_X12_data rfl ⟨by decide, by decide⟩ rfl rfl (Nat.le_of_ble_eq_true rfl) ⟨by decide, by decide⟩ [0, 1, 2] [3] [1, 0] rfl (by decide) rfl (by decide) (by decide) (fun _ => rfl) (by decide) dL_law_368 (q := 371) rfl (fun r2 u2 hu2 => ?_)
  have ht2 : u2 = (f_X12_data).2 := congrArg (fun z => z.2) hu2
  have er2 : r2 = (f_X12_data).1 := congrArg Prod.fst hu2
  obtain ⟨tv, htv⟩ : ∃ tv : Int32, tv = u2 := ⟨_, rfl⟩
  refine j_ws (ws2 := [(a_m, .inr (12, mfs ad tv m_connections (nI m_size) (nI m_ids) (nI m_dataAll) (nI m_putCount) (nI m_waiting) (nI m_readSize) m_power m_left m_since m_changes (nI m_rowSize))), (a_out, .inl (ct 3, 1, .inr (.inl g_out)))]) (by rw [htv]) ?_
  have hk2 : tv = nI 1 := htv.trans (ht2.trans (rfl))
  have hb2 : r2 = nI 0 := er2.trans (rfl)
  refine j_eqi hb2 ?_
  refine j_istore (lv' := [(6, .int (nI 0)), (5, .int (nI 1)), (4, .int (nI 0)), (3, .ref a_out), (2, .ref a_m), (1, .ref a_this), (0, .ref b)]) X dL_law_371 (by decide) rfl (q := 373) rfl ?_
  refine j_aload_n X 4 dL_law_373 rfl (q := 374) rfl ?_
  refine j_callVi (As := []) (rest := []) (wn := fun _ => [(a_out, .inl (ct 3, 1, .inr (.inl g_out)))]) (wr := [(a_out, .inl (ct 3, 1, .inr (.inl g_out)))]) X (fun sz => c_X12_thrown l D ct ts a_m ad tv m_connections m_size m_ids m_dataAll m_putCount m_waiting m_readSize m_power m_left m_since m_changes m_rowSize sz) cal_X12_thrown 0 rfl rfl mw_K_20 cwi_X12_thrown cws_X12_thrown rfl ⟨by decide, by decide⟩ rfl rfl (Nat.le_of_ble_eq_true rfl) ⟨by decide, by decide⟩ [0] [1] [0] rfl (by decide) rfl (by decide) (by decide) (fun _ => rfl) (by decide) dL_law_374 (q := 377) rfl (fun r2 u2 hu2 => ?_)
  have er2 : r2 = f_X12_thrown tv := hu2
  refine j_eqi er2 ?_
  refine j_iload X 1 dL_law_377 rfl (q := 379) rfl ?_
  refine j_icmp_eq (tgt := 384) X dL_law_379 (by decide) (q := 382) rfl (fun _ => ?_) (fun hne => absurd (show (f_X12_thrown tv) = (nI 1) from hk2) hne)
  refine j_iload X 1 dL_law_384 rfl (q := 386) rfl ?_
  refine j_if_ne (tgt := 401) X dL_law_386 (by decide) (q := 389) rfl (fun _ => ?_) (fun hne => absurd hne (by decide))
  refine j_goto (tgt := 775) X dL_law_401 (by decide) ?_
  refine j_perm (ws2 := []) [] rfl rfl ?_
  refine j_lv (lv' := [(0, .ref b), (4, .int (nI 0))]) [6, 2] rfl ?_
  refine j_wid (a := 600002) (b := 7302232) (by decide) (by decide) ?_
  exact kend
