theorem mw_X4_clear_0 : Cond.fieldLink "GuardedTree$Digest" 23 "GuardedTree$Digest" "size" "I" ∈ tb := tb_at 160 (by decide +kernel) (by decide +kernel)
theorem dX4_clear_0 : decode cX4_clear 0 = .ok (.aload_n 0, 1) := by decide +kernel
theorem dX4_clear_1 : decode cX4_clear 1 = .ok (.iconst 0, 1) := by decide +kernel
theorem dX4_clear_2 : decode cX4_clear 2 = .ok (.putfield 23, 3) := by decide +kernel
theorem dX4_clear_5 : decode cX4_clear 5 = .ok (.return_, 1) := by decide +kernel
noncomputable def f_X4_clear  : (Nat) :=
  0
set_option maxHeartbeats 4000000 in
set_option maxRecDepth 100000 in
theorem c_X4_clear (l : Launch) (D : va_G) (ct : Nat → ClassId) (ts : Nat → Nat) (a_this a_this_state a_this_text a_this_w a_this_inner : Nat) (v_size : Nat)    (sz : Nat) : Met l yX4_clear (Cond.code yX4_clear cX4_clear 1 none :: tb) { frames := 0, cells := 0, slots := 0, locals := 0 } (PcG D ct SXL ts [.ref a_this] [(a_this, .inr (4, [.ref a_this_state, .ref a_this_text, .ref a_this_w, .ref a_this_inner, .int (nI v_size)]))] sz) (va_Qv (fun u : (Nat) => u = f_X4_clear ) (fun u => BG D ct (va_A [(a_this, .inr (4, [.ref a_this_state, .ref a_this_text, .ref a_this_w, .ref a_this_inner, .int (nI v_size)]))] sz) [(a_this, .inr (4, [.ref a_this_state, .ref a_this_text, .ref a_this_w, .ref a_this_inner, .int (nI u)]))]) (va_A [(a_this, .inr (4, [.ref a_this_state, .ref a_this_text, .ref a_this_w, .ref a_this_inner, .int (nI v_size)]))] sz)) 0 0 (va_A [(a_this, .inr (4, [.ref a_this_state, .ref a_this_text, .ref a_this_w, .ref a_this_inner, .int (nI v_size)]))] sz) := by
  refine metJ (QcF := fun A => va_Qv (fun u : (Nat) => u = f_X4_clear ) (fun u => BG D ct A [(a_this, .inr (4, [.ref a_this_state, .ref a_this_text, .ref a_this_w, .ref a_this_inner, .int (nI u)]))]) A) (by decide) (Nat.le_of_ble_eq_true rfl) ?_
  intro p e s m below meth c A X hnm
  obtain ⟨Q, hQ⟩ : ∃ Q, Q = MQ below (va_Qv (fun u : (Nat) => u = f_X4_clear ) (fun u => BG D ct A [(a_this, .inr (4, [.ref a_this_state, .ref a_this_text, .ref a_this_w, .ref a_this_inner, .int (nI u)]))]) A) [.ref a_this].toArray s 0 0 A := ⟨_, rfl⟩
  rw [← hQ]
  refine j_lve (lv' := [(0, .ref a_this)]) rfl ?_
  refine j_aload_n X 0 dX4_clear_0 rfl (q := 1) rfl ?_
  refine j_iconst (v := nI 0) X dX4_clear_1 (by decide) (q := 2) rfl ?_
  refine j_put (f := 4) (ws2 := [(a_this, .inr (4, [.ref a_this_state, .ref a_this_text, .ref a_this_w, .ref a_this_inner, .int (nI 0)]))]) (ty := .int) X 0 inT4 tyX4_ok nmX4 rfl rfl (by decide) mw_X4_clear_0 rfl rfl rfl rfl (Nat.le_of_ble_eq_true rfl) dX4_clear_2 rfl (q := 5) rfl ?_
  rw [hQ]
  exact j_vret X 0 dX4_clear_5 rfl rfl
theorem cal_X4_clear : Cal yX4_clear cX4_clear 1 none 0 := ⟨tb_at 112 (by decide +kernel) (by decide +kernel), tb_at 514 (by decide +kernel) (by decide +kernel), by decide +kernel, by decide +kernel, by decide +kernel⟩
theorem cwi_X4_clear : Cond.instanceMethod yX4_clear ∈ tb := tb_at 512 (by decide +kernel) (by decide +kernel)
theorem cws_X4_clear : Cond.selects yX4_clear.cls yX4_clear yX4_clear ∈ tb := tb_at 513 (by decide +kernel) (by decide +kernel)
theorem mw_X4_addByte_0 : Cond.fieldLink "GuardedTree$Digest" 23 "GuardedTree$Digest" "size" "I" ∈ tb := tb_at 160 (by decide +kernel) (by decide +kernel)
theorem mw_X4_addByte_1 : Cond.fieldLink "GuardedTree$Digest" 13 "GuardedTree$Digest" "text" "[B" ∈ tb := tb_at 157 (by decide +kernel) (by decide +kernel)
theorem dX4_addByte_0 : decode cX4_addByte 0 = .ok (.aload_n 0, 1) := by decide +kernel
theorem dX4_addByte_1 : decode cX4_addByte 1 = .ok (.getfield 23, 3) := by decide +kernel
theorem dX4_addByte_4 : decode cX4_addByte 4 = .ok (.sipush 247, 3) := by decide +kernel
theorem dX4_addByte_7 : decode cX4_addByte 7 = .ok (.if_icmp .ge 24, 3) := by decide +kernel
theorem dX4_addByte_10 : decode cX4_addByte 10 = .ok (.aload_n 0, 1) := by decide +kernel
theorem dX4_addByte_11 : decode cX4_addByte 11 = .ok (.getfield 13, 3) := by decide +kernel
theorem dX4_addByte_14 : decode cX4_addByte 14 = .ok (.aload_n 0, 1) := by decide +kernel
theorem dX4_addByte_15 : decode cX4_addByte 15 = .ok (.getfield 23, 3) := by decide +kernel
theorem dX4_addByte_18 : decode cX4_addByte 18 = .ok (.iload_n 1, 1) := by decide +kernel
theorem dX4_addByte_19 : decode cX4_addByte 19 = .ok (.i2b, 1) := by decide +kernel
theorem dX4_addByte_20 : decode cX4_addByte 20 = .ok (.bastore, 1) := by decide +kernel
theorem dX4_addByte_21 : decode cX4_addByte 21 = .ok (.aload_n 0, 1) := by decide +kernel
theorem dX4_addByte_22 : decode cX4_addByte 22 = .ok (.dup, 1) := by decide +kernel
theorem dX4_addByte_23 : decode cX4_addByte 23 = .ok (.getfield 23, 3) := by decide +kernel
theorem dX4_addByte_26 : decode cX4_addByte 26 = .ok (.iconst 1, 1) := by decide +kernel
theorem dX4_addByte_27 : decode cX4_addByte 27 = .ok (.iadd, 1) := by decide +kernel
theorem dX4_addByte_28 : decode cX4_addByte 28 = .ok (.putfield 23, 3) := by decide +kernel
theorem dX4_addByte_31 : decode cX4_addByte 31 = .ok (.return_, 1) := by decide +kernel
noncomputable def f_X4_addByte (v_size : Nat) (f_text : Nat → Int32) (x1 : Int32) : (Nat) × (Nat → Int32) :=
  if 247 ≤ v_size then
  ((v_size, f_text))
  else
  (let n2 := v_size + 1
  (n2, upd f_text v_size (b8 x1)))
set_option maxHeartbeats 4000000 in
set_option maxRecDepth 100000 in
theorem c_X4_addByte (l : Launch) (D : va_G) (ct : Nat → ClassId) (ts : Nat → Nat) (a_this a_this_text a_this_state a_this_w a_this_inner : Nat) (v_size : Nat) (f_text : Nat → Int32) (x1 : Int32)  (h_sz : v_size ≤ 247)  (sz : Nat) : Met l yX4_addByte (Cond.code yX4_addByte cX4_addByte 2 none :: tb) { frames := 0, cells := 0, slots := 0, locals := 0 } (PcG D ct SXL ts [.ref a_this, .int x1] [(a_this, .inr (4, [.ref a_this_state, .ref a_this_text, .ref a_this_w, .ref a_this_inner, .int (nI v_size)])), (a_this_text, .inl (ct 1, 256, .inl f_text))] sz) (va_Qv (fun u : (Nat) × (Nat → Int32) => u = f_X4_addByte v_size f_text x1) (fun u => BG D ct (va_A [(a_this, .inr (4, [.ref a_this_state, .ref a_this_text, .ref a_this_w, .ref a_this_inner, .int (nI v_size)])), (a_this_text, .inl (ct 1, 256, .inl f_text))] sz) [(a_this, .inr (4, [.ref a_this_state, .ref a_this_text, .ref a_this_w, .ref a_this_inner, .int (nI u.1)])), (a_this_text, .inl (ct 1, 256, .inl u.2))]) (va_A [(a_this, .inr (4, [.ref a_this_state, .ref a_this_text, .ref a_this_w, .ref a_this_inner, .int (nI v_size)])), (a_this_text, .inl (ct 1, 256, .inl f_text))] sz)) 0 0 (va_A [(a_this, .inr (4, [.ref a_this_state, .ref a_this_text, .ref a_this_w, .ref a_this_inner, .int (nI v_size)])), (a_this_text, .inl (ct 1, 256, .inl f_text))] sz) := by
  refine metJ (QcF := fun A => va_Qv (fun u : (Nat) × (Nat → Int32) => u = f_X4_addByte v_size f_text x1) (fun u => BG D ct A [(a_this, .inr (4, [.ref a_this_state, .ref a_this_text, .ref a_this_w, .ref a_this_inner, .int (nI u.1)])), (a_this_text, .inl (ct 1, 256, .inl u.2))]) A) (by decide) (Nat.le_of_ble_eq_true rfl) ?_
  intro p e s m below meth c A X hnm
  obtain ⟨Q, hQ⟩ : ∃ Q, Q = MQ below (va_Qv (fun u : (Nat) × (Nat → Int32) => u = f_X4_addByte v_size f_text x1) (fun u => BG D ct A [(a_this, .inr (4, [.ref a_this_state, .ref a_this_text, .ref a_this_w, .ref a_this_inner, .int (nI u.1)])), (a_this_text, .inl (ct 1, 256, .inl u.2))]) A) [.ref a_this, .int x1].toArray s 0 0 A := ⟨_, rfl⟩
  rw [← hQ]
  refine j_lve (lv' := [(0, .ref a_this), (1, .int x1)]) rfl ?_
  refine j_aload_n X 0 dX4_addByte_0 rfl (q := 1) rfl ?_
  refine j_get (f := 4) X 0 inT4 rfl rfl (by decide) mw_X4_addByte_0 rfl dX4_addByte_1 (q := 4) rfl ?_
  refine j_sipush (v := nI 247) X dX4_addByte_4 (by decide) (q := 7) rfl ?_
  refine j_icmp_ge (tgt := 31) X dX4_addByte_7 (by decide) (q := 10) rfl (fun c1 => ?_) (fun c1 => ?_)
  · skip
    have c1 : 247 ≤ v_size := (nI_leI (by omega) (by omega)).mp c1
    rw [hQ]
    exact j_vret X ((v_size, f_text)) dX4_addByte_31 (by first | rfl | (simp only [f_X4_addByte, if_pos c1]; done) | (simp only [f_X4_addByte, if_pos c1]; rfl)) rfl
  · skip
    have c1 : ¬ 247 ≤ v_size := fun h => c1 ((nI_leI (by omega) (by omega)).mpr h)
    refine j_aload_n X 0 dX4_addByte_10 rfl (q := 11) rfl ?_
    refine j_get (f := 1) X 0 inT4 rfl rfl (by decide) mw_X4_addByte_1 rfl dX4_addByte_11 (q := 14) rfl ?_
    refine j_aload_n X 0 dX4_addByte_14 rfl (q := 15) rfl ?_
    refine j_get (f := 4) X 0 inT4 rfl rfl (by decide) mw_X4_addByte_0 rfl dX4_addByte_15 (q := 18) rfl ?_
    refine j_iload_n X 1 dX4_addByte_18 rfl (q := 19) rfl ?_
    refine j_i2b X dX4_addByte_19 (q := 20) rfl ?_
    refine j_eqi (show _ = b8 x1 from rfl) ?_
    refine k_bast (ws2 := [(a_this, .inr (4, [.ref a_this_state, .ref a_this_text, .ref a_this_w, .ref a_this_inner, .int (nI v_size)])), (a_this_text, .inl (ct 1, 256, .inl (upd f_text v_size (b8 x1))))]) X 1 rfl (vp_in_nI (by omega) (by omega)) (nI_clamp (by omega)) (pk_vb _) dX4_addByte_20 rfl (q := 21) rfl ?_
    refine j_aload_n X 0 dX4_addByte_21 rfl (q := 22) rfl ?_
    refine j_dup X dX4_addByte_22 rfl (q := 23) rfl ?_
    refine j_get (f := 4) X 0 inT4 rfl rfl (by decide) mw_X4_addByte_0 rfl dX4_addByte_23 (q := 26) rfl ?_
    refine j_iconst (v := nI 1) X dX4_addByte_26 (by decide) (q := 27) rfl ?_
    refine j_iadd X dX4_addByte_27 (q := 28) rfl ?_
    refine j_eqi (nI_add _ _) ?_
    refine j_topn (fun n2 e_n2 => ?_)
    refine j_put (f := 4) (ws2 := [(a_this, .inr (4, [.ref a_this_state, .ref a_this_text, .ref a_this_w, .ref a_this_inner, .int (nI n2)])), (a_this_text, .inl (ct 1, 256, .inl (upd f_text v_size (b8 x1))))]) (ty := .int) X 0 inT4 tyX4_ok nmX4 rfl rfl (by decide) mw_X4_addByte_0 rfl rfl rfl rfl (Nat.le_of_ble_eq_true rfl) dX4_addByte_28 rfl (q := 31) rfl ?_
    rw [hQ]
    exact j_vret X ((n2, upd f_text v_size (b8 x1))) dX4_addByte_31 (by subst e_n2; first | rfl | (simp only [f_X4_addByte, if_neg c1]; done) | (simp only [f_X4_addByte, if_neg c1]; rfl)) rfl
theorem cal_X4_addByte : Cal yX4_addByte cX4_addByte 2 none 1 := ⟨tb_at 112 (by decide +kernel) (by decide +kernel), tb_at 522 (by decide +kernel) (by decide +kernel), by decide +kernel, by decide +kernel, by decide +kernel⟩
theorem cwi_X4_addByte : Cond.instanceMethod yX4_addByte ∈ tb := tb_at 520 (by decide +kernel) (by decide +kernel)
theorem cws_X4_addByte : Cond.selects yX4_addByte.cls yX4_addByte yX4_addByte ∈ tb := tb_at 521 (by decide +kernel) (by decide +kernel)
theorem f_X4_addByte_le {n : Nat} {t : Nat → Int32} {b : Int32} (h : n ≤ 247) : (f_X4_addByte n t b).1 ≤ 247 := by
  unfold f_X4_addByte
  split
  · exact h
  · show n + 1 ≤ 247; omega
theorem mw_X4_addWord_0 : Cond.methodLink "GuardedTree$Digest" 27 yX4_addByte ∈ tb := tb_at 519 (by decide +kernel) (by decide +kernel)
theorem dX4_addWord_0 : decode cX4_addWord 0 = .ok (.aload_n 0, 1) := by decide +kernel
theorem dX4_addWord_1 : decode cX4_addWord 1 = .ok (.iload_n 1, 1) := by decide +kernel
theorem dX4_addWord_2 : decode cX4_addWord 2 = .ok (.bipush 24, 2) := by decide +kernel
theorem dX4_addWord_4 : decode cX4_addWord 4 = .ok (.iushr, 1) := by decide +kernel
theorem dX4_addWord_5 : decode cX4_addWord 5 = .ok (.invokevirtual 27, 3) := by decide +kernel
theorem dX4_addWord_8 : decode cX4_addWord 8 = .ok (.aload_n 0, 1) := by decide +kernel
theorem dX4_addWord_9 : decode cX4_addWord 9 = .ok (.iload_n 1, 1) := by decide +kernel
theorem dX4_addWord_10 : decode cX4_addWord 10 = .ok (.bipush 16, 2) := by decide +kernel
theorem dX4_addWord_12 : decode cX4_addWord 12 = .ok (.iushr, 1) := by decide +kernel
theorem dX4_addWord_13 : decode cX4_addWord 13 = .ok (.invokevirtual 27, 3) := by decide +kernel
theorem dX4_addWord_16 : decode cX4_addWord 16 = .ok (.aload_n 0, 1) := by decide +kernel
theorem dX4_addWord_17 : decode cX4_addWord 17 = .ok (.iload_n 1, 1) := by decide +kernel
theorem dX4_addWord_18 : decode cX4_addWord 18 = .ok (.bipush 8, 2) := by decide +kernel
theorem dX4_addWord_20 : decode cX4_addWord 20 = .ok (.iushr, 1) := by decide +kernel
theorem dX4_addWord_21 : decode cX4_addWord 21 = .ok (.invokevirtual 27, 3) := by decide +kernel
theorem dX4_addWord_24 : decode cX4_addWord 24 = .ok (.aload_n 0, 1) := by decide +kernel
theorem dX4_addWord_25 : decode cX4_addWord 25 = .ok (.iload_n 1, 1) := by decide +kernel
theorem dX4_addWord_26 : decode cX4_addWord 26 = .ok (.invokevirtual 27, 3) := by decide +kernel
theorem dX4_addWord_29 : decode cX4_addWord 29 = .ok (.return_, 1) := by decide +kernel
noncomputable def f_X4_addWord (v_size : Nat) (f_text : Nat → Int32) (x1 : Int32) : (Nat) × (Nat → Int32) :=
  let u1 := f_X4_addByte v_size f_text (ur32 x1 24)
  let u3 := f_X4_addByte u1.1 u1.2 (ur32 x1 16)
  let u5 := f_X4_addByte u3.1 u3.2 (ur32 x1 8)
  let u7 := f_X4_addByte u5.1 u5.2 x1
  (u7.1, u7.2)
set_option maxHeartbeats 4000000 in
set_option maxRecDepth 100000 in
theorem c_X4_addWord (l : Launch) (D : va_G) (ct : Nat → ClassId) (ts : Nat → Nat) (a_this a_this_text a_this_state a_this_w a_this_inner : Nat) (v_size : Nat) (f_text : Nat → Int32) (x1 : Int32)  (h_sz : v_size ≤ 247)  (sz : Nat) : Met l yX4_addWord (Cond.code yX4_addWord cX4_addWord 2 none :: tb) { frames := 1, cells := 0, slots := 0, locals := 21 } (PcG D ct SXL ts [.ref a_this, .int x1] [(a_this, .inr (4, [.ref a_this_state, .ref a_this_text, .ref a_this_w, .ref a_this_inner, .int (nI v_size)])), (a_this_text, .inl (ct 1, 256, .inl f_text))] sz) (va_Qv (fun u : (Nat) × (Nat → Int32) => u = f_X4_addWord v_size f_text x1) (fun u => BG D ct (va_A [(a_this, .inr (4, [.ref a_this_state, .ref a_this_text, .ref a_this_w, .ref a_this_inner, .int (nI v_size)])), (a_this_text, .inl (ct 1, 256, .inl f_text))] sz) [(a_this, .inr (4, [.ref a_this_state, .ref a_this_text, .ref a_this_w, .ref a_this_inner, .int (nI u.1)])), (a_this_text, .inl (ct 1, 256, .inl u.2))]) (va_A [(a_this, .inr (4, [.ref a_this_state, .ref a_this_text, .ref a_this_w, .ref a_this_inner, .int (nI v_size)])), (a_this_text, .inl (ct 1, 256, .inl f_text))] sz)) 0 0 (va_A [(a_this, .inr (4, [.ref a_this_state, .ref a_this_text, .ref a_this_w, .ref a_this_inner, .int (nI v_size)])), (a_this_text, .inl (ct 1, 256, .inl f_text))] sz) := by
  refine metJ (QcF := fun A => va_Qv (fun u : (Nat) × (Nat → Int32) => u = f_X4_addWord v_size f_text x1) (fun u => BG D ct A [(a_this, .inr (4, [.ref a_this_state, .ref a_this_text, .ref a_this_w, .ref a_this_inner, .int (nI u.1)])), (a_this_text, .inl (ct 1, 256, .inl u.2))]) A) (by decide) (Nat.le_of_ble_eq_true rfl) ?_
  intro p e s m below meth c A X hnm
  obtain ⟨Q, hQ⟩ : ∃ Q, Q = MQ below (va_Qv (fun u : (Nat) × (Nat → Int32) => u = f_X4_addWord v_size f_text x1) (fun u => BG D ct A [(a_this, .inr (4, [.ref a_this_state, .ref a_this_text, .ref a_this_w, .ref a_this_inner, .int (nI u.1)])), (a_this_text, .inl (ct 1, 256, .inl u.2))]) A) [.ref a_this, .int x1].toArray s 0 0 A := ⟨_, rfl⟩
  rw [← hQ]
  refine j_lve (lv' := [(0, .ref a_this), (1, .int x1)]) rfl ?_
  refine j_aload_n X 0 dX4_addWord_0 rfl (q := 1) rfl ?_
  refine j_iload_n X 1 dX4_addWord_1 rfl (q := 2) rfl ?_
  refine j_bipush (v := nI 24) X dX4_addWord_2 (by decide) (q := 4) rfl ?_
  refine j_iushr X dX4_addWord_4 (q := 5) rfl ?_
  refine j_eqi (show _ = ur32 x1 24 from rfl) ?_
  refine j_callVv (As := [.int (ur32 x1 24)]) (rest := []) (wn := (fun u1 => [(a_this, .inr (4, [.ref a_this_state, .ref a_this_text, .ref a_this_w, .ref a_this_inner, .int (nI u1.1)])), (a_this_text, .inl (ct 1, 256, .inl u1.2))])) (wr := []) X (fun sz => c_X4_addByte l D ct ts a_this a_this_text a_this_state a_this_w a_this_inner v_size f_text (ur32 x1 24) (by first | omega | assumption) sz) cal_X4_addByte 0 rfl rfl mw_X4_addWord_0 cwi_X4_addByte cws_X4_addByte rfl ⟨by decide, by decide⟩ rfl rfl (Nat.le_of_ble_eq_true rfl) ⟨by decide, by decide⟩ [0, 1] [] [0, 1] rfl (by decide) rfl (by decide) (by decide) (fun _ => rfl) (by decide) dX4_addWord_5 (q := 8) rfl (fun u1 hu1 => ?_)
  have hq_u1 : u1.1 ≤ 247 := by rw [hu1]; exact f_X4_addByte_le (by omega)
  refine j_aload_n X 0 dX4_addWord_8 rfl (q := 9) rfl ?_
  refine j_iload_n X 1 dX4_addWord_9 rfl (q := 10) rfl ?_
  refine j_bipush (v := nI 16) X dX4_addWord_10 (by decide) (q := 12) rfl ?_
  refine j_iushr X dX4_addWord_12 (q := 13) rfl ?_
  refine j_eqi (show _ = ur32 x1 16 from rfl) ?_
  refine j_callVv (As := [.int (ur32 x1 16)]) (rest := []) (wn := (fun u3 => [(a_this, .inr (4, [.ref a_this_state, .ref a_this_text, .ref a_this_w, .ref a_this_inner, .int (nI u3.1)])), (a_this_text, .inl (ct 1, 256, .inl u3.2))])) (wr := []) X (fun sz => c_X4_addByte l D ct ts a_this a_this_text a_this_state a_this_w a_this_inner u1.1 u1.2 (ur32 x1 16) (by first | omega | assumption) sz) cal_X4_addByte 0 rfl rfl mw_X4_addWord_0 cwi_X4_addByte cws_X4_addByte rfl ⟨by decide, by decide⟩ rfl rfl (Nat.le_of_ble_eq_true rfl) ⟨by decide, by decide⟩ [0, 1] [] [0, 1] rfl (by decide) rfl (by decide) (by decide) (fun _ => rfl) (by decide) dX4_addWord_13 (q := 16) rfl (fun u3 hu3 => ?_)
  have hq_u3 : u3.1 ≤ 247 := by rw [hu3]; exact f_X4_addByte_le (by omega)
  refine j_aload_n X 0 dX4_addWord_16 rfl (q := 17) rfl ?_
  refine j_iload_n X 1 dX4_addWord_17 rfl (q := 18) rfl ?_
  refine j_bipush (v := nI 8) X dX4_addWord_18 (by decide) (q := 20) rfl ?_
  refine j_iushr X dX4_addWord_20 (q := 21) rfl ?_
  refine j_eqi (show _ = ur32 x1 8 from rfl) ?_
  refine j_callVv (As := [.int (ur32 x1 8)]) (rest := []) (wn := (fun u5 => [(a_this, .inr (4, [.ref a_this_state, .ref a_this_text, .ref a_this_w, .ref a_this_inner, .int (nI u5.1)])), (a_this_text, .inl (ct 1, 256, .inl u5.2))])) (wr := []) X (fun sz => c_X4_addByte l D ct ts a_this a_this_text a_this_state a_this_w a_this_inner u3.1 u3.2 (ur32 x1 8) (by first | omega | assumption) sz) cal_X4_addByte 0 rfl rfl mw_X4_addWord_0 cwi_X4_addByte cws_X4_addByte rfl ⟨by decide, by decide⟩ rfl rfl (Nat.le_of_ble_eq_true rfl) ⟨by decide, by decide⟩ [0, 1] [] [0, 1] rfl (by decide) rfl (by decide) (by decide) (fun _ => rfl) (by decide) dX4_addWord_21 (q := 24) rfl (fun u5 hu5 => ?_)
  have hq_u5 : u5.1 ≤ 247 := by rw [hu5]; exact f_X4_addByte_le (by omega)
  refine j_aload_n X 0 dX4_addWord_24 rfl (q := 25) rfl ?_
  refine j_iload_n X 1 dX4_addWord_25 rfl (q := 26) rfl ?_
  refine j_callVv (As := [.int x1]) (rest := []) (wn := (fun u7 => [(a_this, .inr (4, [.ref a_this_state, .ref a_this_text, .ref a_this_w, .ref a_this_inner, .int (nI u7.1)])), (a_this_text, .inl (ct 1, 256, .inl u7.2))])) (wr := []) X (fun sz => c_X4_addByte l D ct ts a_this a_this_text a_this_state a_this_w a_this_inner u5.1 u5.2 x1 (by first | omega | assumption) sz) cal_X4_addByte 0 rfl rfl mw_X4_addWord_0 cwi_X4_addByte cws_X4_addByte rfl ⟨by decide, by decide⟩ rfl rfl (Nat.le_of_ble_eq_true rfl) ⟨by decide, by decide⟩ [0, 1] [] [0, 1] rfl (by decide) rfl (by decide) (by decide) (fun _ => rfl) (by decide) dX4_addWord_26 (q := 29) rfl (fun u7 hu7 => ?_)
  have hq_u7 : u7.1 ≤ 247 := by rw [hu7]; exact f_X4_addByte_le (by omega)
  rw [hQ]
  exact j_vret X ((u7.1, u7.2)) dX4_addWord_29 (by subst hu1; subst hu3; subst hu5; subst hu7; rfl) rfl
theorem cal_X4_addWord : Cal yX4_addWord cX4_addWord 2 none 1 := ⟨tb_at 112 (by decide +kernel) (by decide +kernel), tb_at 518 (by decide +kernel) (by decide +kernel), by decide +kernel, by decide +kernel, by decide +kernel⟩
theorem cwi_X4_addWord : Cond.instanceMethod yX4_addWord ∈ tb := tb_at 516 (by decide +kernel) (by decide +kernel)
theorem cws_X4_addWord : Cond.selects yX4_addWord.cls yX4_addWord yX4_addWord ∈ tb := tb_at 517 (by decide +kernel) (by decide +kernel)
theorem f_X4_addWord_le {n : Nat} {t : Nat → Int32} {b : Int32} (h : n ≤ 247) : (f_X4_addWord n t b).1 ≤ 247 := f_X4_addByte_le (f_X4_addByte_le (f_X4_addByte_le (f_X4_addByte_le h)))
