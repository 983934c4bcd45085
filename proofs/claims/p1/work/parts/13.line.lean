theorem mw_X6_isFull_0 : Cond.fieldLink "GuardedTree$Line" 15 "GuardedTree$Line" "size" "I" ∈ tb := tb_at 464 (by decide +kernel) (by decide +kernel)
theorem dX6_isFull_0 : decode cX6_isFull 0 = .ok (.aload_n 0, 1) := by decide +kernel
theorem dX6_isFull_1 : decode cX6_isFull 1 = .ok (.getfield 15, 3) := by decide +kernel
theorem dX6_isFull_4 : decode cX6_isFull 4 = .ok (.sipush 3000, 3) := by decide +kernel
theorem dX6_isFull_7 : decode cX6_isFull 7 = .ok (.if_icmp .lt 7, 3) := by decide +kernel
theorem dX6_isFull_10 : decode cX6_isFull 10 = .ok (.iconst 1, 1) := by decide +kernel
theorem dX6_isFull_11 : decode cX6_isFull 11 = .ok (.goto 4, 3) := by decide +kernel
theorem dX6_isFull_14 : decode cX6_isFull 14 = .ok (.iconst 0, 1) := by decide +kernel
theorem dX6_isFull_15 : decode cX6_isFull 15 = .ok (.ireturn, 1) := by decide +kernel
noncomputable def f_X6_isFull (v_size : Nat) : Int32 :=
  if v_size < 3000 then
  (nI 0)
  else
  (nI 1)
set_option maxHeartbeats 4000000 in
set_option maxRecDepth 100000 in
theorem c_X6_isFull (l : Launch) (D : va_G) (ct : Nat → ClassId) (ts : Nat → Nat) (a_this a_this_bytes : Nat) (v_size : Nat)  (h_sz : v_size ≤ 3160)  (sz : Nat) : Met l yX6_isFull (Cond.code yX6_isFull cX6_isFull 1 (some .boolean) :: tb) { frames := 0, cells := 0, slots := 0, locals := 0 } (PcG D ct SXL ts [.ref a_this] [(a_this, .inr (6, [.ref a_this_bytes, .int (nI v_size)]))] sz) (va_Qi (fun (r : Int32) (u : Unit) => r = f_X6_isFull v_size) (fun u => BG D ct (va_A [(a_this, .inr (6, [.ref a_this_bytes, .int (nI v_size)]))] sz) [(a_this, .inr (6, [.ref a_this_bytes, .int (nI v_size)]))]) (va_A [(a_this, .inr (6, [.ref a_this_bytes, .int (nI v_size)]))] sz)) 0 0 (va_A [(a_this, .inr (6, [.ref a_this_bytes, .int (nI v_size)]))] sz) := by
  refine metJ (QcF := fun A => va_Qi (fun (r : Int32) (u : Unit) => r = f_X6_isFull v_size) (fun u => BG D ct A [(a_this, .inr (6, [.ref a_this_bytes, .int (nI v_size)]))]) A) (by decide) (Nat.le_of_ble_eq_true rfl) ?_
  intro p e s m below meth c A X hnm
  obtain ⟨Q, hQ⟩ : ∃ Q, Q = MQ below (va_Qi (fun (r : Int32) (u : Unit) => r = f_X6_isFull v_size) (fun u => BG D ct A [(a_this, .inr (6, [.ref a_this_bytes, .int (nI v_size)]))]) A) [.ref a_this].toArray s 0 0 A := ⟨_, rfl⟩
  rw [← hQ]
  refine j_lve (lv' := [(0, .ref a_this)]) rfl ?_
  refine j_aload_n X 0 dX6_isFull_0 rfl (q := 1) rfl ?_
  refine j_get (f := 1) X 0 inT6 rfl rfl (by decide) mw_X6_isFull_0 rfl dX6_isFull_1 (q := 4) rfl ?_
  refine j_sipush (v := nI 3000) X dX6_isFull_4 (by decide) (q := 7) rfl ?_
  refine j_icmp_lt (tgt := 14) X dX6_isFull_7 (by decide) (q := 10) rfl (fun c1 => ?_) (fun c1 => ?_)
  · skip
    have c1 : v_size < 3000 := (nI_ltI (by omega) (by omega)).mp c1
    refine j_iconst (v := nI 0) X dX6_isFull_14 (by decide) (q := 15) rfl ?_
    rw [hQ]
    exact j_zret X (()) (by decide) dX6_isFull_15 (by first | rfl | (simp only [f_X6_isFull, if_pos c1]; done) | (simp only [f_X6_isFull, if_pos c1]; rfl)) rfl
  · skip
    have c1 : ¬ v_size < 3000 := fun h => c1 ((nI_ltI (by omega) (by omega)).mpr h)
    refine j_iconst (v := nI 1) X dX6_isFull_10 (by decide) (q := 11) rfl ?_
    refine j_goto (tgt := 15) X dX6_isFull_11 (by decide) ?_
    rw [hQ]
    exact j_zret X (()) (by decide) dX6_isFull_15 (by first | rfl | (simp only [f_X6_isFull, if_neg c1]; done) | (simp only [f_X6_isFull, if_neg c1]; rfl)) rfl
theorem cal_X6_isFull : Cal yX6_isFull cX6_isFull 1 (some .boolean) 0 := ⟨tb_at 119 (by decide +kernel) (by decide +kernel), tb_at 699 (by decide +kernel) (by decide +kernel), by decide +kernel, by decide +kernel, by decide +kernel⟩
theorem cwi_X6_isFull : Cond.instanceMethod yX6_isFull ∈ tb := tb_at 697 (by decide +kernel) (by decide +kernel)
theorem cws_X6_isFull : Cond.selects yX6_isFull.cls yX6_isFull yX6_isFull ∈ tb := tb_at 698 (by decide +kernel) (by decide +kernel)
theorem mw_X6_addByte_0 : Cond.fieldLink "GuardedTree$Line" 15 "GuardedTree$Line" "size" "I" ∈ tb := tb_at 464 (by decide +kernel) (by decide +kernel)
theorem mw_X6_addByte_1 : Cond.fieldLink "GuardedTree$Line" 11 "GuardedTree$Line" "bytes" "[B" ∈ tb := tb_at 462 (by decide +kernel) (by decide +kernel)
theorem dX6_addByte_0 : decode cX6_addByte 0 = .ok (.aload_n 0, 1) := by decide +kernel
theorem dX6_addByte_1 : decode cX6_addByte 1 = .ok (.getfield 15, 3) := by decide +kernel
theorem dX6_addByte_4 : decode cX6_addByte 4 = .ok (.sipush 3160, 3) := by decide +kernel
theorem dX6_addByte_7 : decode cX6_addByte 7 = .ok (.if_icmp .ge 24, 3) := by decide +kernel
theorem dX6_addByte_10 : decode cX6_addByte 10 = .ok (.aload_n 0, 1) := by decide +kernel
theorem dX6_addByte_11 : decode cX6_addByte 11 = .ok (.getfield 11, 3) := by decide +kernel
theorem dX6_addByte_14 : decode cX6_addByte 14 = .ok (.aload_n 0, 1) := by decide +kernel
theorem dX6_addByte_15 : decode cX6_addByte 15 = .ok (.getfield 15, 3) := by decide +kernel
theorem dX6_addByte_18 : decode cX6_addByte 18 = .ok (.iload_n 1, 1) := by decide +kernel
theorem dX6_addByte_19 : decode cX6_addByte 19 = .ok (.i2b, 1) := by decide +kernel
theorem dX6_addByte_20 : decode cX6_addByte 20 = .ok (.bastore, 1) := by decide +kernel
theorem dX6_addByte_21 : decode cX6_addByte 21 = .ok (.aload_n 0, 1) := by decide +kernel
theorem dX6_addByte_22 : decode cX6_addByte 22 = .ok (.dup, 1) := by decide +kernel
theorem dX6_addByte_23 : decode cX6_addByte 23 = .ok (.getfield 15, 3) := by decide +kernel
theorem dX6_addByte_26 : decode cX6_addByte 26 = .ok (.iconst 1, 1) := by decide +kernel
theorem dX6_addByte_27 : decode cX6_addByte 27 = .ok (.iadd, 1) := by decide +kernel
theorem dX6_addByte_28 : decode cX6_addByte 28 = .ok (.putfield 15, 3) := by decide +kernel
theorem dX6_addByte_31 : decode cX6_addByte 31 = .ok (.return_, 1) := by decide +kernel
noncomputable def f_X6_addByte (v_size : Nat) (f_bytes : Nat → Int32) (x1 : Int32) : (Nat) × (Nat → Int32) :=
  if 3160 ≤ v_size then
  ((v_size, f_bytes))
  else
  (let n2 := v_size + 1
  (n2, upd f_bytes v_size (b8 x1)))
set_option maxHeartbeats 4000000 in
set_option maxRecDepth 100000 in
theorem c_X6_addByte (l : Launch) (D : va_G) (ct : Nat → ClassId) (ts : Nat → Nat) (a_this a_this_bytes : Nat) (v_size : Nat) (f_bytes : Nat → Int32) (x1 : Int32)  (h_sz : v_size ≤ 3160)  (sz : Nat) : Met l yX6_addByte (Cond.code yX6_addByte cX6_addByte 2 none :: tb) { frames := 0, cells := 0, slots := 0, locals := 0 } (PcG D ct SXL ts [.ref a_this, .int x1] [(a_this, .inr (6, [.ref a_this_bytes, .int (nI v_size)])), (a_this_bytes, .inl (ct 1, 3160, .inl f_bytes))] sz) (va_Qv (fun u : (Nat) × (Nat → Int32) => u = f_X6_addByte v_size f_bytes x1) (fun u => BG D ct (va_A [(a_this, .inr (6, [.ref a_this_bytes, .int (nI v_size)])), (a_this_bytes, .inl (ct 1, 3160, .inl f_bytes))] sz) [(a_this, .inr (6, [.ref a_this_bytes, .int (nI u.1)])), (a_this_bytes, .inl (ct 1, 3160, .inl u.2))]) (va_A [(a_this, .inr (6, [.ref a_this_bytes, .int (nI v_size)])), (a_this_bytes, .inl (ct 1, 3160, .inl f_bytes))] sz)) 0 0 (va_A [(a_this, .inr (6, [.ref a_this_bytes, .int (nI v_size)])), (a_this_bytes, .inl (ct 1, 3160, .inl f_bytes))] sz) := by
  refine metJ (QcF := fun A => va_Qv (fun u : (Nat) × (Nat → Int32) => u = f_X6_addByte v_size f_bytes x1) (fun u => BG D ct A [(a_this, .inr (6, [.ref a_this_bytes, .int (nI u.1)])), (a_this_bytes, .inl (ct 1, 3160, .inl u.2))]) A) (by decide) (Nat.le_of_ble_eq_true rfl) ?_
  intro p e s m below meth c A X hnm
  obtain ⟨Q, hQ⟩ : ∃ Q, Q = MQ below (va_Qv (fun u : (Nat) × (Nat → Int32) => u = f_X6_addByte v_size f_bytes x1) (fun u => BG D ct A [(a_this, .inr (6, [.ref a_this_bytes, .int (nI u.1)])), (a_this_bytes, .inl (ct 1, 3160, .inl u.2))]) A) [.ref a_this, .int x1].toArray s 0 0 A := ⟨_, rfl⟩
  rw [← hQ]
  refine j_lve (lv' := [(0, .ref a_this), (1, .int x1)]) rfl ?_
  refine j_aload_n X 0 dX6_addByte_0 rfl (q := 1) rfl ?_
  refine j_get (f := 1) X 0 inT6 rfl rfl (by decide) mw_X6_addByte_0 rfl dX6_addByte_1 (q := 4) rfl ?_
  refine j_sipush (v := nI 3160) X dX6_addByte_4 (by decide) (q := 7) rfl ?_
  refine j_icmp_ge (tgt := 31) X dX6_addByte_7 (by decide) (q := 10) rfl (fun c1 => ?_) (fun c1 => ?_)
  · skip
    have c1 : 3160 ≤ v_size := (nI_leI (by omega) (by omega)).mp c1
    rw [hQ]
    exact j_vret X ((v_size, f_bytes)) dX6_addByte_31 (by first | rfl | (simp only [f_X6_addByte, if_pos c1]; done) | (simp only [f_X6_addByte, if_pos c1]; rfl)) rfl
  · skip
    have c1 : ¬ 3160 ≤ v_size := fun h => c1 ((nI_leI (by omega) (by omega)).mpr h)
    refine j_aload_n X 0 dX6_addByte_10 rfl (q := 11) rfl ?_
    refine j_get (f := 0) X 0 inT6 rfl rfl (by decide) mw_X6_addByte_1 rfl dX6_addByte_11 (q := 14) rfl ?_
    refine j_aload_n X 0 dX6_addByte_14 rfl (q := 15) rfl ?_
    refine j_get (f := 1) X 0 inT6 rfl rfl (by decide) mw_X6_addByte_0 rfl dX6_addByte_15 (q := 18) rfl ?_
    refine j_iload_n X 1 dX6_addByte_18 rfl (q := 19) rfl ?_
    refine j_i2b X dX6_addByte_19 (q := 20) rfl ?_
    refine j_eqi (show _ = b8 x1 from rfl) ?_
    refine k_bast (ws2 := [(a_this, .inr (6, [.ref a_this_bytes, .int (nI v_size)])), (a_this_bytes, .inl (ct 1, 3160, .inl (upd f_bytes v_size (b8 x1))))]) X 1 rfl (vp_in_nI (by omega) (by omega)) (nI_clamp (by omega)) (pk_vb _) dX6_addByte_20 rfl (q := 21) rfl ?_
    refine j_aload_n X 0 dX6_addByte_21 rfl (q := 22) rfl ?_
    refine j_dup X dX6_addByte_22 rfl (q := 23) rfl ?_
    refine j_get (f := 1) X 0 inT6 rfl rfl (by decide) mw_X6_addByte_0 rfl dX6_addByte_23 (q := 26) rfl ?_
    refine j_iconst (v := nI 1) X dX6_addByte_26 (by decide) (q := 27) rfl ?_
    refine j_iadd X dX6_addByte_27 (q := 28) rfl ?_
    refine j_eqi (nI_add _ _) ?_
    refine j_topn (fun n2 e_n2 => ?_)
    refine j_put (f := 1) (ws2 := [(a_this, .inr (6, [.ref a_this_bytes, .int (nI n2)])), (a_this_bytes, .inl (ct 1, 3160, .inl (upd f_bytes v_size (b8 x1))))]) (ty := .int) X 0 inT6 tyX6_ok nmX6 rfl rfl (by decide) mw_X6_addByte_0 rfl rfl rfl rfl (Nat.le_of_ble_eq_true rfl) dX6_addByte_28 rfl (q := 31) rfl ?_
    rw [hQ]
    exact j_vret X ((n2, upd f_bytes v_size (b8 x1))) dX6_addByte_31 (by subst e_n2; first | rfl | (simp only [f_X6_addByte, if_neg c1]; done) | (simp only [f_X6_addByte, if_neg c1]; rfl)) rfl
theorem cal_X6_addByte : Cal yX6_addByte cX6_addByte 2 none 1 := ⟨tb_at 119 (by decide +kernel) (by decide +kernel), tb_at 577 (by decide +kernel) (by decide +kernel), by decide +kernel, by decide +kernel, by decide +kernel⟩
theorem cwi_X6_addByte : Cond.instanceMethod yX6_addByte ∈ tb := tb_at 575 (by decide +kernel) (by decide +kernel)
theorem cws_X6_addByte : Cond.selects yX6_addByte.cls yX6_addByte yX6_addByte ∈ tb := tb_at 576 (by decide +kernel) (by decide +kernel)
theorem f_X6_addByte_le {n : Nat} {t : Nat → Int32} {b : Int32} (h : n ≤ 3160) : (f_X6_addByte n t b).1 ≤ 3160 := by
  unfold f_X6_addByte
  split
  · exact h
  · show n + 1 ≤ 3160; omega
theorem mw_X6_addNumber_0 : Cond.methodLink "GuardedTree$Line" 19 yX6_addByte ∈ tb := tb_at 574 (by decide +kernel) (by decide +kernel)
theorem dX6_addNumber_0 : decode cX6_addNumber 0 = .ok (.iconst 0, 1) := by decide +kernel
theorem dX6_addNumber_1 : decode cX6_addNumber 1 = .ok (.istore_n 2, 1) := by decide +kernel
theorem dX6_addNumber_2 : decode cX6_addNumber 2 = .ok (.iload_n 2, 1) := by decide +kernel
theorem dX6_addNumber_3 : decode cX6_addNumber 3 = .ok (.aload_n 1, 1) := by decide +kernel
theorem dX6_addNumber_4 : decode cX6_addNumber 4 = .ok (.arraylength, 1) := by decide +kernel
theorem dX6_addNumber_5 : decode cX6_addNumber 5 = .ok (.iconst 4, 1) := by decide +kernel
theorem dX6_addNumber_6 : decode cX6_addNumber 6 = .ok (.imul, 1) := by decide +kernel
theorem dX6_addNumber_7 : decode cX6_addNumber 7 = .ok (.if_icmp .ge 28, 3) := by decide +kernel
theorem dX6_addNumber_10 : decode cX6_addNumber 10 = .ok (.aload_n 0, 1) := by decide +kernel
theorem dX6_addNumber_11 : decode cX6_addNumber 11 = .ok (.aload_n 1, 1) := by decide +kernel
theorem dX6_addNumber_12 : decode cX6_addNumber 12 = .ok (.iload_n 2, 1) := by decide +kernel
theorem dX6_addNumber_13 : decode cX6_addNumber 13 = .ok (.iconst 4, 1) := by decide +kernel
theorem dX6_addNumber_14 : decode cX6_addNumber 14 = .ok (.idiv, 1) := by decide +kernel
theorem dX6_addNumber_15 : decode cX6_addNumber 15 = .ok (.iaload, 1) := by decide +kernel
theorem dX6_addNumber_16 : decode cX6_addNumber 16 = .ok (.bipush 24, 2) := by decide +kernel
theorem dX6_addNumber_18 : decode cX6_addNumber 18 = .ok (.iload_n 2, 1) := by decide +kernel
theorem dX6_addNumber_19 : decode cX6_addNumber 19 = .ok (.iconst 4, 1) := by decide +kernel
theorem dX6_addNumber_20 : decode cX6_addNumber 20 = .ok (.irem, 1) := by decide +kernel
theorem dX6_addNumber_21 : decode cX6_addNumber 21 = .ok (.bipush 8, 2) := by decide +kernel
theorem dX6_addNumber_23 : decode cX6_addNumber 23 = .ok (.imul, 1) := by decide +kernel
theorem dX6_addNumber_24 : decode cX6_addNumber 24 = .ok (.isub, 1) := by decide +kernel
theorem dX6_addNumber_25 : decode cX6_addNumber 25 = .ok (.iushr, 1) := by decide +kernel
theorem dX6_addNumber_26 : decode cX6_addNumber 26 = .ok (.invokevirtual 19, 3) := by decide +kernel
theorem dX6_addNumber_29 : decode cX6_addNumber 29 = .ok (.iinc 2 1, 3) := by decide +kernel
theorem dX6_addNumber_32 : decode cX6_addNumber 32 = .ok (.goto (-30), 3) := by decide +kernel
theorem dX6_addNumber_35 : decode cX6_addNumber 35 = .ok (.return_, 1) := by decide +kernel
noncomputable def X6_addNumber_l2 (f_p1 : Nat → Int32) (k2_1 : Nat) (t2_1 : (Nat → Int32) × (Nat)) : (Nat → Int32) × (Nat) :=
  let u4 := f_X6_addByte t2_1.2 t2_1.1 (ur32 (f_p1 (k2_1 / 4)) (24 - ((k2_1 % 4) * 8)))
  (u4.2, u4.1)
noncomputable def f_X6_addNumber (v_size : Nat) (f_p1 : Nat → Int32) (f_bytes : Nat → Int32) : (Nat) × (Nat → Int32) :=
  let t2_1 := itr (X6_addNumber_l2 f_p1) ((f_bytes, v_size)) 32
  (t2_1.2, t2_1.1)
set_option maxHeartbeats 4000000 in
set_option maxRecDepth 100000 in
theorem c_X6_addNumber (l : Launch) (D : va_G) (ct : Nat → ClassId) (ts : Nat → Nat) (a_p1 a_this a_this_bytes : Nat) (v_size : Nat) (f_p1 : Nat → Int32) (f_bytes : Nat → Int32)  (h_sz : v_size ≤ 3160)  (sz : Nat) : Met l yX6_addNumber (Cond.code yX6_addNumber cX6_addNumber 3 none :: tb) { frames := 1, cells := 0, slots := 0, locals := 21 } (PcG D ct SXL ts [.ref a_this, .ref a_p1] [(a_p1, .inl (ct 0, 8, .inl f_p1)), (a_this, .inr (6, [.ref a_this_bytes, .int (nI v_size)])), (a_this_bytes, .inl (ct 1, 3160, .inl f_bytes))] sz) (va_Qv (fun u : (Nat) × (Nat → Int32) => u = f_X6_addNumber v_size f_p1 f_bytes) (fun u => BG D ct (va_A [(a_p1, .inl (ct 0, 8, .inl f_p1)), (a_this, .inr (6, [.ref a_this_bytes, .int (nI v_size)])), (a_this_bytes, .inl (ct 1, 3160, .inl f_bytes))] sz) [(a_p1, .inl (ct 0, 8, .inl f_p1)), (a_this, .inr (6, [.ref a_this_bytes, .int (nI u.1)])), (a_this_bytes, .inl (ct 1, 3160, .inl u.2))]) (va_A [(a_p1, .inl (ct 0, 8, .inl f_p1)), (a_this, .inr (6, [.ref a_this_bytes, .int (nI v_size)])), (a_this_bytes, .inl (ct 1, 3160, .inl f_bytes))] sz)) 0 0 (va_A [(a_p1, .inl (ct 0, 8, .inl f_p1)), (a_this, .inr (6, [.ref a_this_bytes, .int (nI v_size)])), (a_this_bytes, .inl (ct 1, 3160, .inl f_bytes))] sz) := by
  refine metJ (QcF := fun A => va_Qv (fun u : (Nat) × (Nat → Int32) => u = f_X6_addNumber v_size f_p1 f_bytes) (fun u => BG D ct A [(a_p1, .inl (ct 0, 8, .inl f_p1)), (a_this, .inr (6, [.ref a_this_bytes, .int (nI u.1)])), (a_this_bytes, .inl (ct 1, 3160, .inl u.2))]) A) (by decide) (Nat.le_of_ble_eq_true rfl) ?_
  intro p e s m below meth c A X hnm
  obtain ⟨Q, hQ⟩ : ∃ Q, Q = MQ below (va_Qv (fun u : (Nat) × (Nat → Int32) => u = f_X6_addNumber v_size f_p1 f_bytes) (fun u => BG D ct A [(a_p1, .inl (ct 0, 8, .inl f_p1)), (a_this, .inr (6, [.ref a_this_bytes, .int (nI u.1)])), (a_this_bytes, .inl (ct 1, 3160, .inl u.2))]) A) [.ref a_this, .ref a_p1].toArray s 0 0 A := ⟨_, rfl⟩
  rw [← hQ]
  refine j_lve (lv' := [(0, .ref a_this), (1, .ref a_p1)]) rfl ?_
  refine j_iconst (v := nI 0) X dX6_addNumber_0 (by decide) (q := 1) rfl ?_
  refine j_istore_n (lv' := [(2, .int (nI 0)), (0, .ref a_this), (1, .ref a_p1)]) X dX6_addNumber_1 (by decide) rfl (q := 2) rfl ?_
  refine j_lv (lv' := [(0, .ref a_this), (1, .ref a_p1), (2, .int (nI 0))]) [1, 2, 0] rfl ?_
  have LP2_1 : ∀ (r2_1 k2_1 : Nat) (t2_1 : (Nat → Int32) × (Nat)), k2_1 + r2_1 = 32 → t2_1 = itr (X6_addNumber_l2 f_p1) ((f_bytes, v_size)) k2_1 → (t2_1.2 ≤ 3160) → J p l e { frames := 1, cells := 0, slots := 0, locals := 21 } s m [.ref a_this, .ref a_p1].toArray below meth c D A 3 Q 0 0 [(a_p1, .inl (ct 0, 8, .inl f_p1)), (a_this, .inr (6, [.ref a_this_bytes, .int (nI t2_1.2)])), (a_this_bytes, .inl (ct 1, 3160, .inl t2_1.1))] [(0, .ref a_this), (1, .ref a_p1), (2, .int (nI k2_1))] [] 2 := by
    intro r2_1
    induction r2_1 with
    | zero =>
      intro k2_1 t2_1 hk_t2_1 e_t2_1 hi0_t2_1
      have hkk_t2_1 : 32 = k2_1 := by omega
      subst hkk_t2_1
      refine j_iload_n X 2 dX6_addNumber_2 rfl (q := 3) rfl ?_
      refine j_aload_n X 1 dX6_addNumber_3 rfl (q := 4) rfl ?_
      refine j_alen X 0 0 rfl rfl dX6_addNumber_4 (q := 5) rfl ?_
      refine j_iconst (v := nI 4) X dX6_addNumber_5 (by decide) (q := 6) rfl ?_
      refine j_imul X dX6_addNumber_6 (q := 7) rfl ?_
      refine j_eqi (pk_mul _ _) ?_
      refine j_icmp_ge (tgt := 35) X dX6_addNumber_7 (by decide) (q := 10) rfl (fun c2 => ?_) (fun c2 => ?_)
      · skip
        have c2 : 8 * 4 ≤ 32 := (nI_leI (by omega) (by omega)).mp c2
        rw [hQ]
        exact j_vret X ((t2_1.2, t2_1.1)) dX6_addNumber_35 (by subst e_t2_1; rfl) rfl
      · skip
        have c2 : ¬ 8 * 4 ≤ 32 := fun h => c2 ((nI_leI (by omega) (by omega)).mpr h)
        exfalso; omega
    | succ r2_1 ih2_1 =>
      intro k2_1 t2_1 hk_t2_1 e_t2_1 hi0_t2_1
      refine j_iload_n X 2 dX6_addNumber_2 rfl (q := 3) rfl ?_
      refine j_aload_n X 1 dX6_addNumber_3 rfl (q := 4) rfl ?_
      refine j_alen X 0 0 rfl rfl dX6_addNumber_4 (q := 5) rfl ?_
      refine j_iconst (v := nI 4) X dX6_addNumber_5 (by decide) (q := 6) rfl ?_
      refine j_imul X dX6_addNumber_6 (q := 7) rfl ?_
      refine j_eqi (pk_mul _ _) ?_
      refine j_icmp_ge (tgt := 35) X dX6_addNumber_7 (by decide) (q := 10) rfl (fun c3 => ?_) (fun c3 => ?_)
      · skip
        have c3 : 8 * 4 ≤ k2_1 := (nI_leI (by omega) (by omega)).mp c3
        exfalso; omega
      · skip
        have c3 : ¬ 8 * 4 ≤ k2_1 := fun h => c3 ((nI_leI (by omega) (by omega)).mpr h)
        refine j_aload_n X 0 dX6_addNumber_10 rfl (q := 11) rfl ?_
        refine j_aload_n X 1 dX6_addNumber_11 rfl (q := 12) rfl ?_
        refine j_iload_n X 2 dX6_addNumber_12 rfl (q := 13) rfl ?_
        refine j_iconst (v := nI 4) X dX6_addNumber_13 (by decide) (q := 14) rfl ?_
        refine j_idiv X dX6_addNumber_14 (by decide) (q := 15) rfl ?_
        refine j_eqi (pk_div (by omega) (by omega) (by omega)) ?_
        refine k_iald X 0 rfl (vp_in_nI (by omega) (by omega)) (nI_clamp (by omega)) dX6_addNumber_15 (q := 16) rfl ?_
        refine j_bipush (v := nI 24) X dX6_addNumber_16 (by decide) (q := 18) rfl ?_
        refine j_iload_n X 2 dX6_addNumber_18 rfl (q := 19) rfl ?_
        refine j_iconst (v := nI 4) X dX6_addNumber_19 (by decide) (q := 20) rfl ?_
        refine j_irem X dX6_addNumber_20 (by decide) (q := 21) rfl ?_
        refine j_eqi (pk_rem (by omega) (by omega) (by omega)) ?_
        refine j_bipush (v := nI 8) X dX6_addNumber_21 (by decide) (q := 23) rfl ?_
        refine j_imul X dX6_addNumber_23 (q := 24) rfl ?_
        refine j_eqi (pk_mul _ _) ?_
        refine j_isub X dX6_addNumber_24 (q := 25) rfl ?_
        refine j_eqi (pk_sub (by omega)) ?_
        refine j_iushr X dX6_addNumber_25 (q := 26) rfl ?_
        refine j_eqi (show _ = ur32 (f_p1 (k2_1 / 4)) (24 - ((k2_1 % 4) * 8)) from rfl) ?_
        refine j_callVv (As := [.int (ur32 (f_p1 (k2_1 / 4)) (24 - ((k2_1 % 4) * 8)))]) (rest := []) (wn := (fun u4 => [(a_p1, .inl (ct 0, 8, .inl f_p1)), (a_this, .inr (6, [.ref a_this_bytes, .int (nI u4.1)])), (a_this_bytes, .inl (ct 1, 3160, .inl u4.2))])) (wr := [(a_p1, .inl (ct 0, 8, .inl f_p1))]) X (fun sz => c_X6_addByte l D ct ts a_this a_this_bytes t2_1.2 t2_1.1 (ur32 (f_p1 (k2_1 / 4)) (24 - ((k2_1 % 4) * 8))) (by first | omega | assumption) sz) cal_X6_addByte 1 rfl rfl mw_X6_addNumber_0 cwi_X6_addByte cws_X6_addByte rfl ⟨by decide, by decide⟩ rfl rfl (Nat.le_of_ble_eq_true rfl) ⟨by decide, by decide⟩ [1, 2] [0] [0, 1, 2] rfl (by decide) rfl (by decide) (by decide) (fun _ => rfl) (by decide) dX6_addNumber_26 (q := 29) rfl (fun u4 hu4 => ?_)
        have hq_u4 : u4.1 ≤ 3160 := by rw [hu4]; exact f_X6_addByte_le (by omega)
        refine j_iinc (v := nI (k2_1 + 1)) (lv' := [(2, .int (nI (k2_1 + 1))), (0, .ref a_this), (1, .ref a_p1)]) X 2 dX6_addNumber_29 rfl (nI_inc _ 1) (by decide) rfl (q := 32) rfl ?_
        refine j_goto (tgt := 2) X dX6_addNumber_32 (by decide) ?_
        refine j_lv (lv' := [(0, .ref a_this), (1, .ref a_p1), (2, .int (nI (k2_1 + 1)))]) [1, 2, 0] rfl ?_
        have hb : (X6_addNumber_l2 f_p1) k2_1 t2_1 = (u4.2, u4.1) := (by subst hu4; rfl)
        exact ih2_1 (k2_1 + 1) ((u4.2, u4.1)) (by omega) (by rw [itr_s, ← e_t2_1]; exact hb.symm) (show u4.1 ≤ 3160 from by omega)
  exact LP2_1 32 0 ((f_bytes, v_size)) (by omega) (itr_0 _ _).symm (show v_size ≤ 3160 from by omega)
theorem cal_X6_addNumber : Cal yX6_addNumber cX6_addNumber 3 none 1 := ⟨tb_at 119 (by decide +kernel) (by decide +kernel), tb_at 573 (by decide +kernel) (by decide +kernel), by decide +kernel, by decide +kernel, by decide +kernel⟩
theorem cwi_X6_addNumber : Cond.instanceMethod yX6_addNumber ∈ tb := tb_at 571 (by decide +kernel) (by decide +kernel)
theorem cws_X6_addNumber : Cond.selects yX6_addNumber.cls yX6_addNumber yX6_addNumber ∈ tb := tb_at 572 (by decide +kernel) (by decide +kernel)
theorem f_X6_addNumber_le {n : Nat} {f t : Nat → Int32} (h : n ≤ 3160) : (f_X6_addNumber n f t).1 ≤ 3160 := itr_inv (fun _ (s : (Nat → Int32) × Nat) => s.2 ≤ 3160) 32 h (fun _ _ _ hs => f_X6_addByte_le hs) 32 (Nat.le_refl _)
theorem mw_X6_drop_0 : Cond.fieldLink "GuardedTree$Line" 15 "GuardedTree$Line" "size" "I" ∈ tb := tb_at 464 (by decide +kernel) (by decide +kernel)
theorem mw_X6_drop_1 : Cond.fieldLink "GuardedTree$Line" 11 "GuardedTree$Line" "bytes" "[B" ∈ tb := tb_at 462 (by decide +kernel) (by decide +kernel)
theorem dX6_drop_0 : decode cX6_drop 0 = .ok (.iload_n 1, 1) := by decide +kernel
theorem dX6_drop_1 : decode cX6_drop 1 = .ok (.istore_n 2, 1) := by decide +kernel
theorem dX6_drop_2 : decode cX6_drop 2 = .ok (.iload_n 2, 1) := by decide +kernel
theorem dX6_drop_3 : decode cX6_drop 3 = .ok (.aload_n 0, 1) := by decide +kernel
theorem dX6_drop_4 : decode cX6_drop 4 = .ok (.getfield 15, 3) := by decide +kernel
theorem dX6_drop_7 : decode cX6_drop 7 = .ok (.if_icmp .ge 23, 3) := by decide +kernel
theorem dX6_drop_10 : decode cX6_drop 10 = .ok (.aload_n 0, 1) := by decide +kernel
theorem dX6_drop_11 : decode cX6_drop 11 = .ok (.getfield 11, 3) := by decide +kernel
theorem dX6_drop_14 : decode cX6_drop 14 = .ok (.iload_n 2, 1) := by decide +kernel
theorem dX6_drop_15 : decode cX6_drop 15 = .ok (.iload_n 1, 1) := by decide +kernel
theorem dX6_drop_16 : decode cX6_drop 16 = .ok (.isub, 1) := by decide +kernel
theorem dX6_drop_17 : decode cX6_drop 17 = .ok (.aload_n 0, 1) := by decide +kernel
theorem dX6_drop_18 : decode cX6_drop 18 = .ok (.getfield 11, 3) := by decide +kernel
theorem dX6_drop_21 : decode cX6_drop 21 = .ok (.iload_n 2, 1) := by decide +kernel
theorem dX6_drop_22 : decode cX6_drop 22 = .ok (.baload, 1) := by decide +kernel
theorem dX6_drop_23 : decode cX6_drop 23 = .ok (.bastore, 1) := by decide +kernel
theorem dX6_drop_24 : decode cX6_drop 24 = .ok (.iinc 2 1, 3) := by decide +kernel
theorem dX6_drop_27 : decode cX6_drop 27 = .ok (.goto (-25), 3) := by decide +kernel
theorem dX6_drop_30 : decode cX6_drop 30 = .ok (.aload_n 0, 1) := by decide +kernel
theorem dX6_drop_31 : decode cX6_drop 31 = .ok (.dup, 1) := by decide +kernel
theorem dX6_drop_32 : decode cX6_drop 32 = .ok (.getfield 15, 3) := by decide +kernel
theorem dX6_drop_35 : decode cX6_drop 35 = .ok (.iload_n 1, 1) := by decide +kernel
theorem dX6_drop_36 : decode cX6_drop 36 = .ok (.isub, 1) := by decide +kernel
theorem dX6_drop_37 : decode cX6_drop 37 = .ok (.putfield 15, 3) := by decide +kernel
theorem dX6_drop_40 : decode cX6_drop 40 = .ok (.return_, 1) := by decide +kernel
noncomputable def X6_drop_l2 (x1 : Nat) (k2_1 : Nat) (t2_1 : (Nat → Int32)) : (Nat → Int32) :=
  let y5 := t2_1 (x1 + k2_1)
  upd t2_1 ((x1 + k2_1) - x1) (b8 y5)
noncomputable def f_X6_drop (v_size : Nat) (f_bytes : Nat → Int32) (x1 : Nat) : (Nat) × (Nat → Int32) :=
  let t2_1 := itr (X6_drop_l2 x1) f_bytes (v_size - x1)
  let n3 := v_size - x1
  (n3, t2_1)
set_option maxHeartbeats 4000000 in
set_option maxRecDepth 100000 in
theorem c_X6_drop (l : Launch) (D : va_G) (ct : Nat → ClassId) (ts : Nat → Nat) (a_this a_this_bytes : Nat) (v_size : Nat) (f_bytes : Nat → Int32) (x1 : Nat)  (h_sz : v_size ≤ 3160) (h_c : x1 ≤ v_size)  (sz : Nat) : Met l yX6_drop (Cond.code yX6_drop cX6_drop 3 none :: tb) { frames := 0, cells := 0, slots := 0, locals := 0 } (PcG D ct SXL ts [.ref a_this, .int (nI x1)] [(a_this, .inr (6, [.ref a_this_bytes, .int (nI v_size)])), (a_this_bytes, .inl (ct 1, 3160, .inl f_bytes))] sz) (va_Qv (fun u : (Nat) × (Nat → Int32) => u = f_X6_drop v_size f_bytes x1) (fun u => BG D ct (va_A [(a_this, .inr (6, [.ref a_this_bytes, .int (nI v_size)])), (a_this_bytes, .inl (ct 1, 3160, .inl f_bytes))] sz) [(a_this, .inr (6, [.ref a_this_bytes, .int (nI u.1)])), (a_this_bytes, .inl (ct 1, 3160, .inl u.2))]) (va_A [(a_this, .inr (6, [.ref a_this_bytes, .int (nI v_size)])), (a_this_bytes, .inl (ct 1, 3160, .inl f_bytes))] sz)) 0 0 (va_A [(a_this, .inr (6, [.ref a_this_bytes, .int (nI v_size)])), (a_this_bytes, .inl (ct 1, 3160, .inl f_bytes))] sz) := by
  refine metJ (QcF := fun A => va_Qv (fun u : (Nat) × (Nat → Int32) => u = f_X6_drop v_size f_bytes x1) (fun u => BG D ct A [(a_this, .inr (6, [.ref a_this_bytes, .int (nI u.1)])), (a_this_bytes, .inl (ct 1, 3160, .inl u.2))]) A) (by decide) (Nat.le_of_ble_eq_true rfl) ?_
  intro p e s m below meth c A X hnm
  obtain ⟨Q, hQ⟩ : ∃ Q, Q = MQ below (va_Qv (fun u : (Nat) × (Nat → Int32) => u = f_X6_drop v_size f_bytes x1) (fun u => BG D ct A [(a_this, .inr (6, [.ref a_this_bytes, .int (nI u.1)])), (a_this_bytes, .inl (ct 1, 3160, .inl u.2))]) A) [.ref a_this, .int (nI x1)].toArray s 0 0 A := ⟨_, rfl⟩
  rw [← hQ]
  refine j_lve (lv' := [(0, .ref a_this), (1, .int (nI x1))]) rfl ?_
  refine j_iload_n X 1 dX6_drop_0 rfl (q := 1) rfl ?_
  refine j_istore_n (lv' := [(2, .int (nI x1)), (0, .ref a_this), (1, .int (nI x1))]) X dX6_drop_1 (by decide) rfl (q := 2) rfl ?_
  refine j_lv (lv' := [(0, .ref a_this), (1, .int (nI x1)), (2, .int (nI x1))]) [1, 2, 0] rfl ?_
  have LP2_1 : ∀ (r2_1 k2_1 : Nat) (t2_1 : (Nat → Int32)), k2_1 + r2_1 = v_size - x1 → t2_1 = itr (X6_drop_l2 x1) f_bytes k2_1 → J p l e { frames := 0, cells := 0, slots := 0, locals := 0 } s m [.ref a_this, .int (nI x1)].toArray below meth c D A 3 Q 0 0 [(a_this, .inr (6, [.ref a_this_bytes, .int (nI v_size)])), (a_this_bytes, .inl (ct 1, 3160, .inl t2_1))] [(0, .ref a_this), (1, .int (nI x1)), (2, .int (nI (x1 + k2_1)))] [] 2 := by
    intro r2_1
    induction r2_1 with
    | zero =>
      intro k2_1 t2_1 hk_t2_1 e_t2_1 
      have hkk_t2_1 : v_size - x1 = k2_1 := by omega
      subst hkk_t2_1
      refine j_iload_n X 2 dX6_drop_2 rfl (q := 3) rfl ?_
      refine j_aload_n X 0 dX6_drop_3 rfl (q := 4) rfl ?_
      refine j_get (f := 1) X 0 inT6 rfl rfl (by decide) mw_X6_drop_0 rfl dX6_drop_4 (q := 7) rfl ?_
      refine j_icmp_ge (tgt := 30) X dX6_drop_7 (by decide) (q := 10) rfl (fun c2 => ?_) (fun c2 => ?_)
      · skip
        have c2 : v_size ≤ x1 + (v_size - x1) := (nI_leI (by omega) (by omega)).mp c2
        refine j_aload_n X 0 dX6_drop_30 rfl (q := 31) rfl ?_
        refine j_dup X dX6_drop_31 rfl (q := 32) rfl ?_
        refine j_get (f := 1) X 0 inT6 rfl rfl (by decide) mw_X6_drop_0 rfl dX6_drop_32 (q := 35) rfl ?_
        refine j_iload_n X 1 dX6_drop_35 rfl (q := 36) rfl ?_
        refine j_isub X dX6_drop_36 (q := 37) rfl ?_
        refine j_eqi (pk_sub (by omega)) ?_
        refine j_topn (fun n3 e_n3 => ?_)
        refine j_put (f := 1) (ws2 := [(a_this, .inr (6, [.ref a_this_bytes, .int (nI n3)])), (a_this_bytes, .inl (ct 1, 3160, .inl t2_1))]) (ty := .int) X 0 inT6 tyX6_ok nmX6 rfl rfl (by decide) mw_X6_drop_0 rfl rfl rfl rfl (Nat.le_of_ble_eq_true rfl) dX6_drop_37 rfl (q := 40) rfl ?_
        rw [hQ]
        exact j_vret X ((n3, t2_1)) dX6_drop_40 (by subst e_t2_1; subst e_n3; rfl) rfl
      · skip
        have c2 : ¬ v_size ≤ x1 + (v_size - x1) := fun h => c2 ((nI_leI (by omega) (by omega)).mpr h)
        exfalso; omega
    | succ r2_1 ih2_1 =>
      intro k2_1 t2_1 hk_t2_1 e_t2_1 
      refine j_iload_n X 2 dX6_drop_2 rfl (q := 3) rfl ?_
      refine j_aload_n X 0 dX6_drop_3 rfl (q := 4) rfl ?_
      refine j_get (f := 1) X 0 inT6 rfl rfl (by decide) mw_X6_drop_0 rfl dX6_drop_4 (q := 7) rfl ?_
      refine j_icmp_ge (tgt := 30) X dX6_drop_7 (by decide) (q := 10) rfl (fun c4 => ?_) (fun c4 => ?_)
      · skip
        have c4 : v_size ≤ x1 + k2_1 := (nI_leI (by omega) (by omega)).mp c4
        exfalso; omega
      · skip
        have c4 : ¬ v_size ≤ x1 + k2_1 := fun h => c4 ((nI_leI (by omega) (by omega)).mpr h)
        refine j_aload_n X 0 dX6_drop_10 rfl (q := 11) rfl ?_
        refine j_get (f := 0) X 0 inT6 rfl rfl (by decide) mw_X6_drop_1 rfl dX6_drop_11 (q := 14) rfl ?_
        refine j_iload_n X 2 dX6_drop_14 rfl (q := 15) rfl ?_
        refine j_iload_n X 1 dX6_drop_15 rfl (q := 16) rfl ?_
        refine j_isub X dX6_drop_16 (q := 17) rfl ?_
        refine j_eqi (pk_sub (by omega)) ?_
        refine j_aload_n X 0 dX6_drop_17 rfl (q := 18) rfl ?_
        refine j_get (f := 0) X 0 inT6 rfl rfl (by decide) mw_X6_drop_1 rfl dX6_drop_18 (q := 21) rfl ?_
        refine j_iload_n X 2 dX6_drop_21 rfl (q := 22) rfl ?_
        refine k_bald X 1 rfl (vp_in_nI (by omega) (by omega)) (nI_clamp (by omega)) dX6_drop_22 (q := 23) rfl ?_
        refine j_topi (fun y5 e_y5 => ?_)
        refine k_bast (ws2 := [(a_this, .inr (6, [.ref a_this_bytes, .int (nI v_size)])), (a_this_bytes, .inl (ct 1, 3160, .inl (upd t2_1 ((x1 + k2_1) - x1) (b8 y5))))]) X 1 rfl (vp_in_nI (by omega) (by omega)) (nI_clamp (by omega)) (vp_nar_byte _) dX6_drop_23 rfl (q := 24) rfl ?_
        refine j_iinc (v := nI (x1 + k2_1 + 1)) (lv' := [(2, .int (nI (x1 + k2_1 + 1))), (0, .ref a_this), (1, .int (nI x1))]) X 2 dX6_drop_24 rfl (nI_inc _ 1) (by decide) rfl (q := 27) rfl ?_
        refine j_goto (tgt := 2) X dX6_drop_27 (by decide) ?_
        refine j_lv (lv' := [(0, .ref a_this), (1, .int (nI x1)), (2, .int (nI (x1 + k2_1 + 1)))]) [1, 2, 0] rfl ?_
        have hb : (X6_drop_l2 x1) k2_1 t2_1 = upd t2_1 ((x1 + k2_1) - x1) (b8 y5) := (by subst e_y5; rfl)
        exact ih2_1 (k2_1 + 1) (upd t2_1 ((x1 + k2_1) - x1) (b8 y5)) (by omega) (by rw [itr_s, ← e_t2_1]; exact hb.symm) 
  exact LP2_1 (v_size - x1) 0 f_bytes (by omega) (itr_0 _ _).symm 
theorem cal_X6_drop : Cal yX6_drop cX6_drop 3 none 1 := ⟨tb_at 119 (by decide +kernel) (by decide +kernel), tb_at 1124 (by decide +kernel) (by decide +kernel), by decide +kernel, by decide +kernel, by decide +kernel⟩
theorem cwi_X6_drop : Cond.instanceMethod yX6_drop ∈ tb := tb_at 1122 (by decide +kernel) (by decide +kernel)
theorem cws_X6_drop : Cond.selects yX6_drop.cls yX6_drop yX6_drop ∈ tb := tb_at 1123 (by decide +kernel) (by decide +kernel)
