theorem dX0_copy_0 : decode cX0_copy 0 = .ok (.iconst 0, 1) := by decide +kernel
theorem dX0_copy_1 : decode cX0_copy 1 = .ok (.istore_n 3, 1) := by decide +kernel
theorem dX0_copy_2 : decode cX0_copy 2 = .ok (.iload_n 3, 1) := by decide +kernel
theorem dX0_copy_3 : decode cX0_copy 3 = .ok (.bipush 8, 2) := by decide +kernel
theorem dX0_copy_5 : decode cX0_copy 5 = .ok (.if_icmp .ge 17, 3) := by decide +kernel
theorem dX0_copy_8 : decode cX0_copy 8 = .ok (.aload_n 2, 1) := by decide +kernel
theorem dX0_copy_9 : decode cX0_copy 9 = .ok (.iload_n 3, 1) := by decide +kernel
theorem dX0_copy_10 : decode cX0_copy 10 = .ok (.aload_n 0, 1) := by decide +kernel
theorem dX0_copy_11 : decode cX0_copy 11 = .ok (.iload_n 1, 1) := by decide +kernel
theorem dX0_copy_12 : decode cX0_copy 12 = .ok (.iload_n 3, 1) := by decide +kernel
theorem dX0_copy_13 : decode cX0_copy 13 = .ok (.iadd, 1) := by decide +kernel
theorem dX0_copy_14 : decode cX0_copy 14 = .ok (.iaload, 1) := by decide +kernel
theorem dX0_copy_15 : decode cX0_copy 15 = .ok (.iastore, 1) := by decide +kernel
theorem dX0_copy_16 : decode cX0_copy 16 = .ok (.iinc 3 1, 3) := by decide +kernel
theorem dX0_copy_19 : decode cX0_copy 19 = .ok (.goto (-17), 3) := by decide +kernel
theorem dX0_copy_22 : decode cX0_copy 22 = .ok (.return_, 1) := by decide +kernel
noncomputable def X0_copy_l2 (x2 : Nat) (f_p1 : Nat → Int32) (k2_1 : Nat) (t2_1 : (Nat → Int32)) : (Nat → Int32) :=
  let y4 := f_p1 (x2 + k2_1)
  upd t2_1 k2_1 y4
noncomputable def f_X0_copy (f_p1 : Nat → Int32) (f_p3 : Nat → Int32) (x2 : Nat) : (Nat → Int32) :=
  let t2_1 := itr (X0_copy_l2 x2 f_p1) f_p3 8
  t2_1
set_option maxHeartbeats 4000000 in
set_option maxRecDepth 100000 in
theorem c_X0_copy (l : Launch) (D : va_G) (ct : Nat → ClassId) (ts : Nat → Nat) (a_p1 a_p3 : Nat) (f_p1 : Nat → Int32) (f_p3 : Nat → Int32) (x2 : Nat)  (h_at : x2 + 8 ≤ 8)  (sz : Nat) : Met l yX0_copy (Cond.code yX0_copy cX0_copy 4 none :: tb) { frames := 0, cells := 0, slots := 0, locals := 0 } (PcG D ct SXL ts [.ref a_p1, .int (nI x2), .ref a_p3] [(a_p1, .inl (ct 0, 8, .inl f_p1)), (a_p3, .inl (ct 0, 8, .inl f_p3))] sz) (va_Qv (fun u : (Nat → Int32) => u = f_X0_copy f_p1 f_p3 x2) (fun u => BG D ct (va_A [(a_p1, .inl (ct 0, 8, .inl f_p1)), (a_p3, .inl (ct 0, 8, .inl f_p3))] sz) [(a_p1, .inl (ct 0, 8, .inl f_p1)), (a_p3, .inl (ct 0, 8, .inl u))]) (va_A [(a_p1, .inl (ct 0, 8, .inl f_p1)), (a_p3, .inl (ct 0, 8, .inl f_p3))] sz)) 0 0 (va_A [(a_p1, .inl (ct 0, 8, .inl f_p1)), (a_p3, .inl (ct 0, 8, .inl f_p3))] sz) := by
  refine metJ (QcF := fun A => va_Qv (fun u : (Nat → Int32) => u = f_X0_copy f_p1 f_p3 x2) (fun u => BG D ct A [(a_p1, .inl (ct 0, 8, .inl f_p1)), (a_p3, .inl (ct 0, 8, .inl u))]) A) (by decide) (Nat.le_of_ble_eq_true rfl) ?_
  intro p e s m below meth c A X hnm
  obtain ⟨Q, hQ⟩ : ∃ Q, Q = MQ below (va_Qv (fun u : (Nat → Int32) => u = f_X0_copy f_p1 f_p3 x2) (fun u => BG D ct A [(a_p1, .inl (ct 0, 8, .inl f_p1)), (a_p3, .inl (ct 0, 8, .inl u))]) A) [.ref a_p1, .int (nI x2), .ref a_p3].toArray s 0 0 A := ⟨_, rfl⟩
  rw [← hQ]
  refine j_lve (lv' := [(0, .ref a_p1), (1, .int (nI x2)), (2, .ref a_p3)]) rfl ?_
  refine j_iconst (v := nI 0) X dX0_copy_0 (by decide) (q := 1) rfl ?_
  refine j_istore_n (lv' := [(3, .int (nI 0)), (0, .ref a_p1), (1, .int (nI x2)), (2, .ref a_p3)]) X dX0_copy_1 (by decide) rfl (q := 2) rfl ?_
  refine j_lv (lv' := [(0, .ref a_p1), (1, .int (nI x2)), (2, .ref a_p3), (3, .int (nI 0))]) [1, 2, 3, 0] rfl ?_
  have LP2_1 : ∀ (r2_1 k2_1 : Nat) (t2_1 : (Nat → Int32)), k2_1 + r2_1 = 8 → t2_1 = itr (X0_copy_l2 x2 f_p1) f_p3 k2_1 → J p l e { frames := 0, cells := 0, slots := 0, locals := 0 } s m [.ref a_p1, .int (nI x2), .ref a_p3].toArray below meth c D A 4 Q 0 0 [(a_p1, .inl (ct 0, 8, .inl f_p1)), (a_p3, .inl (ct 0, 8, .inl t2_1))] [(0, .ref a_p1), (1, .int (nI x2)), (2, .ref a_p3), (3, .int (nI k2_1))] [] 2 := by
    intro r2_1
    induction r2_1 with
    | zero =>
      intro k2_1 t2_1 hk_t2_1 e_t2_1 
      have hkk_t2_1 : 8 = k2_1 := by omega
      subst hkk_t2_1
      refine j_iload_n X 3 dX0_copy_2 rfl (q := 3) rfl ?_
      refine j_bipush (v := nI 8) X dX0_copy_3 (by decide) (q := 5) rfl ?_
      refine j_icmp_ge (tgt := 22) X dX0_copy_5 (by decide) (q := 8) rfl (fun c2 => ?_) (fun c2 => ?_)
      · skip
        have c2 : 8 ≤ 8 := (nI_leI (by omega) (by omega)).mp c2
        rw [hQ]
        exact j_vret X t2_1 dX0_copy_22 (by subst e_t2_1; rfl) rfl
      · skip
        have c2 : ¬ 8 ≤ 8 := fun h => c2 ((nI_leI (by omega) (by omega)).mpr h)
        exfalso; omega
    | succ r2_1 ih2_1 =>
      intro k2_1 t2_1 hk_t2_1 e_t2_1 
      refine j_iload_n X 3 dX0_copy_2 rfl (q := 3) rfl ?_
      refine j_bipush (v := nI 8) X dX0_copy_3 (by decide) (q := 5) rfl ?_
      refine j_icmp_ge (tgt := 22) X dX0_copy_5 (by decide) (q := 8) rfl (fun c3 => ?_) (fun c3 => ?_)
      · skip
        have c3 : 8 ≤ k2_1 := (nI_leI (by omega) (by omega)).mp c3
        exfalso; omega
      · skip
        have c3 : ¬ 8 ≤ k2_1 := fun h => c3 ((nI_leI (by omega) (by omega)).mpr h)
        refine j_aload_n X 2 dX0_copy_8 rfl (q := 9) rfl ?_
        refine j_iload_n X 3 dX0_copy_9 rfl (q := 10) rfl ?_
        refine j_aload_n X 0 dX0_copy_10 rfl (q := 11) rfl ?_
        refine j_iload_n X 1 dX0_copy_11 rfl (q := 12) rfl ?_
        refine j_iload_n X 3 dX0_copy_12 rfl (q := 13) rfl ?_
        refine j_iadd X dX0_copy_13 (q := 14) rfl ?_
        refine j_eqi (nI_add _ _) ?_
        refine k_iald X 0 rfl (vp_in_nI (by omega) (by omega)) (nI_clamp (by omega)) dX0_copy_14 (q := 15) rfl ?_
        refine j_topi (fun y4 e_y4 => ?_)
        refine k_iast (ws2 := [(a_p1, .inl (ct 0, 8, .inl f_p1)), (a_p3, .inl (ct 0, 8, .inl (upd t2_1 k2_1 y4)))]) X 1 rfl (vp_in_nI (by omega) (by omega)) (nI_clamp (by omega)) dX0_copy_15 rfl (q := 16) rfl ?_
        refine j_iinc (v := nI (k2_1 + 1)) (lv' := [(3, .int (nI (k2_1 + 1))), (0, .ref a_p1), (1, .int (nI x2)), (2, .ref a_p3)]) X 3 dX0_copy_16 rfl (nI_inc _ 1) (by decide) rfl (q := 19) rfl ?_
        refine j_goto (tgt := 2) X dX0_copy_19 (by decide) ?_
        refine j_lv (lv' := [(0, .ref a_p1), (1, .int (nI x2)), (2, .ref a_p3), (3, .int (nI (k2_1 + 1)))]) [1, 2, 3, 0] rfl ?_
        have hb : (X0_copy_l2 x2 f_p1) k2_1 t2_1 = upd t2_1 k2_1 y4 := (by subst e_y4; rfl)
        exact ih2_1 (k2_1 + 1) (upd t2_1 k2_1 y4) (by omega) (by rw [itr_s, ← e_t2_1]; exact hb.symm) 
  exact LP2_1 8 0 f_p3 (by omega) (itr_0 _ _).symm 
theorem cal_X0_copy : Cal yX0_copy cX0_copy 4 none 3 := ⟨tb_at 111 (by decide +kernel) (by decide +kernel), tb_at 541 (by decide +kernel) (by decide +kernel), by decide +kernel, by decide +kernel, by decide +kernel⟩
theorem cwt_X0_copy : Cond.static yX0_copy ∈ tb := tb_at 540 (by decide +kernel) (by decide +kernel)
theorem mw_X0_begin_0 : Cond.fieldLink "GuardedTree$Agreement" 70 "GuardedTree$Agreement" "count" "I" ∈ tb := tb_at 220 (by decide +kernel) (by decide +kernel)
theorem mw_X0_begin_1 : Cond.fieldLink "GuardedTree$Agreement" 12 "GuardedTree$Agreement" "digest" "LGuardedTree$Digest;" ∈ tb := tb_at 207 (by decide +kernel) (by decide +kernel)
theorem mw_X0_begin_2 : Cond.fieldLink "GuardedTree$Agreement" 84 "GuardedTree$Digest" "state" "[I" ∈ tb := tb_at 155 (by decide +kernel) (by decide +kernel)
theorem mw_X0_begin_3 : Cond.fieldLink "GuardedTree$Agreement" 46 "GuardedTree$Agreement" "secret" "[I" ∈ tb := tb_at 211 (by decide +kernel) (by decide +kernel)
theorem mw_X0_begin_4 : Cond.methodLink "GuardedTree$Agreement" 74 yX4_clear ∈ tb := tb_at 511 (by decide +kernel) (by decide +kernel)
theorem mw_X0_begin_5 : Cond.methodLink "GuardedTree$Agreement" 77 yX4_addWord ∈ tb := tb_at 515 (by decide +kernel) (by decide +kernel)
theorem mw_X0_begin_6 : Cond.methodLink "GuardedTree$Agreement" 81 yX4_finish ∈ tb := tb_at 523 (by decide +kernel) (by decide +kernel)
theorem mw_X0_begin_7 : Cond.methodLink "GuardedTree$Agreement" 87 yX0_copy ∈ tb := tb_at 539 (by decide +kernel) (by decide +kernel)
theorem dX0_begin_0 : decode cX0_begin 0 = .ok (.aload_n 0, 1) := by decide +kernel
theorem dX0_begin_1 : decode cX0_begin 1 = .ok (.iconst 0, 1) := by decide +kernel
theorem dX0_begin_2 : decode cX0_begin 2 = .ok (.putfield 70, 3) := by decide +kernel
theorem dX0_begin_5 : decode cX0_begin 5 = .ok (.aload_n 0, 1) := by decide +kernel
theorem dX0_begin_6 : decode cX0_begin 6 = .ok (.getfield 12, 3) := by decide +kernel
theorem dX0_begin_9 : decode cX0_begin 9 = .ok (.invokevirtual 74, 3) := by decide +kernel
theorem dX0_begin_12 : decode cX0_begin 12 = .ok (.aload_n 0, 1) := by decide +kernel
theorem dX0_begin_13 : decode cX0_begin 13 = .ok (.getfield 12, 3) := by decide +kernel
theorem dX0_begin_16 : decode cX0_begin 16 = .ok (.iload_n 1, 1) := by decide +kernel
theorem dX0_begin_17 : decode cX0_begin 17 = .ok (.invokevirtual 77, 3) := by decide +kernel
theorem dX0_begin_20 : decode cX0_begin 20 = .ok (.aload_n 0, 1) := by decide +kernel
theorem dX0_begin_21 : decode cX0_begin 21 = .ok (.getfield 12, 3) := by decide +kernel
theorem dX0_begin_24 : decode cX0_begin 24 = .ok (.iload_n 2, 1) := by decide +kernel
theorem dX0_begin_25 : decode cX0_begin 25 = .ok (.invokevirtual 77, 3) := by decide +kernel
theorem dX0_begin_28 : decode cX0_begin 28 = .ok (.aload_n 0, 1) := by decide +kernel
theorem dX0_begin_29 : decode cX0_begin 29 = .ok (.getfield 12, 3) := by decide +kernel
theorem dX0_begin_32 : decode cX0_begin 32 = .ok (.invokevirtual 81, 3) := by decide +kernel
theorem dX0_begin_35 : decode cX0_begin 35 = .ok (.aload_n 0, 1) := by decide +kernel
theorem dX0_begin_36 : decode cX0_begin 36 = .ok (.getfield 12, 3) := by decide +kernel
theorem dX0_begin_39 : decode cX0_begin 39 = .ok (.getfield 84, 3) := by decide +kernel
theorem dX0_begin_42 : decode cX0_begin 42 = .ok (.iconst 0, 1) := by decide +kernel
theorem dX0_begin_43 : decode cX0_begin 43 = .ok (.aload_n 0, 1) := by decide +kernel
theorem dX0_begin_44 : decode cX0_begin 44 = .ok (.getfield 46, 3) := by decide +kernel
theorem dX0_begin_47 : decode cX0_begin 47 = .ok (.invokestatic 87, 3) := by decide +kernel
theorem dX0_begin_50 : decode cX0_begin 50 = .ok (.return_, 1) := by decide +kernel
noncomputable def f_X0_begin (f_digest_text : Nat → Int32) (f_digest_state : Nat → Int32) (f_digest_w : Nat → Int32) (f_secret : Nat → Int32) (x1 : Int32) (x2 : Int32) : (Nat) × (Nat) × (Nat → Int32) × (Nat → Int32) × (Nat → Int32) × (Nat → Int32) :=
  let u1 := f_X4_clear
  let u3 := f_X4_addWord u1 f_digest_text x1
  let u5 := f_X4_addWord u3.1 u3.2 x2
  let u7 := f_X4_finish u5.1 u5.2 f_digest_state f_digest_w
  let u9 := f_X0_copy u7.1 f_secret 0
  (0, u5.1, u7.1, u7.2.1, u7.2.2, u9)
set_option maxHeartbeats 4000000 in
set_option maxRecDepth 100000 in
theorem c_X0_begin (l : Launch) (D : va_G) (ct : Nat → ClassId) (ts : Nat → Nat) (a_this a_this_digest a_this_digest_text a_this_digest_state a_this_digest_w a_this_secret a_this_field a_this_host a_this_came a_this_own a_this_other a_this_common a_this_hash a_this_proof a_this_proven a_this_keys a_this_digest_inner : Nat) (v_count : Nat) (v_digest_size : Nat) (f_digest_text : Nat → Int32) (f_digest_state : Nat → Int32) (f_digest_w : Nat → Int32) (f_secret : Nat → Int32) (x1 : Int32) (x2 : Int32)    (sz : Nat) : Met l yX0_begin (Cond.code yX0_begin cX0_begin 3 none :: tb) { frames := 2, cells := 0, slots := 0, locals := 56 } (PcG D ct SXL ts [.ref a_this, .int x1, .int x2] [(a_this, .inr (0, [.ref a_this_digest, .ref a_this_field, .ref a_this_host, .ref a_this_came, .ref a_this_secret, .ref a_this_own, .ref a_this_other, .ref a_this_common, .ref a_this_hash, .ref a_this_proof, .ref a_this_proven, .ref a_this_keys, .int (nI v_count)])), (a_this_digest, .inr (4, [.ref a_this_digest_state, .ref a_this_digest_text, .ref a_this_digest_w, .ref a_this_digest_inner, .int (nI v_digest_size)])), (a_this_digest_text, .inl (ct 1, 256, .inl f_digest_text)), (a_this_digest_state, .inl (ct 0, 8, .inl f_digest_state)), (a_this_digest_w, .inl (ct 0, 64, .inl f_digest_w)), (a_this_secret, .inl (ct 0, 8, .inl f_secret))] sz) (va_Qv (fun u : (Nat) × (Nat) × (Nat → Int32) × (Nat → Int32) × (Nat → Int32) × (Nat → Int32) => u = f_X0_begin f_digest_text f_digest_state f_digest_w f_secret x1 x2) (fun u => BG D ct (va_A [(a_this, .inr (0, [.ref a_this_digest, .ref a_this_field, .ref a_this_host, .ref a_this_came, .ref a_this_secret, .ref a_this_own, .ref a_this_other, .ref a_this_common, .ref a_this_hash, .ref a_this_proof, .ref a_this_proven, .ref a_this_keys, .int (nI v_count)])), (a_this_digest, .inr (4, [.ref a_this_digest_state, .ref a_this_digest_text, .ref a_this_digest_w, .ref a_this_digest_inner, .int (nI v_digest_size)])), (a_this_digest_text, .inl (ct 1, 256, .inl f_digest_text)), (a_this_digest_state, .inl (ct 0, 8, .inl f_digest_state)), (a_this_digest_w, .inl (ct 0, 64, .inl f_digest_w)), (a_this_secret, .inl (ct 0, 8, .inl f_secret))] sz) [(a_this, .inr (0, [.ref a_this_digest, .ref a_this_field, .ref a_this_host, .ref a_this_came, .ref a_this_secret, .ref a_this_own, .ref a_this_other, .ref a_this_common, .ref a_this_hash, .ref a_this_proof, .ref a_this_proven, .ref a_this_keys, .int (nI u.1)])), (a_this_digest, .inr (4, [.ref a_this_digest_state, .ref a_this_digest_text, .ref a_this_digest_w, .ref a_this_digest_inner, .int (nI u.2.1)])), (a_this_digest_text, .inl (ct 1, 256, .inl u.2.2.2.1)), (a_this_digest_state, .inl (ct 0, 8, .inl u.2.2.1)), (a_this_digest_w, .inl (ct 0, 64, .inl u.2.2.2.2.1)), (a_this_secret, .inl (ct 0, 8, .inl u.2.2.2.2.2))]) (va_A [(a_this, .inr (0, [.ref a_this_digest, .ref a_this_field, .ref a_this_host, .ref a_this_came, .ref a_this_secret, .ref a_this_own, .ref a_this_other, .ref a_this_common, .ref a_this_hash, .ref a_this_proof, .ref a_this_proven, .ref a_this_keys, .int (nI v_count)])), (a_this_digest, .inr (4, [.ref a_this_digest_state, .ref a_this_digest_text, .ref a_this_digest_w, .ref a_this_digest_inner, .int (nI v_digest_size)])), (a_this_digest_text, .inl (ct 1, 256, .inl f_digest_text)), (a_this_digest_state, .inl (ct 0, 8, .inl f_digest_state)), (a_this_digest_w, .inl (ct 0, 64, .inl f_digest_w)), (a_this_secret, .inl (ct 0, 8, .inl f_secret))] sz)) 0 0 (va_A [(a_this, .inr (0, [.ref a_this_digest, .ref a_this_field, .ref a_this_host, .ref a_this_came, .ref a_this_secret, .ref a_this_own, .ref a_this_other, .ref a_this_common, .ref a_this_hash, .ref a_this_proof, .ref a_this_proven, .ref a_this_keys, .int (nI v_count)])), (a_this_digest, .inr (4, [.ref a_this_digest_state, .ref a_this_digest_text, .ref a_this_digest_w, .ref a_this_digest_inner, .int (nI v_digest_size)])), (a_this_digest_text, .inl (ct 1, 256, .inl f_digest_text)), (a_this_digest_state, .inl (ct 0, 8, .inl f_digest_state)), (a_this_digest_w, .inl (ct 0, 64, .inl f_digest_w)), (a_this_secret, .inl (ct 0, 8, .inl f_secret))] sz) := by
  refine metJ (QcF := fun A => va_Qv (fun u : (Nat) × (Nat) × (Nat → Int32) × (Nat → Int32) × (Nat → Int32) × (Nat → Int32) => u = f_X0_begin f_digest_text f_digest_state f_digest_w f_secret x1 x2) (fun u => BG D ct A [(a_this, .inr (0, [.ref a_this_digest, .ref a_this_field, .ref a_this_host, .ref a_this_came, .ref a_this_secret, .ref a_this_own, .ref a_this_other, .ref a_this_common, .ref a_this_hash, .ref a_this_proof, .ref a_this_proven, .ref a_this_keys, .int (nI u.1)])), (a_this_digest, .inr (4, [.ref a_this_digest_state, .ref a_this_digest_text, .ref a_this_digest_w, .ref a_this_digest_inner, .int (nI u.2.1)])), (a_this_digest_text, .inl (ct 1, 256, .inl u.2.2.2.1)), (a_this_digest_state, .inl (ct 0, 8, .inl u.2.2.1)), (a_this_digest_w, .inl (ct 0, 64, .inl u.2.2.2.2.1)), (a_this_secret, .inl (ct 0, 8, .inl u.2.2.2.2.2))]) A) (by decide) (Nat.le_of_ble_eq_true rfl) ?_
  intro p e s m below meth c A X hnm
  obtain ⟨Q, hQ⟩ : ∃ Q, Q = MQ below (va_Qv (fun u : (Nat) × (Nat) × (Nat → Int32) × (Nat → Int32) × (Nat → Int32) × (Nat → Int32) => u = f_X0_begin f_digest_text f_digest_state f_digest_w f_secret x1 x2) (fun u => BG D ct A [(a_this, .inr (0, [.ref a_this_digest, .ref a_this_field, .ref a_this_host, .ref a_this_came, .ref a_this_secret, .ref a_this_own, .ref a_this_other, .ref a_this_common, .ref a_this_hash, .ref a_this_proof, .ref a_this_proven, .ref a_this_keys, .int (nI u.1)])), (a_this_digest, .inr (4, [.ref a_this_digest_state, .ref a_this_digest_text, .ref a_this_digest_w, .ref a_this_digest_inner, .int (nI u.2.1)])), (a_this_digest_text, .inl (ct 1, 256, .inl u.2.2.2.1)), (a_this_digest_state, .inl (ct 0, 8, .inl u.2.2.1)), (a_this_digest_w, .inl (ct 0, 64, .inl u.2.2.2.2.1)), (a_this_secret, .inl (ct 0, 8, .inl u.2.2.2.2.2))]) A) [.ref a_this, .int x1, .int x2].toArray s 0 0 A := ⟨_, rfl⟩
  rw [← hQ]
  refine j_lve (lv' := [(0, .ref a_this), (1, .int x1), (2, .int x2)]) rfl ?_
  refine j_aload_n X 0 dX0_begin_0 rfl (q := 1) rfl ?_
  refine j_iconst (v := nI 0) X dX0_begin_1 (by decide) (q := 2) rfl ?_
  refine j_put (f := 12) (ws2 := [(a_this, .inr (0, [.ref a_this_digest, .ref a_this_field, .ref a_this_host, .ref a_this_came, .ref a_this_secret, .ref a_this_own, .ref a_this_other, .ref a_this_common, .ref a_this_hash, .ref a_this_proof, .ref a_this_proven, .ref a_this_keys, .int (nI 0)])), (a_this_digest, .inr (4, [.ref a_this_digest_state, .ref a_this_digest_text, .ref a_this_digest_w, .ref a_this_digest_inner, .int (nI v_digest_size)])), (a_this_digest_text, .inl (ct 1, 256, .inl f_digest_text)), (a_this_digest_state, .inl (ct 0, 8, .inl f_digest_state)), (a_this_digest_w, .inl (ct 0, 64, .inl f_digest_w)), (a_this_secret, .inl (ct 0, 8, .inl f_secret))]) (ty := .int) X 0 inT0 tyX0_ok nmX0 rfl rfl (by decide) mw_X0_begin_0 rfl rfl rfl rfl (Nat.le_of_ble_eq_true rfl) dX0_begin_2 rfl (q := 5) rfl ?_
  refine j_aload_n X 0 dX0_begin_5 rfl (q := 6) rfl ?_
  refine j_get (f := 0) X 0 inT0 rfl rfl (by decide) mw_X0_begin_1 rfl dX0_begin_6 (q := 9) rfl ?_
  refine j_callVv (As := []) (rest := []) (wn := (fun u1 => [(a_this, .inr (0, [.ref a_this_digest, .ref a_this_field, .ref a_this_host, .ref a_this_came, .ref a_this_secret, .ref a_this_own, .ref a_this_other, .ref a_this_common, .ref a_this_hash, .ref a_this_proof, .ref a_this_proven, .ref a_this_keys, .int (nI 0)])), (a_this_digest, .inr (4, [.ref a_this_digest_state, .ref a_this_digest_text, .ref a_this_digest_w, .ref a_this_digest_inner, .int (nI u1)])), (a_this_digest_text, .inl (ct 1, 256, .inl f_digest_text)), (a_this_digest_state, .inl (ct 0, 8, .inl f_digest_state)), (a_this_digest_w, .inl (ct 0, 64, .inl f_digest_w)), (a_this_secret, .inl (ct 0, 8, .inl f_secret))])) (wr := [(a_this, .inr (0, [.ref a_this_digest, .ref a_this_field, .ref a_this_host, .ref a_this_came, .ref a_this_secret, .ref a_this_own, .ref a_this_other, .ref a_this_common, .ref a_this_hash, .ref a_this_proof, .ref a_this_proven, .ref a_this_keys, .int (nI 0)])), (a_this_digest_text, .inl (ct 1, 256, .inl f_digest_text)), (a_this_digest_state, .inl (ct 0, 8, .inl f_digest_state)), (a_this_digest_w, .inl (ct 0, 64, .inl f_digest_w)), (a_this_secret, .inl (ct 0, 8, .inl f_secret))]) X (fun sz => c_X4_clear l D ct ts a_this_digest a_this_digest_state a_this_digest_text a_this_digest_w a_this_digest_inner v_digest_size  sz) cal_X4_clear 1 rfl rfl mw_X0_begin_4 cwi_X4_clear cws_X4_clear rfl ⟨by decide, by decide⟩ rfl rfl (Nat.le_of_ble_eq_true rfl) ⟨by decide, by decide⟩ [1] [0, 2, 3, 4, 5] [0, 5, 1, 2, 3, 4] rfl (by decide) rfl (by decide) (by decide) (fun _ => rfl) (by decide) dX0_begin_9 (q := 12) rfl (fun u1 hu1 => ?_)
  have hq_u1 : u1 = 0 := hu1
  refine j_aload_n X 0 dX0_begin_12 rfl (q := 13) rfl ?_
  refine j_get (f := 0) X 0 inT0 rfl rfl (by decide) mw_X0_begin_1 rfl dX0_begin_13 (q := 16) rfl ?_
  refine j_iload_n X 1 dX0_begin_16 rfl (q := 17) rfl ?_
  refine j_callVv (As := [.int x1]) (rest := []) (wn := (fun u3 => [(a_this, .inr (0, [.ref a_this_digest, .ref a_this_field, .ref a_this_host, .ref a_this_came, .ref a_this_secret, .ref a_this_own, .ref a_this_other, .ref a_this_common, .ref a_this_hash, .ref a_this_proof, .ref a_this_proven, .ref a_this_keys, .int (nI 0)])), (a_this_digest, .inr (4, [.ref a_this_digest_state, .ref a_this_digest_text, .ref a_this_digest_w, .ref a_this_digest_inner, .int (nI u3.1)])), (a_this_digest_text, .inl (ct 1, 256, .inl u3.2)), (a_this_digest_state, .inl (ct 0, 8, .inl f_digest_state)), (a_this_digest_w, .inl (ct 0, 64, .inl f_digest_w)), (a_this_secret, .inl (ct 0, 8, .inl f_secret))])) (wr := [(a_this, .inr (0, [.ref a_this_digest, .ref a_this_field, .ref a_this_host, .ref a_this_came, .ref a_this_secret, .ref a_this_own, .ref a_this_other, .ref a_this_common, .ref a_this_hash, .ref a_this_proof, .ref a_this_proven, .ref a_this_keys, .int (nI 0)])), (a_this_digest_state, .inl (ct 0, 8, .inl f_digest_state)), (a_this_digest_w, .inl (ct 0, 64, .inl f_digest_w)), (a_this_secret, .inl (ct 0, 8, .inl f_secret))]) X (fun sz => c_X4_addWord l D ct ts a_this_digest a_this_digest_text a_this_digest_state a_this_digest_w a_this_digest_inner u1 f_digest_text x1 (by first | omega | assumption) sz) cal_X4_addWord 1 rfl rfl mw_X0_begin_5 cwi_X4_addWord cws_X4_addWord rfl ⟨by decide, by decide⟩ rfl rfl (Nat.le_of_ble_eq_true rfl) ⟨by decide, by decide⟩ [1, 2] [0, 3, 4, 5] [0, 4, 5, 1, 2, 3] rfl (by decide) rfl (by decide) (by decide) (fun _ => rfl) (by decide) dX0_begin_17 (q := 20) rfl (fun u3 hu3 => ?_)
  have hq_u3 : u3.1 ≤ 247 := by rw [hu3]; exact f_X4_addWord_le (by omega)
  refine j_aload_n X 0 dX0_begin_20 rfl (q := 21) rfl ?_
  refine j_get (f := 0) X 0 inT0 rfl rfl (by decide) mw_X0_begin_1 rfl dX0_begin_21 (q := 24) rfl ?_
  refine j_iload_n X 2 dX0_begin_24 rfl (q := 25) rfl ?_
  refine j_callVv (As := [.int x2]) (rest := []) (wn := (fun u5 => [(a_this, .inr (0, [.ref a_this_digest, .ref a_this_field, .ref a_this_host, .ref a_this_came, .ref a_this_secret, .ref a_this_own, .ref a_this_other, .ref a_this_common, .ref a_this_hash, .ref a_this_proof, .ref a_this_proven, .ref a_this_keys, .int (nI 0)])), (a_this_digest, .inr (4, [.ref a_this_digest_state, .ref a_this_digest_text, .ref a_this_digest_w, .ref a_this_digest_inner, .int (nI u5.1)])), (a_this_digest_text, .inl (ct 1, 256, .inl u5.2)), (a_this_digest_state, .inl (ct 0, 8, .inl f_digest_state)), (a_this_digest_w, .inl (ct 0, 64, .inl f_digest_w)), (a_this_secret, .inl (ct 0, 8, .inl f_secret))])) (wr := [(a_this, .inr (0, [.ref a_this_digest, .ref a_this_field, .ref a_this_host, .ref a_this_came, .ref a_this_secret, .ref a_this_own, .ref a_this_other, .ref a_this_common, .ref a_this_hash, .ref a_this_proof, .ref a_this_proven, .ref a_this_keys, .int (nI 0)])), (a_this_digest_state, .inl (ct 0, 8, .inl f_digest_state)), (a_this_digest_w, .inl (ct 0, 64, .inl f_digest_w)), (a_this_secret, .inl (ct 0, 8, .inl f_secret))]) X (fun sz => c_X4_addWord l D ct ts a_this_digest a_this_digest_text a_this_digest_state a_this_digest_w a_this_digest_inner u3.1 u3.2 x2 (by first | omega | assumption) sz) cal_X4_addWord 1 rfl rfl mw_X0_begin_5 cwi_X4_addWord cws_X4_addWord rfl ⟨by decide, by decide⟩ rfl rfl (Nat.le_of_ble_eq_true rfl) ⟨by decide, by decide⟩ [1, 2] [0, 3, 4, 5] [0, 4, 5, 1, 2, 3] rfl (by decide) rfl (by decide) (by decide) (fun _ => rfl) (by decide) dX0_begin_25 (q := 28) rfl (fun u5 hu5 => ?_)
  have hq_u5 : u5.1 ≤ 247 := by rw [hu5]; exact f_X4_addWord_le (by omega)
  refine j_aload_n X 0 dX0_begin_28 rfl (q := 29) rfl ?_
  refine j_get (f := 0) X 0 inT0 rfl rfl (by decide) mw_X0_begin_1 rfl dX0_begin_29 (q := 32) rfl ?_
  refine j_callVv (As := []) (rest := []) (wn := (fun u7 => [(a_this, .inr (0, [.ref a_this_digest, .ref a_this_field, .ref a_this_host, .ref a_this_came, .ref a_this_secret, .ref a_this_own, .ref a_this_other, .ref a_this_common, .ref a_this_hash, .ref a_this_proof, .ref a_this_proven, .ref a_this_keys, .int (nI 0)])), (a_this_digest, .inr (4, [.ref a_this_digest_state, .ref a_this_digest_text, .ref a_this_digest_w, .ref a_this_digest_inner, .int (nI u5.1)])), (a_this_digest_text, .inl (ct 1, 256, .inl u7.2.1)), (a_this_digest_state, .inl (ct 0, 8, .inl u7.1)), (a_this_digest_w, .inl (ct 0, 64, .inl u7.2.2)), (a_this_secret, .inl (ct 0, 8, .inl f_secret))])) (wr := [(a_this, .inr (0, [.ref a_this_digest, .ref a_this_field, .ref a_this_host, .ref a_this_came, .ref a_this_secret, .ref a_this_own, .ref a_this_other, .ref a_this_common, .ref a_this_hash, .ref a_this_proof, .ref a_this_proven, .ref a_this_keys, .int (nI 0)])), (a_this_secret, .inl (ct 0, 8, .inl f_secret))]) X (fun sz => c_X4_finish l D ct ts a_this_digest a_this_digest_text a_this_digest_state a_this_digest_w a_this_digest_inner u5.1 u5.2 f_digest_state f_digest_w (by first | omega | assumption) sz) cal_X4_finish 1 rfl rfl mw_X0_begin_6 cwi_X4_finish cws_X4_finish rfl ⟨by decide, by decide⟩ rfl rfl (Nat.le_of_ble_eq_true rfl) ⟨by decide, by decide⟩ [1, 2, 3, 4] [0, 5] [0, 2, 3, 4, 5, 1] rfl (by decide) rfl (by decide) (by decide) (fun _ => rfl) (by decide) dX0_begin_32 (q := 35) rfl (fun u7 hu7 => ?_)
  refine j_aload_n X 0 dX0_begin_35 rfl (q := 36) rfl ?_
  refine j_get (f := 0) X 0 inT0 rfl rfl (by decide) mw_X0_begin_1 rfl dX0_begin_36 (q := 39) rfl ?_
  refine j_get (f := 0) X 1 inT4 rfl rfl (by decide) mw_X0_begin_2 rfl dX0_begin_39 (q := 42) rfl ?_
  refine j_iconst (v := nI 0) X dX0_begin_42 (by decide) (q := 43) rfl ?_
  refine j_aload_n X 0 dX0_begin_43 rfl (q := 44) rfl ?_
  refine j_get (f := 4) X 0 inT0 rfl rfl (by decide) mw_X0_begin_3 rfl dX0_begin_44 (q := 47) rfl ?_
  refine j_callSv (As := [.ref a_this_digest_state, .int (nI 0), .ref a_this_secret]) (rest := []) (wn := (fun u9 => [(a_this, .inr (0, [.ref a_this_digest, .ref a_this_field, .ref a_this_host, .ref a_this_came, .ref a_this_secret, .ref a_this_own, .ref a_this_other, .ref a_this_common, .ref a_this_hash, .ref a_this_proof, .ref a_this_proven, .ref a_this_keys, .int (nI 0)])), (a_this_digest, .inr (4, [.ref a_this_digest_state, .ref a_this_digest_text, .ref a_this_digest_w, .ref a_this_digest_inner, .int (nI u5.1)])), (a_this_digest_text, .inl (ct 1, 256, .inl u7.2.1)), (a_this_digest_state, .inl (ct 0, 8, .inl u7.1)), (a_this_digest_w, .inl (ct 0, 64, .inl u7.2.2)), (a_this_secret, .inl (ct 0, 8, .inl u9))])) (wr := [(a_this, .inr (0, [.ref a_this_digest, .ref a_this_field, .ref a_this_host, .ref a_this_came, .ref a_this_secret, .ref a_this_own, .ref a_this_other, .ref a_this_common, .ref a_this_hash, .ref a_this_proof, .ref a_this_proven, .ref a_this_keys, .int (nI 0)])), (a_this_digest, .inr (4, [.ref a_this_digest_state, .ref a_this_digest_text, .ref a_this_digest_w, .ref a_this_digest_inner, .int (nI u5.1)])), (a_this_digest_text, .inl (ct 1, 256, .inl u7.2.1)), (a_this_digest_w, .inl (ct 0, 64, .inl u7.2.2))]) X (fun sz => c_X0_copy l D ct ts a_this_digest_state a_this_secret u7.1 f_secret 0 (by first | omega | assumption) sz) cal_X0_copy mw_X0_begin_7 cwt_X0_copy rfl ⟨by decide, by decide⟩ rfl rfl (Nat.le_of_ble_eq_true rfl) ⟨by decide, by decide⟩ [3, 5] [0, 1, 2, 4] [0, 1, 2, 4, 3, 5] rfl (by decide) rfl (by decide) (by decide) (fun _ => rfl) (by decide) dX0_begin_47 (q := 50) rfl (fun u9 hu9 => ?_)
  rw [hQ]
  exact j_vret X ((0, u5.1, u7.1, u7.2.1, u7.2.2, u9)) dX0_begin_50 (by subst hu1; subst hu3; subst hu5; subst hu7; subst hu9; rfl) rfl
theorem cal_X0_begin : Cal yX0_begin cX0_begin 3 none 2 := ⟨tb_at 111 (by decide +kernel) (by decide +kernel), tb_at 510 (by decide +kernel) (by decide +kernel), by decide +kernel, by decide +kernel, by decide +kernel⟩
theorem cwi_X0_begin : Cond.instanceMethod yX0_begin ∈ tb := tb_at 508 (by decide +kernel) (by decide +kernel)
theorem cws_X0_begin : Cond.selects yX0_begin.cls yX0_begin yX0_begin ∈ tb := tb_at 509 (by decide +kernel) (by decide +kernel)
theorem mw_X0_reckonOwn_0 : Cond.fieldLink "GuardedTree$Agreement" 30 "GuardedTree$Agreement" "field" "LGuardedTree$Modulus;" ∈ tb := tb_at 208 (by decide +kernel) (by decide +kernel)
theorem mw_X0_reckonOwn_1 : Cond.fieldLink "GuardedTree$Agreement" 91 "GuardedTree$Agreement" "G" "[I" ∈ tb := tb_at 546 (by decide +kernel) (by decide +kernel)
theorem mw_X0_reckonOwn_2 : Cond.fieldLink "GuardedTree$Agreement" 46 "GuardedTree$Agreement" "secret" "[I" ∈ tb := tb_at 211 (by decide +kernel) (by decide +kernel)
theorem mw_X0_reckonOwn_3 : Cond.fieldLink "GuardedTree$Agreement" 49 "GuardedTree$Agreement" "own" "[I" ∈ tb := tb_at 212 (by decide +kernel) (by decide +kernel)
theorem mw_X0_reckonOwn_4 : Cond.methodLink "GuardedTree$Agreement" 94 yX7_power ∈ tb := tb_at 548 (by decide +kernel) (by decide +kernel)
theorem dX0_reckonOwn_0 : decode cX0_reckonOwn 0 = .ok (.aload_n 0, 1) := by decide +kernel
theorem dX0_reckonOwn_1 : decode cX0_reckonOwn 1 = .ok (.getfield 30, 3) := by decide +kernel
theorem dX0_reckonOwn_4 : decode cX0_reckonOwn 4 = .ok (.getstatic 91, 3) := by decide +kernel
theorem dX0_reckonOwn_7 : decode cX0_reckonOwn 7 = .ok (.aload_n 0, 1) := by decide +kernel
theorem dX0_reckonOwn_8 : decode cX0_reckonOwn 8 = .ok (.getfield 46, 3) := by decide +kernel
theorem dX0_reckonOwn_11 : decode cX0_reckonOwn 11 = .ok (.aload_n 0, 1) := by decide +kernel
theorem dX0_reckonOwn_12 : decode cX0_reckonOwn 12 = .ok (.getfield 49, 3) := by decide +kernel
theorem dX0_reckonOwn_15 : decode cX0_reckonOwn 15 = .ok (.invokevirtual 94, 3) := by decide +kernel
theorem dX0_reckonOwn_18 : decode cX0_reckonOwn 18 = .ok (.return_, 1) := by decide +kernel
noncomputable def f_X0_reckonOwn (v_field_inverse : Int32) (f_field_sum : Nat → Int32) (f_field_base : Nat → Int32) (f_field_result : Nat → Int32) (f_own : Nat → Int32) (f_secret : Nat → Int32) : (Nat → Int32) × (Nat → Int32) × (Nat → Int32) × (Nat → Int32) :=
  let u1 := f_X7_power v_field_inverse f_field_sum f_field_base (fun j => tab_Agreement_G.getD j 0) f_field_result f_own f_secret tab_Agreement_P tab_Agreement_SQUARE_P
  (u1.2.1, u1.2.2.1, u1.2.2.2, u1.1)
set_option maxHeartbeats 4000000 in
set_option maxRecDepth 100000 in
theorem c_X0_reckonOwn (l : Launch) (D : va_G) (ct : Nat → ClassId) (ts : Nat → Nat) (a_this a_this_field a_this_field_sum a_this_field_base a_this_field_result a_this_own a_this_secret a_this_digest a_this_host a_this_came a_this_other a_this_common a_this_hash a_this_proof a_this_proven a_this_keys : Nat) (v_count : Nat) (v_field_inverse : Int32) (f_field_sum : Nat → Int32) (f_field_base : Nat → Int32) (f_field_result : Nat → Int32) (f_own : Nat → Int32) (f_secret : Nat → Int32)    (sz : Nat) : Met l yX0_reckonOwn (Cond.code yX0_reckonOwn cX0_reckonOwn 1 none :: tb) { frames := 3, cells := 0, slots := 0, locals := 85 } (PcG D ct SXL ts [.ref a_this] [(a_this, .inr (0, [.ref a_this_digest, .ref a_this_field, .ref a_this_host, .ref a_this_came, .ref a_this_secret, .ref a_this_own, .ref a_this_other, .ref a_this_common, .ref a_this_hash, .ref a_this_proof, .ref a_this_proven, .ref a_this_keys, .int (nI v_count)])), (a_this_field, .inr (7, [.ref (ts 0), .ref (ts 6), .ref a_this_field_sum, .ref a_this_field_base, .ref a_this_field_result, .int v_field_inverse])), (a_this_field_sum, .inl (ct 0, 8, .inl f_field_sum)), (a_this_field_base, .inl (ct 0, 8, .inl f_field_base)), (a_this_field_result, .inl (ct 0, 8, .inl f_field_result)), (a_this_own, .inl (ct 0, 8, .inl f_own)), (a_this_secret, .inl (ct 0, 8, .inl f_secret))] sz) (va_Qv (fun u : (Nat → Int32) × (Nat → Int32) × (Nat → Int32) × (Nat → Int32) => u = f_X0_reckonOwn v_field_inverse f_field_sum f_field_base f_field_result f_own f_secret) (fun u => BG D ct (va_A [(a_this, .inr (0, [.ref a_this_digest, .ref a_this_field, .ref a_this_host, .ref a_this_came, .ref a_this_secret, .ref a_this_own, .ref a_this_other, .ref a_this_common, .ref a_this_hash, .ref a_this_proof, .ref a_this_proven, .ref a_this_keys, .int (nI v_count)])), (a_this_field, .inr (7, [.ref (ts 0), .ref (ts 6), .ref a_this_field_sum, .ref a_this_field_base, .ref a_this_field_result, .int v_field_inverse])), (a_this_field_sum, .inl (ct 0, 8, .inl f_field_sum)), (a_this_field_base, .inl (ct 0, 8, .inl f_field_base)), (a_this_field_result, .inl (ct 0, 8, .inl f_field_result)), (a_this_own, .inl (ct 0, 8, .inl f_own)), (a_this_secret, .inl (ct 0, 8, .inl f_secret))] sz) [(a_this, .inr (0, [.ref a_this_digest, .ref a_this_field, .ref a_this_host, .ref a_this_came, .ref a_this_secret, .ref a_this_own, .ref a_this_other, .ref a_this_common, .ref a_this_hash, .ref a_this_proof, .ref a_this_proven, .ref a_this_keys, .int (nI v_count)])), (a_this_field, .inr (7, [.ref (ts 0), .ref (ts 6), .ref a_this_field_sum, .ref a_this_field_base, .ref a_this_field_result, .int v_field_inverse])), (a_this_field_sum, .inl (ct 0, 8, .inl u.2.2.1)), (a_this_field_base, .inl (ct 0, 8, .inl u.1)), (a_this_field_result, .inl (ct 0, 8, .inl u.2.1)), (a_this_own, .inl (ct 0, 8, .inl u.2.2.2)), (a_this_secret, .inl (ct 0, 8, .inl f_secret))]) (va_A [(a_this, .inr (0, [.ref a_this_digest, .ref a_this_field, .ref a_this_host, .ref a_this_came, .ref a_this_secret, .ref a_this_own, .ref a_this_other, .ref a_this_common, .ref a_this_hash, .ref a_this_proof, .ref a_this_proven, .ref a_this_keys, .int (nI v_count)])), (a_this_field, .inr (7, [.ref (ts 0), .ref (ts 6), .ref a_this_field_sum, .ref a_this_field_base, .ref a_this_field_result, .int v_field_inverse])), (a_this_field_sum, .inl (ct 0, 8, .inl f_field_sum)), (a_this_field_base, .inl (ct 0, 8, .inl f_field_base)), (a_this_field_result, .inl (ct 0, 8, .inl f_field_result)), (a_this_own, .inl (ct 0, 8, .inl f_own)), (a_this_secret, .inl (ct 0, 8, .inl f_secret))] sz)) 0 0 (va_A [(a_this, .inr (0, [.ref a_this_digest, .ref a_this_field, .ref a_this_host, .ref a_this_came, .ref a_this_secret, .ref a_this_own, .ref a_this_other, .ref a_this_common, .ref a_this_hash, .ref a_this_proof, .ref a_this_proven, .ref a_this_keys, .int (nI v_count)])), (a_this_field, .inr (7, [.ref (ts 0), .ref (ts 6), .ref a_this_field_sum, .ref a_this_field_base, .ref a_this_field_result, .int v_field_inverse])), (a_this_field_sum, .inl (ct 0, 8, .inl f_field_sum)), (a_this_field_base, .inl (ct 0, 8, .inl f_field_base)), (a_this_field_result, .inl (ct 0, 8, .inl f_field_result)), (a_this_own, .inl (ct 0, 8, .inl f_own)), (a_this_secret, .inl (ct 0, 8, .inl f_secret))] sz) := by
  refine metJ (QcF := fun A => va_Qv (fun u : (Nat → Int32) × (Nat → Int32) × (Nat → Int32) × (Nat → Int32) => u = f_X0_reckonOwn v_field_inverse f_field_sum f_field_base f_field_result f_own f_secret) (fun u => BG D ct A [(a_this, .inr (0, [.ref a_this_digest, .ref a_this_field, .ref a_this_host, .ref a_this_came, .ref a_this_secret, .ref a_this_own, .ref a_this_other, .ref a_this_common, .ref a_this_hash, .ref a_this_proof, .ref a_this_proven, .ref a_this_keys, .int (nI v_count)])), (a_this_field, .inr (7, [.ref (ts 0), .ref (ts 6), .ref a_this_field_sum, .ref a_this_field_base, .ref a_this_field_result, .int v_field_inverse])), (a_this_field_sum, .inl (ct 0, 8, .inl u.2.2.1)), (a_this_field_base, .inl (ct 0, 8, .inl u.1)), (a_this_field_result, .inl (ct 0, 8, .inl u.2.1)), (a_this_own, .inl (ct 0, 8, .inl u.2.2.2)), (a_this_secret, .inl (ct 0, 8, .inl f_secret))]) A) (by decide) (Nat.le_of_ble_eq_true rfl) ?_
  intro p e s m below meth c A X hnm
  obtain ⟨Q, hQ⟩ : ∃ Q, Q = MQ below (va_Qv (fun u : (Nat → Int32) × (Nat → Int32) × (Nat → Int32) × (Nat → Int32) => u = f_X0_reckonOwn v_field_inverse f_field_sum f_field_base f_field_result f_own f_secret) (fun u => BG D ct A [(a_this, .inr (0, [.ref a_this_digest, .ref a_this_field, .ref a_this_host, .ref a_this_came, .ref a_this_secret, .ref a_this_own, .ref a_this_other, .ref a_this_common, .ref a_this_hash, .ref a_this_proof, .ref a_this_proven, .ref a_this_keys, .int (nI v_count)])), (a_this_field, .inr (7, [.ref (ts 0), .ref (ts 6), .ref a_this_field_sum, .ref a_this_field_base, .ref a_this_field_result, .int v_field_inverse])), (a_this_field_sum, .inl (ct 0, 8, .inl u.2.2.1)), (a_this_field_base, .inl (ct 0, 8, .inl u.1)), (a_this_field_result, .inl (ct 0, 8, .inl u.2.1)), (a_this_own, .inl (ct 0, 8, .inl u.2.2.2)), (a_this_secret, .inl (ct 0, 8, .inl f_secret))]) A) [.ref a_this].toArray s 0 0 A := ⟨_, rfl⟩
  rw [← hQ]
  refine j_lve (lv' := [(0, .ref a_this)]) rfl ?_
  refine j_aload_n X 0 dX0_reckonOwn_0 rfl (q := 1) rfl ?_
  refine j_get (f := 1) X 0 inT0 rfl rfl (by decide) mw_X0_reckonOwn_0 rfl dX0_reckonOwn_1 (q := 4) rfl ?_
  refine j_gets X 2 (show SXL[2]? = _ from rfl) mw_X0_reckonOwn_1 dX0_reckonOwn_4 (q := 7) rfl ?_
  refine j_aload_n X 0 dX0_reckonOwn_7 rfl (q := 8) rfl ?_
  refine j_get (f := 4) X 0 inT0 rfl rfl (by decide) mw_X0_reckonOwn_2 rfl dX0_reckonOwn_8 (q := 11) rfl ?_
  refine j_aload_n X 0 dX0_reckonOwn_11 rfl (q := 12) rfl ?_
  refine j_get (f := 5) X 0 inT0 rfl rfl (by decide) mw_X0_reckonOwn_3 rfl dX0_reckonOwn_12 (q := 15) rfl ?_
  refine j_callVv (As := [.ref (ts 2), .ref a_this_secret, .ref a_this_own]) (rest := []) (wn := (fun u1 => [(a_this, .inr (0, [.ref a_this_digest, .ref a_this_field, .ref a_this_host, .ref a_this_came, .ref a_this_secret, .ref a_this_own, .ref a_this_other, .ref a_this_common, .ref a_this_hash, .ref a_this_proof, .ref a_this_proven, .ref a_this_keys, .int (nI v_count)])), (a_this_field, .inr (7, [.ref (ts 0), .ref (ts 6), .ref a_this_field_sum, .ref a_this_field_base, .ref a_this_field_result, .int v_field_inverse])), (a_this_field_sum, .inl (ct 0, 8, .inl u1.2.2.2)), (a_this_field_base, .inl (ct 0, 8, .inl u1.2.1)), (a_this_field_result, .inl (ct 0, 8, .inl u1.2.2.1)), (a_this_own, .inl (ct 0, 8, .inl u1.1)), (a_this_secret, .inl (ct 0, 8, .inl f_secret))])) (wr := [(a_this, .inr (0, [.ref a_this_digest, .ref a_this_field, .ref a_this_host, .ref a_this_came, .ref a_this_secret, .ref a_this_own, .ref a_this_other, .ref a_this_common, .ref a_this_hash, .ref a_this_proof, .ref a_this_proven, .ref a_this_keys, .int (nI v_count)]))]) X (fun sz => c_X7_power_taa l D ct ts a_this_field a_this_field_sum a_this_field_base a_this_field_result a_this_own a_this_secret v_field_inverse f_field_sum f_field_base f_field_result f_own f_secret 2 _ _ tab_Agreement_G 0 _ _ tab_Agreement_P 6 _ _ tab_Agreement_SQUARE_P (show SXL[2]? = _ from rfl) (show SXL[0]? = _ from rfl) (show SXL[6]? = _ from rfl) sz) cal_X7_power 1 rfl rfl mw_X0_reckonOwn_4 cwi_X7_power cws_X7_power rfl ⟨by decide, by decide⟩ rfl rfl (Nat.le_of_ble_eq_true rfl) ⟨by decide, by decide⟩ [1, 2, 3, 4, 5, 6] [0] [0, 1, 2, 3, 4, 5, 6] rfl (by decide) rfl (by decide) (by decide) (fun _ => rfl) (by decide) dX0_reckonOwn_15 (q := 18) rfl (fun u1 hu1 => ?_)
  rw [hQ]
  exact j_vret X ((u1.2.1, u1.2.2.1, u1.2.2.2, u1.1)) dX0_reckonOwn_18 (by subst hu1; rfl) rfl
theorem cal_X0_reckonOwn : Cal yX0_reckonOwn cX0_reckonOwn 1 none 0 := ⟨tb_at 111 (by decide +kernel) (by decide +kernel), tb_at 545 (by decide +kernel) (by decide +kernel), by decide +kernel, by decide +kernel, by decide +kernel⟩
theorem cwi_X0_reckonOwn : Cond.instanceMethod yX0_reckonOwn ∈ tb := tb_at 543 (by decide +kernel) (by decide +kernel)
theorem cws_X0_reckonOwn : Cond.selects yX0_reckonOwn.cls yX0_reckonOwn yX0_reckonOwn ∈ tb := tb_at 544 (by decide +kernel) (by decide +kernel)
