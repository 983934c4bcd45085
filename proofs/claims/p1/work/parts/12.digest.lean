theorem mw_X4_finish_0 : Cond.fieldLink "GuardedTree$Digest" 23 "GuardedTree$Digest" "size" "I" ∈ tb := tb_at 160 (by decide +kernel) (by decide +kernel)
theorem mw_X4_finish_1 : Cond.fieldLink "GuardedTree$Digest" 13 "GuardedTree$Digest" "text" "[B" ∈ tb := tb_at 157 (by decide +kernel) (by decide +kernel)
theorem mw_X4_finish_2 : Cond.fieldLink "GuardedTree$Digest" 7 "GuardedTree$Digest" "state" "[I" ∈ tb := tb_at 154 (by decide +kernel) (by decide +kernel)
theorem mw_X4_finish_3 : Cond.fieldLink "GuardedTree$Digest" 48 "GuardedTree$Digest" "FIRST" "[I" ∈ tb := tb_at 527 (by decide +kernel) (by decide +kernel)
theorem mw_X4_finish_4 : Cond.methodLink "GuardedTree$Digest" 51 yX4_spread ∈ tb := tb_at 529 (by decide +kernel) (by decide +kernel)
theorem mw_X4_finish_5 : Cond.methodLink "GuardedTree$Digest" 54 yX4_mix ∈ tb := tb_at 533 (by decide +kernel) (by decide +kernel)
theorem dX4_finish_0 : decode cX4_finish 0 = .ok (.aload_n 0, 1) := by decide +kernel
theorem dX4_finish_1 : decode cX4_finish 1 = .ok (.getfield 23, 3) := by decide +kernel
theorem dX4_finish_4 : decode cX4_finish 4 = .ok (.bipush 9, 2) := by decide +kernel
theorem dX4_finish_6 : decode cX4_finish 6 = .ok (.iadd, 1) := by decide +kernel
theorem dX4_finish_7 : decode cX4_finish 7 = .ok (.bipush 64, 2) := by decide +kernel
theorem dX4_finish_9 : decode cX4_finish 9 = .ok (.iadd, 1) := by decide +kernel
theorem dX4_finish_10 : decode cX4_finish 10 = .ok (.iconst 1, 1) := by decide +kernel
theorem dX4_finish_11 : decode cX4_finish 11 = .ok (.isub, 1) := by decide +kernel
theorem dX4_finish_12 : decode cX4_finish 12 = .ok (.bipush 64, 2) := by decide +kernel
theorem dX4_finish_14 : decode cX4_finish 14 = .ok (.idiv, 1) := by decide +kernel
theorem dX4_finish_15 : decode cX4_finish 15 = .ok (.bipush 64, 2) := by decide +kernel
theorem dX4_finish_17 : decode cX4_finish 17 = .ok (.imul, 1) := by decide +kernel
theorem dX4_finish_18 : decode cX4_finish 18 = .ok (.istore_n 1, 1) := by decide +kernel
theorem dX4_finish_19 : decode cX4_finish 19 = .ok (.aload_n 0, 1) := by decide +kernel
theorem dX4_finish_20 : decode cX4_finish 20 = .ok (.getfield 23, 3) := by decide +kernel
theorem dX4_finish_23 : decode cX4_finish 23 = .ok (.istore_n 2, 1) := by decide +kernel
theorem dX4_finish_24 : decode cX4_finish 24 = .ok (.iload_n 2, 1) := by decide +kernel
theorem dX4_finish_25 : decode cX4_finish 25 = .ok (.iload_n 1, 1) := by decide +kernel
theorem dX4_finish_26 : decode cX4_finish 26 = .ok (.if_icmp .ge 16, 3) := by decide +kernel
theorem dX4_finish_29 : decode cX4_finish 29 = .ok (.aload_n 0, 1) := by decide +kernel
theorem dX4_finish_30 : decode cX4_finish 30 = .ok (.getfield 13, 3) := by decide +kernel
theorem dX4_finish_33 : decode cX4_finish 33 = .ok (.iload_n 2, 1) := by decide +kernel
theorem dX4_finish_34 : decode cX4_finish 34 = .ok (.iconst 0, 1) := by decide +kernel
theorem dX4_finish_35 : decode cX4_finish 35 = .ok (.bastore, 1) := by decide +kernel
theorem dX4_finish_36 : decode cX4_finish 36 = .ok (.iinc 2 1, 3) := by decide +kernel
theorem dX4_finish_39 : decode cX4_finish 39 = .ok (.goto (-15), 3) := by decide +kernel
theorem dX4_finish_42 : decode cX4_finish 42 = .ok (.aload_n 0, 1) := by decide +kernel
theorem dX4_finish_43 : decode cX4_finish 43 = .ok (.getfield 13, 3) := by decide +kernel
theorem dX4_finish_46 : decode cX4_finish 46 = .ok (.aload_n 0, 1) := by decide +kernel
theorem dX4_finish_47 : decode cX4_finish 47 = .ok (.getfield 23, 3) := by decide +kernel
theorem dX4_finish_50 : decode cX4_finish 50 = .ok (.bipush (-128), 2) := by decide +kernel
theorem dX4_finish_52 : decode cX4_finish 52 = .ok (.bastore, 1) := by decide +kernel
theorem dX4_finish_53 : decode cX4_finish 53 = .ok (.aload_n 0, 1) := by decide +kernel
theorem dX4_finish_54 : decode cX4_finish 54 = .ok (.getfield 23, 3) := by decide +kernel
theorem dX4_finish_57 : decode cX4_finish 57 = .ok (.bipush 8, 2) := by decide +kernel
theorem dX4_finish_59 : decode cX4_finish 59 = .ok (.imul, 1) := by decide +kernel
theorem dX4_finish_60 : decode cX4_finish 60 = .ok (.istore_n 2, 1) := by decide +kernel
theorem dX4_finish_61 : decode cX4_finish 61 = .ok (.aload_n 0, 1) := by decide +kernel
theorem dX4_finish_62 : decode cX4_finish 62 = .ok (.getfield 13, 3) := by decide +kernel
theorem dX4_finish_65 : decode cX4_finish 65 = .ok (.iload_n 1, 1) := by decide +kernel
theorem dX4_finish_66 : decode cX4_finish 66 = .ok (.iconst 2, 1) := by decide +kernel
theorem dX4_finish_67 : decode cX4_finish 67 = .ok (.isub, 1) := by decide +kernel
theorem dX4_finish_68 : decode cX4_finish 68 = .ok (.iload_n 2, 1) := by decide +kernel
theorem dX4_finish_69 : decode cX4_finish 69 = .ok (.bipush 8, 2) := by decide +kernel
theorem dX4_finish_71 : decode cX4_finish 71 = .ok (.iushr, 1) := by decide +kernel
theorem dX4_finish_72 : decode cX4_finish 72 = .ok (.i2b, 1) := by decide +kernel
theorem dX4_finish_73 : decode cX4_finish 73 = .ok (.bastore, 1) := by decide +kernel
theorem dX4_finish_74 : decode cX4_finish 74 = .ok (.aload_n 0, 1) := by decide +kernel
theorem dX4_finish_75 : decode cX4_finish 75 = .ok (.getfield 13, 3) := by decide +kernel
theorem dX4_finish_78 : decode cX4_finish 78 = .ok (.iload_n 1, 1) := by decide +kernel
theorem dX4_finish_79 : decode cX4_finish 79 = .ok (.iconst 1, 1) := by decide +kernel
theorem dX4_finish_80 : decode cX4_finish 80 = .ok (.isub, 1) := by decide +kernel
theorem dX4_finish_81 : decode cX4_finish 81 = .ok (.iload_n 2, 1) := by decide +kernel
theorem dX4_finish_82 : decode cX4_finish 82 = .ok (.i2b, 1) := by decide +kernel
theorem dX4_finish_83 : decode cX4_finish 83 = .ok (.bastore, 1) := by decide +kernel
theorem dX4_finish_84 : decode cX4_finish 84 = .ok (.iconst 0, 1) := by decide +kernel
theorem dX4_finish_85 : decode cX4_finish 85 = .ok (.istore_n 3, 1) := by decide +kernel
theorem dX4_finish_86 : decode cX4_finish 86 = .ok (.iload_n 3, 1) := by decide +kernel
theorem dX4_finish_87 : decode cX4_finish 87 = .ok (.aload_n 0, 1) := by decide +kernel
theorem dX4_finish_88 : decode cX4_finish 88 = .ok (.getfield 7, 3) := by decide +kernel
theorem dX4_finish_91 : decode cX4_finish 91 = .ok (.arraylength, 1) := by decide +kernel
theorem dX4_finish_92 : decode cX4_finish 92 = .ok (.if_icmp .ge 20, 3) := by decide +kernel
theorem dX4_finish_95 : decode cX4_finish 95 = .ok (.aload_n 0, 1) := by decide +kernel
theorem dX4_finish_96 : decode cX4_finish 96 = .ok (.getfield 7, 3) := by decide +kernel
theorem dX4_finish_99 : decode cX4_finish 99 = .ok (.iload_n 3, 1) := by decide +kernel
theorem dX4_finish_100 : decode cX4_finish 100 = .ok (.getstatic 48, 3) := by decide +kernel
theorem dX4_finish_103 : decode cX4_finish 103 = .ok (.iload_n 3, 1) := by decide +kernel
theorem dX4_finish_104 : decode cX4_finish 104 = .ok (.iaload, 1) := by decide +kernel
theorem dX4_finish_105 : decode cX4_finish 105 = .ok (.iastore, 1) := by decide +kernel
theorem dX4_finish_106 : decode cX4_finish 106 = .ok (.iinc 3 1, 3) := by decide +kernel
theorem dX4_finish_109 : decode cX4_finish 109 = .ok (.goto (-23), 3) := by decide +kernel
theorem dX4_finish_112 : decode cX4_finish 112 = .ok (.iconst 0, 1) := by decide +kernel
theorem dX4_finish_113 : decode cX4_finish 113 = .ok (.istore_n 3, 1) := by decide +kernel
theorem dX4_finish_114 : decode cX4_finish 114 = .ok (.iload_n 3, 1) := by decide +kernel
theorem dX4_finish_115 : decode cX4_finish 115 = .ok (.iload_n 1, 1) := by decide +kernel
theorem dX4_finish_116 : decode cX4_finish 116 = .ok (.if_icmp .ge 18, 3) := by decide +kernel
theorem dX4_finish_119 : decode cX4_finish 119 = .ok (.aload_n 0, 1) := by decide +kernel
theorem dX4_finish_120 : decode cX4_finish 120 = .ok (.iload_n 3, 1) := by decide +kernel
theorem dX4_finish_121 : decode cX4_finish 121 = .ok (.invokevirtual 51, 3) := by decide +kernel
theorem dX4_finish_124 : decode cX4_finish 124 = .ok (.aload_n 0, 1) := by decide +kernel
theorem dX4_finish_125 : decode cX4_finish 125 = .ok (.invokevirtual 54, 3) := by decide +kernel
theorem dX4_finish_128 : decode cX4_finish 128 = .ok (.iinc 3 64, 3) := by decide +kernel
theorem dX4_finish_131 : decode cX4_finish 131 = .ok (.goto (-17), 3) := by decide +kernel
theorem dX4_finish_134 : decode cX4_finish 134 = .ok (.return_, 1) := by decide +kernel
noncomputable def X4_finish_l114 (y4 : Int32) (v_size : Nat) (n1 : Nat) (t24_2 : (Nat → Int32)) (n5 : Nat) (k114_8 : Nat) (t114_8 : (Nat → Int32) × (Nat → Int32)) : (Nat → Int32) × (Nat → Int32) :=
  let u11 := f_X4_spread t114_8.2 (upd (upd (upd t24_2 v_size (b8 y4)) (n1 - 2) (b8 (ur32 (nI n5) 8))) (n1 - 1) (b8 (nI n5))) (k114_8 * 64)
  let u13 := f_X4_mix t114_8.1 u11
  (u13, u11)
noncomputable def X4_finish_l86  (k86_6 : Nat) (t86_6 : (Nat → Int32)) : (Nat → Int32) :=
  let y16 := tab_Digest_FIRST.getD k86_6 0
  upd t86_6 k86_6 y16
noncomputable def X4_finish_l24 (v_size : Nat) (k24_2 : Nat) (t24_2 : (Nat → Int32)) : (Nat → Int32) :=
  upd t24_2 (v_size + k24_2) (nI 0)
noncomputable def f_X4_finish (v_size : Nat) (f_text : Nat → Int32) (f_state : Nat → Int32) (f_w : Nat → Int32) : (Nat → Int32) × (Nat → Int32) × (Nat → Int32) :=
  let n1 := (((v_size + 9 + 64) - 1) / 64) * 64
  let t24_2 := itr (X4_finish_l24 v_size) f_text (n1 - v_size)
  let y4 := (-128)
  let n5 := v_size * 8
  let t86_6 := itr X4_finish_l86 f_state 8
  let t114_8 := itr (X4_finish_l114 y4 v_size n1 t24_2 n5) ((t86_6, f_w)) (n1 / 64)
  (t114_8.1, upd (upd (upd t24_2 v_size (b8 y4)) (n1 - 2) (b8 (ur32 (nI n5) 8))) (n1 - 1) (b8 (nI n5)), t114_8.2)
set_option maxHeartbeats 4000000 in
set_option maxRecDepth 100000 in
theorem c_X4_finish (l : Launch) (D : va_G) (ct : Nat → ClassId) (ts : Nat → Nat) (a_this a_this_text a_this_state a_this_w a_this_inner : Nat) (v_size : Nat) (f_text : Nat → Int32) (f_state : Nat → Int32) (f_w : Nat → Int32)  (h_sz : v_size ≤ 247)  (sz : Nat) : Met l yX4_finish (Cond.code yX4_finish cX4_finish 4 none :: tb) { frames := 1, cells := 0, slots := 0, locals := 33 } (PcG D ct SXL ts [.ref a_this] [(a_this, .inr (4, [.ref a_this_state, .ref a_this_text, .ref a_this_w, .ref a_this_inner, .int (nI v_size)])), (a_this_text, .inl (ct 1, 256, .inl f_text)), (a_this_state, .inl (ct 0, 8, .inl f_state)), (a_this_w, .inl (ct 0, 64, .inl f_w))] sz) (va_Qv (fun u : (Nat → Int32) × (Nat → Int32) × (Nat → Int32) => u = f_X4_finish v_size f_text f_state f_w) (fun u => BG D ct (va_A [(a_this, .inr (4, [.ref a_this_state, .ref a_this_text, .ref a_this_w, .ref a_this_inner, .int (nI v_size)])), (a_this_text, .inl (ct 1, 256, .inl f_text)), (a_this_state, .inl (ct 0, 8, .inl f_state)), (a_this_w, .inl (ct 0, 64, .inl f_w))] sz) [(a_this, .inr (4, [.ref a_this_state, .ref a_this_text, .ref a_this_w, .ref a_this_inner, .int (nI v_size)])), (a_this_text, .inl (ct 1, 256, .inl u.2.1)), (a_this_state, .inl (ct 0, 8, .inl u.1)), (a_this_w, .inl (ct 0, 64, .inl u.2.2))]) (va_A [(a_this, .inr (4, [.ref a_this_state, .ref a_this_text, .ref a_this_w, .ref a_this_inner, .int (nI v_size)])), (a_this_text, .inl (ct 1, 256, .inl f_text)), (a_this_state, .inl (ct 0, 8, .inl f_state)), (a_this_w, .inl (ct 0, 64, .inl f_w))] sz)) 0 0 (va_A [(a_this, .inr (4, [.ref a_this_state, .ref a_this_text, .ref a_this_w, .ref a_this_inner, .int (nI v_size)])), (a_this_text, .inl (ct 1, 256, .inl f_text)), (a_this_state, .inl (ct 0, 8, .inl f_state)), (a_this_w, .inl (ct 0, 64, .inl f_w))] sz) := by
  refine metJ (QcF := fun A => va_Qv (fun u : (Nat → Int32) × (Nat → Int32) × (Nat → Int32) => u = f_X4_finish v_size f_text f_state f_w) (fun u => BG D ct A [(a_this, .inr (4, [.ref a_this_state, .ref a_this_text, .ref a_this_w, .ref a_this_inner, .int (nI v_size)])), (a_this_text, .inl (ct 1, 256, .inl u.2.1)), (a_this_state, .inl (ct 0, 8, .inl u.1)), (a_this_w, .inl (ct 0, 64, .inl u.2.2))]) A) (by decide) (Nat.le_of_ble_eq_true rfl) ?_
  intro p e s m below meth c A X hnm
  obtain ⟨Q, hQ⟩ : ∃ Q, Q = MQ below (va_Qv (fun u : (Nat → Int32) × (Nat → Int32) × (Nat → Int32) => u = f_X4_finish v_size f_text f_state f_w) (fun u => BG D ct A [(a_this, .inr (4, [.ref a_this_state, .ref a_this_text, .ref a_this_w, .ref a_this_inner, .int (nI v_size)])), (a_this_text, .inl (ct 1, 256, .inl u.2.1)), (a_this_state, .inl (ct 0, 8, .inl u.1)), (a_this_w, .inl (ct 0, 64, .inl u.2.2))]) A) [.ref a_this].toArray s 0 0 A := ⟨_, rfl⟩
  rw [← hQ]
  refine j_lve (lv' := [(0, .ref a_this)]) rfl ?_
  refine j_aload_n X 0 dX4_finish_0 rfl (q := 1) rfl ?_
  refine j_get (f := 4) X 0 inT4 rfl rfl (by decide) mw_X4_finish_0 rfl dX4_finish_1 (q := 4) rfl ?_
  refine j_bipush (v := nI 9) X dX4_finish_4 (by decide) (q := 6) rfl ?_
  refine j_iadd X dX4_finish_6 (q := 7) rfl ?_
  refine j_eqi (nI_add _ _) ?_
  refine j_bipush (v := nI 64) X dX4_finish_7 (by decide) (q := 9) rfl ?_
  refine j_iadd X dX4_finish_9 (q := 10) rfl ?_
  refine j_eqi (nI_add _ _) ?_
  refine j_iconst (v := nI 1) X dX4_finish_10 (by decide) (q := 11) rfl ?_
  refine j_isub X dX4_finish_11 (q := 12) rfl ?_
  refine j_eqi (pk_sub (by omega)) ?_
  refine j_bipush (v := nI 64) X dX4_finish_12 (by decide) (q := 14) rfl ?_
  refine j_idiv X dX4_finish_14 (by decide) (q := 15) rfl ?_
  refine j_eqi (pk_div (by omega) (by omega) (by omega)) ?_
  refine j_bipush (v := nI 64) X dX4_finish_15 (by decide) (q := 17) rfl ?_
  refine j_imul X dX4_finish_17 (q := 18) rfl ?_
  refine j_eqi (pk_mul _ _) ?_
  refine j_topn (fun n1 e_n1 => ?_)
  refine j_istore_n (lv' := [(1, .int (nI n1)), (0, .ref a_this)]) X dX4_finish_18 (by decide) rfl (q := 19) rfl ?_
  refine j_aload_n X 1 dX4_finish_19 rfl (q := 20) rfl ?_
  refine j_get (f := 4) X 0 inT4 rfl rfl (by decide) mw_X4_finish_0 rfl dX4_finish_20 (q := 23) rfl ?_
  refine j_istore_n (lv' := [(2, .int (nI v_size)), (1, .int (nI n1)), (0, .ref a_this)]) X dX4_finish_23 (by decide) rfl (q := 24) rfl ?_
  refine j_lv (lv' := [(0, .ref a_this), (1, .int (nI n1)), (2, .int (nI v_size))]) [2, 1, 0] rfl ?_
  have LP24_2 : ∀ (r24_2 k24_2 : Nat) (t24_2 : (Nat → Int32)), k24_2 + r24_2 = n1 - v_size → t24_2 = itr (X4_finish_l24 v_size) f_text k24_2 → J p l e { frames := 1, cells := 0, slots := 0, locals := 33 } s m [.ref a_this].toArray below meth c D A 4 Q 0 0 [(a_this, .inr (4, [.ref a_this_state, .ref a_this_text, .ref a_this_w, .ref a_this_inner, .int (nI v_size)])), (a_this_text, .inl (ct 1, 256, .inl t24_2)), (a_this_state, .inl (ct 0, 8, .inl f_state)), (a_this_w, .inl (ct 0, 64, .inl f_w))] [(0, .ref a_this), (1, .int (nI n1)), (2, .int (nI (v_size + k24_2)))] [] 24 := by
    intro r24_2
    induction r24_2 with
    | zero =>
      intro k24_2 t24_2 hk_t24_2 e_t24_2 
      have hkk_t24_2 : n1 - v_size = k24_2 := by omega
      subst hkk_t24_2
      refine j_iload_n X 2 dX4_finish_24 rfl (q := 25) rfl ?_
      refine j_iload_n X 1 dX4_finish_25 rfl (q := 26) rfl ?_
      refine j_icmp_ge (tgt := 42) X dX4_finish_26 (by decide) (q := 29) rfl (fun c3 => ?_) (fun c3 => ?_)
      · skip
        have c3 : n1 ≤ v_size + (n1 - v_size) := (nI_leI (by omega) (by omega)).mp c3
        refine j_aload_n X 0 dX4_finish_42 rfl (q := 43) rfl ?_
        refine j_get (f := 1) X 0 inT4 rfl rfl (by decide) mw_X4_finish_1 rfl dX4_finish_43 (q := 46) rfl ?_
        refine j_aload_n X 0 dX4_finish_46 rfl (q := 47) rfl ?_
        refine j_get (f := 4) X 0 inT4 rfl rfl (by decide) mw_X4_finish_0 rfl dX4_finish_47 (q := 50) rfl ?_
        refine j_bipush (v := -128) X dX4_finish_50 (by decide) (q := 52) rfl ?_
        refine j_topi (fun y4 e_y4 => ?_)
        refine k_bast (ws2 := [(a_this, .inr (4, [.ref a_this_state, .ref a_this_text, .ref a_this_w, .ref a_this_inner, .int (nI v_size)])), (a_this_text, .inl (ct 1, 256, .inl (upd t24_2 v_size (b8 y4)))), (a_this_state, .inl (ct 0, 8, .inl f_state)), (a_this_w, .inl (ct 0, 64, .inl f_w))]) X 1 rfl (vp_in_nI (by omega) (by omega)) (nI_clamp (by omega)) (vp_nar_byte _) dX4_finish_52 rfl (q := 53) rfl ?_
        refine j_aload_n X 0 dX4_finish_53 rfl (q := 54) rfl ?_
        refine j_get (f := 4) X 0 inT4 rfl rfl (by decide) mw_X4_finish_0 rfl dX4_finish_54 (q := 57) rfl ?_
        refine j_bipush (v := nI 8) X dX4_finish_57 (by decide) (q := 59) rfl ?_
        refine j_imul X dX4_finish_59 (q := 60) rfl ?_
        refine j_eqi (pk_mul _ _) ?_
        refine j_topn (fun n5 e_n5 => ?_)
        refine j_istore_n (lv' := [(2, .int (nI n5)), (0, .ref a_this), (1, .int (nI n1))]) X dX4_finish_60 (by decide) rfl (q := 61) rfl ?_
        refine j_aload_n X 1 dX4_finish_61 rfl (q := 62) rfl ?_
        refine j_get (f := 1) X 0 inT4 rfl rfl (by decide) mw_X4_finish_1 rfl dX4_finish_62 (q := 65) rfl ?_
        refine j_iload_n X 2 dX4_finish_65 rfl (q := 66) rfl ?_
        refine j_iconst (v := nI 2) X dX4_finish_66 (by decide) (q := 67) rfl ?_
        refine j_isub X dX4_finish_67 (q := 68) rfl ?_
        refine j_eqi (pk_sub (by omega)) ?_
        refine j_iload_n X 0 dX4_finish_68 rfl (q := 69) rfl ?_
        refine j_bipush (v := nI 8) X dX4_finish_69 (by decide) (q := 71) rfl ?_
        refine j_iushr X dX4_finish_71 (q := 72) rfl ?_
        refine j_eqi (show _ = ur32 (nI n5) 8 from rfl) ?_
        refine j_i2b X dX4_finish_72 (q := 73) rfl ?_
        refine j_eqi (show _ = b8 (ur32 (nI n5) 8) from rfl) ?_
        refine k_bast (ws2 := [(a_this, .inr (4, [.ref a_this_state, .ref a_this_text, .ref a_this_w, .ref a_this_inner, .int (nI v_size)])), (a_this_text, .inl (ct 1, 256, .inl (upd (upd t24_2 v_size (b8 y4)) (n1 - 2) (b8 (ur32 (nI n5) 8))))), (a_this_state, .inl (ct 0, 8, .inl f_state)), (a_this_w, .inl (ct 0, 64, .inl f_w))]) X 1 rfl (vp_in_nI (by omega) (by omega)) (nI_clamp (by omega)) (pk_vb _) dX4_finish_73 rfl (q := 74) rfl ?_
        refine j_aload_n X 1 dX4_finish_74 rfl (q := 75) rfl ?_
        refine j_get (f := 1) X 0 inT4 rfl rfl (by decide) mw_X4_finish_1 rfl dX4_finish_75 (q := 78) rfl ?_
        refine j_iload_n X 2 dX4_finish_78 rfl (q := 79) rfl ?_
        refine j_iconst (v := nI 1) X dX4_finish_79 (by decide) (q := 80) rfl ?_
        refine j_isub X dX4_finish_80 (q := 81) rfl ?_
        refine j_eqi (pk_sub (by omega)) ?_
        refine j_iload_n X 0 dX4_finish_81 rfl (q := 82) rfl ?_
        refine j_i2b X dX4_finish_82 (q := 83) rfl ?_
        refine j_eqi (show _ = b8 (nI n5) from rfl) ?_
        refine k_bast (ws2 := [(a_this, .inr (4, [.ref a_this_state, .ref a_this_text, .ref a_this_w, .ref a_this_inner, .int (nI v_size)])), (a_this_text, .inl (ct 1, 256, .inl (upd (upd (upd t24_2 v_size (b8 y4)) (n1 - 2) (b8 (ur32 (nI n5) 8))) (n1 - 1) (b8 (nI n5))))), (a_this_state, .inl (ct 0, 8, .inl f_state)), (a_this_w, .inl (ct 0, 64, .inl f_w))]) X 1 rfl (vp_in_nI (by omega) (by omega)) (nI_clamp (by omega)) (pk_vb _) dX4_finish_83 rfl (q := 84) rfl ?_
        refine j_iconst (v := nI 0) X dX4_finish_84 (by decide) (q := 85) rfl ?_
        refine j_istore_n (lv' := [(3, .int (nI 0)), (2, .int (nI n5)), (0, .ref a_this), (1, .int (nI n1))]) X dX4_finish_85 (by decide) rfl (q := 86) rfl ?_
        refine j_lv (lv' := [(0, .ref a_this), (1, .int (nI n1)), (2, .int (nI n5)), (3, .int (nI 0))]) [2, 3, 1, 0] rfl ?_
        have LP86_6 : ∀ (r86_6 k86_6 : Nat) (t86_6 : (Nat → Int32)), k86_6 + r86_6 = 8 → t86_6 = itr X4_finish_l86 f_state k86_6 → J p l e { frames := 1, cells := 0, slots := 0, locals := 33 } s m [.ref a_this].toArray below meth c D A 4 Q 0 0 [(a_this, .inr (4, [.ref a_this_state, .ref a_this_text, .ref a_this_w, .ref a_this_inner, .int (nI v_size)])), (a_this_text, .inl (ct 1, 256, .inl (upd (upd (upd t24_2 v_size (b8 y4)) (n1 - 2) (b8 (ur32 (nI n5) 8))) (n1 - 1) (b8 (nI n5))))), (a_this_state, .inl (ct 0, 8, .inl t86_6)), (a_this_w, .inl (ct 0, 64, .inl f_w))] [(0, .ref a_this), (1, .int (nI n1)), (2, .int (nI n5)), (3, .int (nI k86_6))] [] 86 := by
          intro r86_6
          induction r86_6 with
          | zero =>
            intro k86_6 t86_6 hk_t86_6 e_t86_6 
            have hkk_t86_6 : 8 = k86_6 := by omega
            subst hkk_t86_6
            refine j_iload_n X 3 dX4_finish_86 rfl (q := 87) rfl ?_
            refine j_aload_n X 0 dX4_finish_87 rfl (q := 88) rfl ?_
            refine j_get (f := 0) X 0 inT4 rfl rfl (by decide) mw_X4_finish_2 rfl dX4_finish_88 (q := 91) rfl ?_
            refine j_alen X 2 0 rfl rfl dX4_finish_91 (q := 92) rfl ?_
            refine j_icmp_ge (tgt := 112) X dX4_finish_92 (by decide) (q := 95) rfl (fun c7 => ?_) (fun c7 => ?_)
            · skip
              have c7 : 8 ≤ 8 := (nI_leI (by omega) (by omega)).mp c7
              refine j_iconst (v := nI 0) X dX4_finish_112 (by decide) (q := 113) rfl ?_
              refine j_istore_n (lv' := [(3, .int (nI 0)), (0, .ref a_this), (1, .int (nI n1)), (2, .int (nI n5))]) X dX4_finish_113 (by decide) rfl (q := 114) rfl ?_
              refine j_lv (lv' := [(0, .ref a_this), (1, .int (nI n1)), (2, .int (nI n5)), (3, .int (nI 0))]) [1, 2, 3, 0] rfl ?_
              have LP114_8 : ∀ (r114_8 k114_8 : Nat) (t114_8 : (Nat → Int32) × (Nat → Int32)), k114_8 + r114_8 = n1 / 64 → t114_8 = itr (X4_finish_l114 y4 v_size n1 t24_2 n5) ((t86_6, f_w)) k114_8 → J p l e { frames := 1, cells := 0, slots := 0, locals := 33 } s m [.ref a_this].toArray below meth c D A 4 Q 0 0 [(a_this, .inr (4, [.ref a_this_state, .ref a_this_text, .ref a_this_w, .ref a_this_inner, .int (nI v_size)])), (a_this_text, .inl (ct 1, 256, .inl (upd (upd (upd t24_2 v_size (b8 y4)) (n1 - 2) (b8 (ur32 (nI n5) 8))) (n1 - 1) (b8 (nI n5))))), (a_this_state, .inl (ct 0, 8, .inl t114_8.1)), (a_this_w, .inl (ct 0, 64, .inl t114_8.2))] [(0, .ref a_this), (1, .int (nI n1)), (2, .int (nI n5)), (3, .int (nI (k114_8 * 64)))] [] 114 := by
                intro r114_8
                induction r114_8 with
                | zero =>
                  intro k114_8 t114_8 hk_t114_8 e_t114_8 
                  have hkk_t114_8 : n1 / 64 = k114_8 := by omega
                  subst hkk_t114_8
                  refine j_iload_n X 3 dX4_finish_114 rfl (q := 115) rfl ?_
                  refine j_iload_n X 1 dX4_finish_115 rfl (q := 116) rfl ?_
                  refine j_icmp_ge (tgt := 134) X dX4_finish_116 (by decide) (q := 119) rfl (fun c9 => ?_) (fun c9 => ?_)
                  · skip
                    have c9 : n1 ≤ (n1 / 64) * 64 := (nI_leI (by omega) (by omega)).mp c9
                    rw [hQ]
                    exact j_vret X ((t114_8.1, upd (upd (upd t24_2 v_size (b8 y4)) (n1 - 2) (b8 (ur32 (nI n5) 8))) (n1 - 1) (b8 (nI n5)), t114_8.2)) dX4_finish_134 (by subst e_n1; subst e_t24_2; subst e_y4; subst e_n5; subst e_t86_6; subst e_t114_8; rfl) rfl
                  · skip
                    have c9 : ¬ n1 ≤ (n1 / 64) * 64 := fun h => c9 ((nI_leI (by omega) (by omega)).mpr h)
                    exfalso; omega
                | succ r114_8 ih114_8 =>
                  intro k114_8 t114_8 hk_t114_8 e_t114_8 
                  refine j_iload_n X 3 dX4_finish_114 rfl (q := 115) rfl ?_
                  refine j_iload_n X 1 dX4_finish_115 rfl (q := 116) rfl ?_
                  refine j_icmp_ge (tgt := 134) X dX4_finish_116 (by decide) (q := 119) rfl (fun c10 => ?_) (fun c10 => ?_)
                  · skip
                    have c10 : n1 ≤ k114_8 * 64 := (nI_leI (by omega) (by omega)).mp c10
                    exfalso; omega
                  · skip
                    have c10 : ¬ n1 ≤ k114_8 * 64 := fun h => c10 ((nI_leI (by omega) (by omega)).mpr h)
                    refine j_aload_n X 0 dX4_finish_119 rfl (q := 120) rfl ?_
                    refine j_iload_n X 3 dX4_finish_120 rfl (q := 121) rfl ?_
                    refine j_callVv (As := [.int (nI (k114_8 * 64))]) (rest := []) (wn := (fun u11 => [(a_this, .inr (4, [.ref a_this_state, .ref a_this_text, .ref a_this_w, .ref a_this_inner, .int (nI v_size)])), (a_this_text, .inl (ct 1, 256, .inl (upd (upd (upd t24_2 v_size (b8 y4)) (n1 - 2) (b8 (ur32 (nI n5) 8))) (n1 - 1) (b8 (nI n5))))), (a_this_state, .inl (ct 0, 8, .inl t114_8.1)), (a_this_w, .inl (ct 0, 64, .inl u11))])) (wr := [(a_this_state, .inl (ct 0, 8, .inl t114_8.1))]) X (fun sz => c_X4_spread l D ct ts a_this a_this_w a_this_text a_this_state a_this_inner v_size t114_8.2 (upd (upd (upd t24_2 v_size (b8 y4)) (n1 - 2) (b8 (ur32 (nI n5) 8))) (n1 - 1) (b8 (nI n5))) (k114_8 * 64) (by first | omega | assumption) sz) cal_X4_spread 0 rfl rfl mw_X4_finish_4 cwi_X4_spread cws_X4_spread rfl ⟨by decide, by decide⟩ rfl rfl (Nat.le_of_ble_eq_true rfl) ⟨by decide, by decide⟩ [0, 3, 1] [2] [1, 3, 0, 2] rfl (by decide) rfl (by decide) (by decide) (fun _ => rfl) (by decide) dX4_finish_121 (q := 124) rfl (fun u11 hu11 => ?_)
                    refine j_aload_n X 0 dX4_finish_124 rfl (q := 125) rfl ?_
                    refine j_callVv (As := []) (rest := []) (wn := (fun u13 => [(a_this, .inr (4, [.ref a_this_state, .ref a_this_text, .ref a_this_w, .ref a_this_inner, .int (nI v_size)])), (a_this_text, .inl (ct 1, 256, .inl (upd (upd (upd t24_2 v_size (b8 y4)) (n1 - 2) (b8 (ur32 (nI n5) 8))) (n1 - 1) (b8 (nI n5))))), (a_this_state, .inl (ct 0, 8, .inl u13)), (a_this_w, .inl (ct 0, 64, .inl u11))])) (wr := [(a_this_text, .inl (ct 1, 256, .inl (upd (upd (upd t24_2 v_size (b8 y4)) (n1 - 2) (b8 (ur32 (nI n5) 8))) (n1 - 1) (b8 (nI n5)))))]) X (fun sz => c_X4_mix l D ct ts a_this a_this_state a_this_w a_this_text a_this_inner v_size t114_8.1 u11  sz) cal_X4_mix 0 rfl rfl mw_X4_finish_5 cwi_X4_mix cws_X4_mix rfl ⟨by decide, by decide⟩ rfl rfl (Nat.le_of_ble_eq_true rfl) ⟨by decide, by decide⟩ [0, 2, 3] [1] [1, 0, 2, 3] rfl (by decide) rfl (by decide) (by decide) (fun _ => rfl) (by decide) dX4_finish_125 (q := 128) rfl (fun u13 hu13 => ?_)
                    refine j_iinc (v := nI ((k114_8 * 64) + 64)) (lv' := [(3, .int (nI ((k114_8 * 64) + 64))), (0, .ref a_this), (1, .int (nI n1)), (2, .int (nI n5))]) X 3 dX4_finish_128 rfl (nI_inc _ 64) (by decide) rfl (q := 131) rfl ?_
                    refine j_goto (tgt := 114) X dX4_finish_131 (by decide) ?_
                    refine j_lv (lv' := [(0, .ref a_this), (1, .int (nI n1)), (2, .int (nI n5)), (3, .int (nI ((k114_8 * 64) + 64)))]) [1, 2, 3, 0] rfl ?_
                    have hb : (X4_finish_l114 y4 v_size n1 t24_2 n5) k114_8 t114_8 = (u13, u11) := (by subst hu11; subst hu13; rfl)
                    rw [show (k114_8 * 64) + 64 = (k114_8 + 1) * 64 from by omega]
                    exact ih114_8 (k114_8 + 1) ((u13, u11)) (by omega) (by rw [itr_s, ← e_t114_8]; exact hb.symm) 
              exact LP114_8 (n1 / 64) 0 ((t86_6, f_w)) (by omega) (itr_0 _ _).symm 
            · skip
              have c7 : ¬ 8 ≤ 8 := fun h => c7 ((nI_leI (by omega) (by omega)).mpr h)
              exfalso; omega
          | succ r86_6 ih86_6 =>
            intro k86_6 t86_6 hk_t86_6 e_t86_6 
            refine j_iload_n X 3 dX4_finish_86 rfl (q := 87) rfl ?_
            refine j_aload_n X 0 dX4_finish_87 rfl (q := 88) rfl ?_
            refine j_get (f := 0) X 0 inT4 rfl rfl (by decide) mw_X4_finish_2 rfl dX4_finish_88 (q := 91) rfl ?_
            refine j_alen X 2 0 rfl rfl dX4_finish_91 (q := 92) rfl ?_
            refine j_icmp_ge (tgt := 112) X dX4_finish_92 (by decide) (q := 95) rfl (fun c15 => ?_) (fun c15 => ?_)
            · skip
              have c15 : 8 ≤ k86_6 := (nI_leI (by omega) (by omega)).mp c15
              exfalso; omega
            · skip
              have c15 : ¬ 8 ≤ k86_6 := fun h => c15 ((nI_leI (by omega) (by omega)).mpr h)
              refine j_aload_n X 0 dX4_finish_95 rfl (q := 96) rfl ?_
              refine j_get (f := 0) X 0 inT4 rfl rfl (by decide) mw_X4_finish_2 rfl dX4_finish_96 (q := 99) rfl ?_
              refine j_iload_n X 3 dX4_finish_99 rfl (q := 100) rfl ?_
              refine j_gets X 10 (show SXL[10]? = _ from rfl) mw_X4_finish_3 dX4_finish_100 (q := 103) rfl ?_
              refine j_iload_n X 3 dX4_finish_103 rfl (q := 104) rfl ?_
              refine k_ti X 10 (show SXL[10]? = _ from rfl) (vp_in_nI (by omega) (by omega)) (nI_clamp (by omega)) dX4_finish_104 (q := 105) rfl ?_
              refine j_topi (fun y16 e_y16 => ?_)
              refine k_iast (ws2 := [(a_this, .inr (4, [.ref a_this_state, .ref a_this_text, .ref a_this_w, .ref a_this_inner, .int (nI v_size)])), (a_this_text, .inl (ct 1, 256, .inl (upd (upd (upd t24_2 v_size (b8 y4)) (n1 - 2) (b8 (ur32 (nI n5) 8))) (n1 - 1) (b8 (nI n5))))), (a_this_state, .inl (ct 0, 8, .inl (upd t86_6 k86_6 y16))), (a_this_w, .inl (ct 0, 64, .inl f_w))]) X 2 rfl (vp_in_nI (by omega) (by omega)) (nI_clamp (by omega)) dX4_finish_105 rfl (q := 106) rfl ?_
              refine j_iinc (v := nI (k86_6 + 1)) (lv' := [(3, .int (nI (k86_6 + 1))), (0, .ref a_this), (1, .int (nI n1)), (2, .int (nI n5))]) X 3 dX4_finish_106 rfl (nI_inc _ 1) (by decide) rfl (q := 109) rfl ?_
              refine j_goto (tgt := 86) X dX4_finish_109 (by decide) ?_
              refine j_lv (lv' := [(0, .ref a_this), (1, .int (nI n1)), (2, .int (nI n5)), (3, .int (nI (k86_6 + 1)))]) [1, 2, 3, 0] rfl ?_
              have hb : X4_finish_l86 k86_6 t86_6 = upd t86_6 k86_6 y16 := (by subst e_y16; rfl)
              exact ih86_6 (k86_6 + 1) (upd t86_6 k86_6 y16) (by omega) (by rw [itr_s, ← e_t86_6]; exact hb.symm) 
        exact LP86_6 8 0 f_state (by omega) (itr_0 _ _).symm 
      · skip
        have c3 : ¬ n1 ≤ v_size + (n1 - v_size) := fun h => c3 ((nI_leI (by omega) (by omega)).mpr h)
        exfalso; omega
    | succ r24_2 ih24_2 =>
      intro k24_2 t24_2 hk_t24_2 e_t24_2 
      refine j_iload_n X 2 dX4_finish_24 rfl (q := 25) rfl ?_
      refine j_iload_n X 1 dX4_finish_25 rfl (q := 26) rfl ?_
      refine j_icmp_ge (tgt := 42) X dX4_finish_26 (by decide) (q := 29) rfl (fun c17 => ?_) (fun c17 => ?_)
      · skip
        have c17 : n1 ≤ v_size + k24_2 := (nI_leI (by omega) (by omega)).mp c17
        exfalso; omega
      · skip
        have c17 : ¬ n1 ≤ v_size + k24_2 := fun h => c17 ((nI_leI (by omega) (by omega)).mpr h)
        refine j_aload_n X 0 dX4_finish_29 rfl (q := 30) rfl ?_
        refine j_get (f := 1) X 0 inT4 rfl rfl (by decide) mw_X4_finish_1 rfl dX4_finish_30 (q := 33) rfl ?_
        refine j_iload_n X 2 dX4_finish_33 rfl (q := 34) rfl ?_
        refine j_iconst (v := nI 0) X dX4_finish_34 (by decide) (q := 35) rfl ?_
        refine k_bast (ws2 := [(a_this, .inr (4, [.ref a_this_state, .ref a_this_text, .ref a_this_w, .ref a_this_inner, .int (nI v_size)])), (a_this_text, .inl (ct 1, 256, .inl (upd t24_2 (v_size + k24_2) (nI 0)))), (a_this_state, .inl (ct 0, 8, .inl f_state)), (a_this_w, .inl (ct 0, 64, .inl f_w))]) X 1 rfl (vp_in_nI (by omega) (by omega)) (nI_clamp (by omega)) (show vp_nar .byte (nI 0) = (nI 0) from by decide) dX4_finish_35 rfl (q := 36) rfl ?_
        refine j_iinc (v := nI (v_size + k24_2 + 1)) (lv' := [(2, .int (nI (v_size + k24_2 + 1))), (0, .ref a_this), (1, .int (nI n1))]) X 2 dX4_finish_36 rfl (nI_inc _ 1) (by decide) rfl (q := 39) rfl ?_
        refine j_goto (tgt := 24) X dX4_finish_39 (by decide) ?_
        refine j_lv (lv' := [(0, .ref a_this), (1, .int (nI n1)), (2, .int (nI (v_size + k24_2 + 1)))]) [1, 2, 0] rfl ?_
        have hb : (X4_finish_l24 v_size) k24_2 t24_2 = upd t24_2 (v_size + k24_2) (nI 0) := rfl
        exact ih24_2 (k24_2 + 1) (upd t24_2 (v_size + k24_2) (nI 0)) (by omega) (by rw [itr_s, ← e_t24_2]; exact hb.symm) 
  exact LP24_2 (n1 - v_size) 0 f_text (by omega) (itr_0 _ _).symm 
theorem cal_X4_finish : Cal yX4_finish cX4_finish 4 none 0 := ⟨tb_at 112 (by decide +kernel) (by decide +kernel), tb_at 526 (by decide +kernel) (by decide +kernel), by decide +kernel, by decide +kernel, by decide +kernel⟩
theorem cwi_X4_finish : Cond.instanceMethod yX4_finish ∈ tb := tb_at 524 (by decide +kernel) (by decide +kernel)
theorem cws_X4_finish : Cond.selects yX4_finish.cls yX4_finish yX4_finish ∈ tb := tb_at 525 (by decide +kernel) (by decide +kernel)
