theorem mw_X3_keepWord_0 : Cond.fieldLink "GuardedTree$Client" 68 "GuardedTree$Client" "wordCount" "I" ∈ tb := tb_at 320 (by decide +kernel) (by decide +kernel)
theorem mw_X3_keepWord_1 : Cond.fieldLink "GuardedTree$Client" 34 "GuardedTree$Client" "words" "[I" ∈ tb := tb_at 315 (by decide +kernel) (by decide +kernel)
theorem dX3_keepWord_0 : decode cX3_keepWord 0 = .ok (.aload_n 0, 1) := by decide +kernel
theorem dX3_keepWord_1 : decode cX3_keepWord 1 = .ok (.getfield 68, 3) := by decide +kernel
theorem dX3_keepWord_4 : decode cX3_keepWord 4 = .ok (.bipush 16, 2) := by decide +kernel
theorem dX3_keepWord_6 : decode cX3_keepWord 6 = .ok (.if_icmp .lt 5, 3) := by decide +kernel
theorem dX3_keepWord_9 : decode cX3_keepWord 9 = .ok (.iconst (-1), 1) := by decide +kernel
theorem dX3_keepWord_10 : decode cX3_keepWord 10 = .ok (.ireturn, 1) := by decide +kernel
theorem dX3_keepWord_11 : decode cX3_keepWord 11 = .ok (.aload_n 0, 1) := by decide +kernel
theorem dX3_keepWord_12 : decode cX3_keepWord 12 = .ok (.getfield 34, 3) := by decide +kernel
theorem dX3_keepWord_15 : decode cX3_keepWord 15 = .ok (.aload_n 0, 1) := by decide +kernel
theorem dX3_keepWord_16 : decode cX3_keepWord 16 = .ok (.getfield 68, 3) := by decide +kernel
theorem dX3_keepWord_19 : decode cX3_keepWord 19 = .ok (.iload_n 1, 1) := by decide +kernel
theorem dX3_keepWord_20 : decode cX3_keepWord 20 = .ok (.iastore, 1) := by decide +kernel
theorem dX3_keepWord_21 : decode cX3_keepWord 21 = .ok (.aload_n 0, 1) := by decide +kernel
theorem dX3_keepWord_22 : decode cX3_keepWord 22 = .ok (.dup, 1) := by decide +kernel
theorem dX3_keepWord_23 : decode cX3_keepWord 23 = .ok (.getfield 68, 3) := by decide +kernel
theorem dX3_keepWord_26 : decode cX3_keepWord 26 = .ok (.iconst 1, 1) := by decide +kernel
theorem dX3_keepWord_27 : decode cX3_keepWord 27 = .ok (.iadd, 1) := by decide +kernel
theorem dX3_keepWord_28 : decode cX3_keepWord 28 = .ok (.putfield 68, 3) := by decide +kernel
theorem dX3_keepWord_31 : decode cX3_keepWord 31 = .ok (.aload_n 0, 1) := by decide +kernel
theorem dX3_keepWord_32 : decode cX3_keepWord 32 = .ok (.getfield 68, 3) := by decide +kernel
theorem dX3_keepWord_35 : decode cX3_keepWord 35 = .ok (.ireturn, 1) := by decide +kernel
noncomputable def f_X3_keepWord (v_wordCount : Nat) (f_words : Nat → Int32) (x1 : Int32) : Int32 × (Nat) × (Nat → Int32) :=
  if v_wordCount < 16 then
  (let n2 := v_wordCount + 1
  (nI n2, n2, upd f_words v_wordCount x1))
  else
  (((-1), v_wordCount, f_words))
set_option maxHeartbeats 4000000 in
set_option maxRecDepth 100000 in
theorem c_X3_keepWord (l : Launch) (D : va_G) (ct : Nat → ClassId) (ts : Nat → Nat) (a_this a_this_words a_this_agreement a_this_in a_this_out a_this_requests : Nat) (v_state : Int32) (v_asked : Nat) (v_wordCount : Nat) (v_ungranted : Int32) (f_words : Nat → Int32) (x1 : Int32)  (h_w : v_wordCount ≤ 16)  (sz : Nat) : Met l yX3_keepWord (Cond.code yX3_keepWord cX3_keepWord 2 (some .int) :: tb) { frames := 0, cells := 0, slots := 0, locals := 0 } (PcG D ct SXL ts [.ref a_this, .int x1] [(a_this, .inr (3, [.ref a_this_agreement, .ref a_this_in, .ref a_this_out, .ref a_this_requests, .ref a_this_words, .int v_state, .int (nI v_asked), .int (nI v_wordCount), .int v_ungranted])), (a_this_words, .inl (ct 0, 16, .inl f_words))] sz) (va_Qi (fun (r : Int32) (u : (Nat) × (Nat → Int32)) => (r, u) = f_X3_keepWord v_wordCount f_words x1) (fun u => BG D ct (va_A [(a_this, .inr (3, [.ref a_this_agreement, .ref a_this_in, .ref a_this_out, .ref a_this_requests, .ref a_this_words, .int v_state, .int (nI v_asked), .int (nI v_wordCount), .int v_ungranted])), (a_this_words, .inl (ct 0, 16, .inl f_words))] sz) [(a_this, .inr (3, [.ref a_this_agreement, .ref a_this_in, .ref a_this_out, .ref a_this_requests, .ref a_this_words, .int v_state, .int (nI v_asked), .int (nI u.1), .int v_ungranted])), (a_this_words, .inl (ct 0, 16, .inl u.2))]) (va_A [(a_this, .inr (3, [.ref a_this_agreement, .ref a_this_in, .ref a_this_out, .ref a_this_requests, .ref a_this_words, .int v_state, .int (nI v_asked), .int (nI v_wordCount), .int v_ungranted])), (a_this_words, .inl (ct 0, 16, .inl f_words))] sz)) 0 0 (va_A [(a_this, .inr (3, [.ref a_this_agreement, .ref a_this_in, .ref a_this_out, .ref a_this_requests, .ref a_this_words, .int v_state, .int (nI v_asked), .int (nI v_wordCount), .int v_ungranted])), (a_this_words, .inl (ct 0, 16, .inl f_words))] sz) := by
  refine metJ (l := l) (y := yX3_keepWord) (cc := cX3_keepWord) (maxL := 2) (ret := (some .int)) (rm := { frames := 0, cells := 0, slots := 0, locals := 0 }) (D := D) (ct := ct) (L := SXL) (ts := ts) (av := [.ref a_this, .int x1]) (ws := [(a_this, .inr (3, [.ref a_this_agreement, .ref a_this_in, .ref a_this_out, .ref a_this_requests, .ref a_this_words, .int v_state, .int (nI v_asked), .int (nI v_wordCount), .int v_ungranted])), (a_this_words, .inl (ct 0, 16, .inl f_words))]) (sz := sz) (mc := 0) (ms := 0) (QcF := fun A => va_Qi (fun (r : Int32) (u : (Nat) × (Nat → Int32)) => (r, u) = f_X3_keepWord v_wordCount f_words x1) (fun u => BG D ct A [(a_this, .inr (3, [.ref a_this_agreement, .ref a_this_in, .ref a_this_out, .ref a_this_requests, .ref a_this_words, .int v_state, .int (nI v_asked), .int (nI u.1), .int v_ungranted])), (a_this_words, .inl (ct 0, 16, .inl u.2))]) A) (by decide) (Nat.le_of_ble_eq_true rfl) ?_
  intro p e s m below meth c A X hnm
  obtain ⟨Q, hQ⟩ : ∃ Q, Q = MQ below (va_Qi (fun (r : Int32) (u : (Nat) × (Nat → Int32)) => (r, u) = f_X3_keepWord v_wordCount f_words x1) (fun u => BG D ct A [(a_this, .inr (3, [.ref a_this_agreement, .ref a_this_in, .ref a_this_out, .ref a_this_requests, .ref a_this_words, .int v_state, .int (nI v_asked), .int (nI u.1), .int v_ungranted])), (a_this_words, .inl (ct 0, 16, .inl u.2))]) A) [.ref a_this, .int x1].toArray s 0 0 A := ⟨_, rfl⟩
  rw [← hQ]
  refine j_lve (lv' := [(0, .ref a_this), (1, .int x1)]) rfl ?_
  refine j_aload_n X 0 dX3_keepWord_0 rfl (q := 1) rfl ?_
  refine j_get (f := 7) X 0 inT3 rfl rfl (by decide) mw_X3_keepWord_0 rfl dX3_keepWord_1 (q := 4) rfl ?_
  refine j_bipush (v := nI 16) X dX3_keepWord_4 (by decide) (q := 6) rfl ?_
  refine j_icmp_lt (tgt := 11) X dX3_keepWord_6 (by decide) (q := 9) rfl (fun c1 => ?_) (fun c1 => ?_)
  · skip
    have c1 : v_wordCount < 16 := (nI_ltI (a := v_wordCount) (b := 16) (by omega) (by omega)).mp c1
    refine j_aload_n X 0 dX3_keepWord_11 rfl (q := 12) rfl ?_
    refine j_get (f := 4) X 0 inT3 rfl rfl (by decide) mw_X3_keepWord_1 rfl dX3_keepWord_12 (q := 15) rfl ?_
    refine j_aload_n X 0 dX3_keepWord_15 rfl (q := 16) rfl ?_
    refine j_get (f := 7) X 0 inT3 rfl rfl (by decide) mw_X3_keepWord_0 rfl dX3_keepWord_16 (q := 19) rfl ?_
    refine j_iload_n X 1 dX3_keepWord_19 rfl (q := 20) rfl ?_
    refine k_iast (ws2 := [(a_this, .inr (3, [.ref a_this_agreement, .ref a_this_in, .ref a_this_out, .ref a_this_requests, .ref a_this_words, .int v_state, .int (nI v_asked), .int (nI v_wordCount), .int v_ungranted])), (a_this_words, .inl (ct 0, 16, .inl (upd f_words v_wordCount x1)))]) X 1 rfl (vp_in_nI (by omega) (by omega)) (nI_clamp (by omega)) dX3_keepWord_20 rfl (q := 21) rfl ?_
    refine j_aload_n X 0 dX3_keepWord_21 rfl (q := 22) rfl ?_
    refine j_dup X dX3_keepWord_22 rfl (q := 23) rfl ?_
    refine j_get (f := 7) X 0 inT3 rfl rfl (by decide) mw_X3_keepWord_0 rfl dX3_keepWord_23 (q := 26) rfl ?_
    refine j_iconst (v := nI 1) X dX3_keepWord_26 (by decide) (q := 27) rfl ?_
    refine j_iadd X dX3_keepWord_27 (q := 28) rfl ?_
    refine j_eqi (nI_add _ _) ?_
    refine j_topn (fun n2 e_n2 => ?_)
    refine j_put (f := 7) (ws2 := [(a_this, .inr (3, [.ref a_this_agreement, .ref a_this_in, .ref a_this_out, .ref a_this_requests, .ref a_this_words, .int v_state, .int (nI v_asked), .int (nI n2), .int v_ungranted])), (a_this_words, .inl (ct 0, 16, .inl (upd f_words v_wordCount x1)))]) (ty := .int) X 0 inT3 tyX3_ok nmX3 rfl rfl (by decide) mw_X3_keepWord_0 rfl rfl rfl rfl (Nat.le_of_ble_eq_true rfl) dX3_keepWord_28 rfl (q := 31) rfl ?_
    refine j_aload_n X 0 dX3_keepWord_31 rfl (q := 32) rfl ?_
    refine j_get (f := 7) X 0 inT3 rfl rfl (by decide) mw_X3_keepWord_0 rfl dX3_keepWord_32 (q := 35) rfl ?_
    rw [hQ]
    exact j_iret X ((n2, upd f_words v_wordCount x1)) dX3_keepWord_35 (by subst e_n2; first | rfl | (simp only [f_X3_keepWord, if_pos c1]; done) | (simp only [f_X3_keepWord, if_pos c1]; rfl)) rfl
  · skip
    have c1 : ¬ v_wordCount < 16 := fun h => c1 ((nI_ltI (a := v_wordCount) (b := 16) (by omega) (by omega)).mpr h)
    refine j_iconst (v := -1) X dX3_keepWord_9 (by decide) (q := 10) rfl ?_
    rw [hQ]
    exact j_iret X ((v_wordCount, f_words)) dX3_keepWord_10 (by first | rfl | (simp only [f_X3_keepWord, if_neg c1]; done) | (simp only [f_X3_keepWord, if_neg c1]; rfl)) rfl
theorem cal_X3_keepWord : Cal yX3_keepWord cX3_keepWord 2 (some .int) 1 := ⟨tb_at 110 (by decide +kernel) (by decide +kernel), tb_at 602 (by decide +kernel) (by decide +kernel), by decide +kernel, by decide +kernel, by decide +kernel⟩
theorem cwi_X3_keepWord : Cond.instanceMethod yX3_keepWord ∈ tb := tb_at 600 (by decide +kernel) (by decide +kernel)
theorem cws_X3_keepWord : Cond.selects yX3_keepWord.cls yX3_keepWord yX3_keepWord ∈ tb := tb_at 601 (by decide +kernel) (by decide +kernel)
theorem mw_X3_maySend_0 : Cond.fieldLink "GuardedTree$Client" 38 "GuardedTree$Client" "state" "I" ∈ tb := tb_at 316 (by decide +kernel) (by decide +kernel)
theorem mw_X3_maySend_1 : Cond.fieldLink "GuardedTree$Client" 25 "GuardedTree$Client" "out" "LGuardedTree$Channel;" ∈ tb := tb_at 312 (by decide +kernel) (by decide +kernel)
theorem mw_X3_maySend_2 : Cond.fieldLink "GuardedTree$Client" 71 "GuardedTree$Channel" "allowance" "I" ∈ tb := tb_at 281 (by decide +kernel) (by decide +kernel)
theorem mw_X3_maySend_3 : Cond.fieldLink "GuardedTree$Client" 58 "GuardedTree$Client" "asked" "I" ∈ tb := tb_at 318 (by decide +kernel) (by decide +kernel)
theorem dX3_maySend_0 : decode cX3_maySend 0 = .ok (.aload_n 0, 1) := by decide +kernel
theorem dX3_maySend_1 : decode cX3_maySend 1 = .ok (.getfield 38, 3) := by decide +kernel
theorem dX3_maySend_4 : decode cX3_maySend 4 = .ok (.iconst 2, 1) := by decide +kernel
theorem dX3_maySend_5 : decode cX3_maySend 5 = .ok (.if_icmp .ne 28, 3) := by decide +kernel
theorem dX3_maySend_8 : decode cX3_maySend 8 = .ok (.aload_n 0, 1) := by decide +kernel
theorem dX3_maySend_9 : decode cX3_maySend 9 = .ok (.getfield 25, 3) := by decide +kernel
theorem dX3_maySend_12 : decode cX3_maySend 12 = .ok (.getfield 71, 3) := by decide +kernel
theorem dX3_maySend_15 : decode cX3_maySend 15 = .ok (.iload_n 1, 1) := by decide +kernel
theorem dX3_maySend_16 : decode cX3_maySend 16 = .ok (.if_icmp .lt 17, 3) := by decide +kernel
theorem dX3_maySend_19 : decode cX3_maySend 19 = .ok (.aload_n 0, 1) := by decide +kernel
theorem dX3_maySend_20 : decode cX3_maySend 20 = .ok (.getfield 58, 3) := by decide +kernel
theorem dX3_maySend_23 : decode cX3_maySend 23 = .ok (.sipush 512, 3) := by decide +kernel
theorem dX3_maySend_26 : decode cX3_maySend 26 = .ok (.if_icmp .ge 7, 3) := by decide +kernel
theorem dX3_maySend_29 : decode cX3_maySend 29 = .ok (.iconst 1, 1) := by decide +kernel
theorem dX3_maySend_30 : decode cX3_maySend 30 = .ok (.goto 4, 3) := by decide +kernel
theorem dX3_maySend_33 : decode cX3_maySend 33 = .ok (.iconst 0, 1) := by decide +kernel
theorem dX3_maySend_34 : decode cX3_maySend 34 = .ok (.ireturn, 1) := by decide +kernel
noncomputable def f_X3_maySend (v_state : Int32) (v_asked : Nat) (v_out_allowance : Int32) (x1 : Int32) : Int32 :=
  if v_state = (nI 2) then
  (if v_out_allowance < x1 then
  (nI 0)
  else
  (if 512 ≤ v_asked then
  (nI 0)
  else
  (nI 1)))
  else
  (nI 0)
set_option maxHeartbeats 4000000 in
set_option maxRecDepth 100000 in
theorem c_X3_maySend (l : Launch) (D : va_G) (ct : Nat → ClassId) (ts : Nat → Nat) (a_this a_this_out a_this_agreement a_this_in a_this_requests a_this_words a_this_out_packet a_this_out_cipher a_this_out_digest a_this_out_sealKey : Nat) (v_state : Int32) (v_asked : Nat) (v_wordCount : Nat) (v_ungranted : Int32) (v_out_allowance : Int32) (v_out_size : Nat) (v_out_length : Int32) (v_out_payload : Nat) (v_out_number : Int32) (x1 : Int32)  (h_a : v_asked ≤ 512)  (sz : Nat) : Met l yX3_maySend (Cond.code yX3_maySend cX3_maySend 2 (some .boolean) :: tb) { frames := 0, cells := 0, slots := 0, locals := 0 } (PcG D ct SXL ts [.ref a_this, .int x1] [(a_this, .inr (3, [.ref a_this_agreement, .ref a_this_in, .ref a_this_out, .ref a_this_requests, .ref a_this_words, .int v_state, .int (nI v_asked), .int (nI v_wordCount), .int v_ungranted])), (a_this_out, .inr (1, [.ref a_this_out_packet, .ref a_this_out_cipher, .ref a_this_out_digest, .ref a_this_out_sealKey, .int v_out_allowance, .int (nI v_out_size), .int v_out_length, .int (nI v_out_payload), .int v_out_number]))] sz) (va_Qi (fun (r : Int32) (u : Unit) => r = f_X3_maySend v_state v_asked v_out_allowance x1) (fun u => BG D ct (va_A [(a_this, .inr (3, [.ref a_this_agreement, .ref a_this_in, .ref a_this_out, .ref a_this_requests, .ref a_this_words, .int v_state, .int (nI v_asked), .int (nI v_wordCount), .int v_ungranted])), (a_this_out, .inr (1, [.ref a_this_out_packet, .ref a_this_out_cipher, .ref a_this_out_digest, .ref a_this_out_sealKey, .int v_out_allowance, .int (nI v_out_size), .int v_out_length, .int (nI v_out_payload), .int v_out_number]))] sz) [(a_this, .inr (3, [.ref a_this_agreement, .ref a_this_in, .ref a_this_out, .ref a_this_requests, .ref a_this_words, .int v_state, .int (nI v_asked), .int (nI v_wordCount), .int v_ungranted])), (a_this_out, .inr (1, [.ref a_this_out_packet, .ref a_this_out_cipher, .ref a_this_out_digest, .ref a_this_out_sealKey, .int v_out_allowance, .int (nI v_out_size), .int v_out_length, .int (nI v_out_payload), .int v_out_number]))]) (va_A [(a_this, .inr (3, [.ref a_this_agreement, .ref a_this_in, .ref a_this_out, .ref a_this_requests, .ref a_this_words, .int v_state, .int (nI v_asked), .int (nI v_wordCount), .int v_ungranted])), (a_this_out, .inr (1, [.ref a_this_out_packet, .ref a_this_out_cipher, .ref a_this_out_digest, .ref a_this_out_sealKey, .int v_out_allowance, .int (nI v_out_size), .int v_out_length, .int (nI v_out_payload), .int v_out_number]))] sz)) 0 0 (va_A [(a_this, .inr (3, [.ref a_this_agreement, .ref a_this_in, .ref a_this_out, .ref a_this_requests, .ref a_this_words, .int v_state, .int (nI v_asked), .int (nI v_wordCount), .int v_ungranted])), (a_this_out, .inr (1, [.ref a_this_out_packet, .ref a_this_out_cipher, .ref a_this_out_digest, .ref a_this_out_sealKey, .int v_out_allowance, .int (nI v_out_size), .int v_out_length, .int (nI v_out_payload), .int v_out_number]))] sz) := by
  refine metJ (l := l) (y := yX3_maySend) (cc := cX3_maySend) (maxL := 2) (ret := (some .boolean)) (rm := { frames := 0, cells := 0, slots := 0, locals := 0 }) (D := D) (ct := ct) (L := SXL) (ts := ts) (av := [.ref a_this, .int x1]) (ws := [(a_this, .inr (3, [.ref a_this_agreement, .ref a_this_in, .ref a_this_out, .ref a_this_requests, .ref a_this_words, .int v_state, .int (nI v_asked), .int (nI v_wordCount), .int v_ungranted])), (a_this_out, .inr (1, [.ref a_this_out_packet, .ref a_this_out_cipher, .ref a_this_out_digest, .ref a_this_out_sealKey, .int v_out_allowance, .int (nI v_out_size), .int v_out_length, .int (nI v_out_payload), .int v_out_number]))]) (sz := sz) (mc := 0) (ms := 0) (QcF := fun A => va_Qi (fun (r : Int32) (u : Unit) => r = f_X3_maySend v_state v_asked v_out_allowance x1) (fun u => BG D ct A [(a_this, .inr (3, [.ref a_this_agreement, .ref a_this_in, .ref a_this_out, .ref a_this_requests, .ref a_this_words, .int v_state, .int (nI v_asked), .int (nI v_wordCount), .int v_ungranted])), (a_this_out, .inr (1, [.ref a_this_out_packet, .ref a_this_out_cipher, .ref a_this_out_digest, .ref a_this_out_sealKey, .int v_out_allowance, .int (nI v_out_size), .int v_out_length, .int (nI v_out_payload), .int v_out_number]))]) A) (by decide) (Nat.le_of_ble_eq_true rfl) ?_
  intro p e s m below meth c A X hnm
  obtain ⟨Q, hQ⟩ : ∃ Q, Q = MQ below (va_Qi (fun (r : Int32) (u : Unit) => r = f_X3_maySend v_state v_asked v_out_allowance x1) (fun u => BG D ct A [(a_this, .inr (3, [.ref a_this_agreement, .ref a_this_in, .ref a_this_out, .ref a_this_requests, .ref a_this_words, .int v_state, .int (nI v_asked), .int (nI v_wordCount), .int v_ungranted])), (a_this_out, .inr (1, [.ref a_this_out_packet, .ref a_this_out_cipher, .ref a_this_out_digest, .ref a_this_out_sealKey, .int v_out_allowance, .int (nI v_out_size), .int v_out_length, .int (nI v_out_payload), .int v_out_number]))]) A) [.ref a_this, .int x1].toArray s 0 0 A := ⟨_, rfl⟩
  rw [← hQ]
  refine j_lve (lv' := [(0, .ref a_this), (1, .int x1)]) rfl ?_
  refine j_aload_n X 0 dX3_maySend_0 rfl (q := 1) rfl ?_
  refine j_get (f := 5) X 0 inT3 rfl rfl (by decide) mw_X3_maySend_0 rfl dX3_maySend_1 (q := 4) rfl ?_
  refine j_iconst (v := nI 2) X dX3_maySend_4 (by decide) (q := 5) rfl ?_
  refine j_icmp_ne (tgt := 33) X dX3_maySend_5 (by decide) (q := 8) rfl (fun c1 => ?_) (fun c1 => ?_)
  · skip
    refine j_iconst (v := nI 0) X dX3_maySend_33 (by decide) (q := 34) rfl ?_
    rw [hQ]
    exact j_zret X (()) (by decide) dX3_maySend_34 (by first | rfl | (simp only [f_X3_maySend, if_neg c1]; done) | (simp only [f_X3_maySend, if_neg c1]; rfl)) rfl
  · skip
    refine j_aload_n X 0 dX3_maySend_8 rfl (q := 9) rfl ?_
    refine j_get (f := 2) X 0 inT3 rfl rfl (by decide) mw_X3_maySend_1 rfl dX3_maySend_9 (q := 12) rfl ?_
    refine j_get (f := 4) X 1 inT1 rfl rfl (by decide) mw_X3_maySend_2 rfl dX3_maySend_12 (q := 15) rfl ?_
    refine j_iload_n X 1 dX3_maySend_15 rfl (q := 16) rfl ?_
    refine j_icmp_lt (tgt := 33) X dX3_maySend_16 (by decide) (q := 19) rfl (fun c2 => ?_) (fun c2 => ?_)
    · skip
      refine j_iconst (v := nI 0) X dX3_maySend_33 (by decide) (q := 34) rfl ?_
      rw [hQ]
      exact j_zret X (()) (by decide) dX3_maySend_34 (by first | rfl | (simp only [f_X3_maySend, if_pos c1, if_pos c2]; done) | (simp only [f_X3_maySend, if_pos c1, if_pos c2]; rfl)) rfl
    · skip
      refine j_aload_n X 0 dX3_maySend_19 rfl (q := 20) rfl ?_
      refine j_get (f := 6) X 0 inT3 rfl rfl (by decide) mw_X3_maySend_3 rfl dX3_maySend_20 (q := 23) rfl ?_
      refine j_sipush (v := nI 512) X dX3_maySend_23 (by decide) (q := 26) rfl ?_
      refine j_icmp_ge (tgt := 33) X dX3_maySend_26 (by decide) (q := 29) rfl (fun c3 => ?_) (fun c3 => ?_)
      · skip
        have c3 : 512 ≤ v_asked := (nI_leI (a := 512) (b := v_asked) (by omega) (by omega)).mp c3
        refine j_iconst (v := nI 0) X dX3_maySend_33 (by decide) (q := 34) rfl ?_
        rw [hQ]
        exact j_zret X (()) (by decide) dX3_maySend_34 (by first | rfl | (simp only [f_X3_maySend, if_pos c1, if_neg c2, if_pos c3]; done) | (simp only [f_X3_maySend, if_pos c1, if_neg c2, if_pos c3]; rfl)) rfl
      · skip
        have c3 : ¬ 512 ≤ v_asked := fun h => c3 ((nI_leI (a := 512) (b := v_asked) (by omega) (by omega)).mpr h)
        refine j_iconst (v := nI 1) X dX3_maySend_29 (by decide) (q := 30) rfl ?_
        refine j_goto (tgt := 34) X dX3_maySend_30 (by decide) ?_
        rw [hQ]
        exact j_zret X (()) (by decide) dX3_maySend_34 (by first | rfl | (simp only [f_X3_maySend, if_pos c1, if_neg c2, if_neg c3]; done) | (simp only [f_X3_maySend, if_pos c1, if_neg c2, if_neg c3]; rfl)) rfl
theorem cal_X3_maySend : Cal yX3_maySend cX3_maySend 2 (some .boolean) 1 := ⟨tb_at 110 (by decide +kernel) (by decide +kernel), tb_at 703 (by decide +kernel) (by decide +kernel), by decide +kernel, by decide +kernel, by decide +kernel⟩
theorem cwi_X3_maySend : Cond.instanceMethod yX3_maySend ∈ tb := tb_at 701 (by decide +kernel) (by decide +kernel)
theorem cws_X3_maySend : Cond.selects yX3_maySend.cls yX3_maySend yX3_maySend ∈ tb := tb_at 702 (by decide +kernel) (by decide +kernel)
theorem mw_X11_client_0 : Cond.fieldLink "GuardedTree" 10 "GuardedTree" "clientSide" "LGuardedTree$Client;" ∈ tb := tb_at 471 (by decide +kernel) (by decide +kernel)
theorem mw_X11_client_1 : Cond.fieldLink "GuardedTree" 57 "GuardedTree$Client" "state" "I" ∈ tb := tb_at 317 (by decide +kernel) (by decide +kernel)
theorem dX11_client_0 : decode cX11_client 0 = .ok (.aload_n 0, 1) := by decide +kernel
theorem dX11_client_1 : decode cX11_client 1 = .ok (.getfield 10, 3) := by decide +kernel
theorem dX11_client_4 : decode cX11_client 4 = .ok (.getfield 57, 3) := by decide +kernel
theorem dX11_client_7 : decode cX11_client 7 = .ok (.ireturn, 1) := by decide +kernel
noncomputable def f_X11_client (v_clientSide_state : Int32) : Int32 :=
  v_clientSide_state
set_option maxHeartbeats 4000000 in
set_option maxRecDepth 100000 in
theorem c_X11_client (l : Launch) (D : va_G) (ct : Nat → ClassId) (ts : Nat → Nat) (a_this a_this_clientSide a_this_serverSide a_this_toServer a_this_toClient a_this_clientSide_agreement a_this_clientSide_in a_this_clientSide_out a_this_clientSide_requests a_this_clientSide_words : Nat) (v_connections : Int32) (v_clientSide_state : Int32) (v_clientSide_asked : Nat) (v_clientSide_wordCount : Nat) (v_clientSide_ungranted : Int32)    (sz : Nat) : Met l yX11_client (Cond.code yX11_client cX11_client 1 (some .int) :: tb) { frames := 0, cells := 0, slots := 0, locals := 0 } (PcG D ct SXL ts [.ref a_this] [(a_this, .inr (11, [.ref a_this_clientSide, .ref a_this_serverSide, .ref a_this_toServer, .ref a_this_toClient, .int v_connections])), (a_this_clientSide, .inr (3, [.ref a_this_clientSide_agreement, .ref a_this_clientSide_in, .ref a_this_clientSide_out, .ref a_this_clientSide_requests, .ref a_this_clientSide_words, .int v_clientSide_state, .int (nI v_clientSide_asked), .int (nI v_clientSide_wordCount), .int v_clientSide_ungranted]))] sz) (va_Qi (fun (r : Int32) (u : Unit) => r = f_X11_client v_clientSide_state) (fun u => BG D ct (va_A [(a_this, .inr (11, [.ref a_this_clientSide, .ref a_this_serverSide, .ref a_this_toServer, .ref a_this_toClient, .int v_connections])), (a_this_clientSide, .inr (3, [.ref a_this_clientSide_agreement, .ref a_this_clientSide_in, .ref a_this_clientSide_out, .ref a_this_clientSide_requests, .ref a_this_clientSide_words, .int v_clientSide_state, .int (nI v_clientSide_asked), .int (nI v_clientSide_wordCount), .int v_clientSide_ungranted]))] sz) [(a_this, .inr (11, [.ref a_this_clientSide, .ref a_this_serverSide, .ref a_this_toServer, .ref a_this_toClient, .int v_connections])), (a_this_clientSide, .inr (3, [.ref a_this_clientSide_agreement, .ref a_this_clientSide_in, .ref a_this_clientSide_out, .ref a_this_clientSide_requests, .ref a_this_clientSide_words, .int v_clientSide_state, .int (nI v_clientSide_asked), .int (nI v_clientSide_wordCount), .int v_clientSide_ungranted]))]) (va_A [(a_this, .inr (11, [.ref a_this_clientSide, .ref a_this_serverSide, .ref a_this_toServer, .ref a_this_toClient, .int v_connections])), (a_this_clientSide, .inr (3, [.ref a_this_clientSide_agreement, .ref a_this_clientSide_in, .ref a_this_clientSide_out, .ref a_this_clientSide_requests, .ref a_this_clientSide_words, .int v_clientSide_state, .int (nI v_clientSide_asked), .int (nI v_clientSide_wordCount), .int v_clientSide_ungranted]))] sz)) 0 0 (va_A [(a_this, .inr (11, [.ref a_this_clientSide, .ref a_this_serverSide, .ref a_this_toServer, .ref a_this_toClient, .int v_connections])), (a_this_clientSide, .inr (3, [.ref a_this_clientSide_agreement, .ref a_this_clientSide_in, .ref a_this_clientSide_out, .ref a_this_clientSide_requests, .ref a_this_clientSide_words, .int v_clientSide_state, .int (nI v_clientSide_asked), .int (nI v_clientSide_wordCount), .int v_clientSide_ungranted]))] sz) := by
  refine metJ (l := l) (y := yX11_client) (cc := cX11_client) (maxL := 1) (ret := (some .int)) (rm := { frames := 0, cells := 0, slots := 0, locals := 0 }) (D := D) (ct := ct) (L := SXL) (ts := ts) (av := [.ref a_this]) (ws := [(a_this, .inr (11, [.ref a_this_clientSide, .ref a_this_serverSide, .ref a_this_toServer, .ref a_this_toClient, .int v_connections])), (a_this_clientSide, .inr (3, [.ref a_this_clientSide_agreement, .ref a_this_clientSide_in, .ref a_this_clientSide_out, .ref a_this_clientSide_requests, .ref a_this_clientSide_words, .int v_clientSide_state, .int (nI v_clientSide_asked), .int (nI v_clientSide_wordCount), .int v_clientSide_ungranted]))]) (sz := sz) (mc := 0) (ms := 0) (QcF := fun A => va_Qi (fun (r : Int32) (u : Unit) => r = f_X11_client v_clientSide_state) (fun u => BG D ct A [(a_this, .inr (11, [.ref a_this_clientSide, .ref a_this_serverSide, .ref a_this_toServer, .ref a_this_toClient, .int v_connections])), (a_this_clientSide, .inr (3, [.ref a_this_clientSide_agreement, .ref a_this_clientSide_in, .ref a_this_clientSide_out, .ref a_this_clientSide_requests, .ref a_this_clientSide_words, .int v_clientSide_state, .int (nI v_clientSide_asked), .int (nI v_clientSide_wordCount), .int v_clientSide_ungranted]))]) A) (by decide) (Nat.le_of_ble_eq_true rfl) ?_
  intro p e s m below meth c A X hnm
  obtain ⟨Q, hQ⟩ : ∃ Q, Q = MQ below (va_Qi (fun (r : Int32) (u : Unit) => r = f_X11_client v_clientSide_state) (fun u => BG D ct A [(a_this, .inr (11, [.ref a_this_clientSide, .ref a_this_serverSide, .ref a_this_toServer, .ref a_this_toClient, .int v_connections])), (a_this_clientSide, .inr (3, [.ref a_this_clientSide_agreement, .ref a_this_clientSide_in, .ref a_this_clientSide_out, .ref a_this_clientSide_requests, .ref a_this_clientSide_words, .int v_clientSide_state, .int (nI v_clientSide_asked), .int (nI v_clientSide_wordCount), .int v_clientSide_ungranted]))]) A) [.ref a_this].toArray s 0 0 A := ⟨_, rfl⟩
  rw [← hQ]
  refine j_lve (lv' := [(0, .ref a_this)]) rfl ?_
  refine j_aload_n X 0 dX11_client_0 rfl (q := 1) rfl ?_
  refine j_get (f := 0) X 0 inT11 rfl rfl (by decide) mw_X11_client_0 rfl dX11_client_1 (q := 4) rfl ?_
  refine j_get (f := 5) X 1 inT3 rfl rfl (by decide) mw_X11_client_1 rfl dX11_client_4 (q := 7) rfl ?_
  rw [hQ]
  exact j_iret X (()) dX11_client_7 rfl rfl
theorem cal_X11_client : Cal yX11_client cX11_client 1 (some .int) 0 := ⟨tb_at 109 (by decide +kernel) (by decide +kernel), tb_at 590 (by decide +kernel) (by decide +kernel), by decide +kernel, by decide +kernel, by decide +kernel⟩
theorem cwi_X11_client : Cond.instanceMethod yX11_client ∈ tb := tb_at 588 (by decide +kernel) (by decide +kernel)
theorem cws_X11_client : Cond.selects yX11_client.cls yX11_client yX11_client ∈ tb := tb_at 589 (by decide +kernel) (by decide +kernel)
theorem mw_X11_server_0 : Cond.fieldLink "GuardedTree" 19 "GuardedTree" "serverSide" "LGuardedTree$Server;" ∈ tb := tb_at 472 (by decide +kernel) (by decide +kernel)
theorem mw_X11_server_1 : Cond.fieldLink "GuardedTree" 33 "GuardedTree$Server" "disk" "LGuardedTree$Disk;" ∈ tb := tb_at 413 (by decide +kernel) (by decide +kernel)
theorem mw_X11_server_2 : Cond.fieldLink "GuardedTree" 37 "GuardedTree$Disk" "power" "Z" ∈ tb := tb_at 392 (by decide +kernel) (by decide +kernel)
theorem mw_X11_server_3 : Cond.fieldLink "GuardedTree" 60 "GuardedTree$Server" "state" "I" ∈ tb := tb_at 420 (by decide +kernel) (by decide +kernel)
theorem dX11_server_0 : decode cX11_server 0 = .ok (.aload_n 0, 1) := by decide +kernel
theorem dX11_server_1 : decode cX11_server 1 = .ok (.getfield 19, 3) := by decide +kernel
theorem dX11_server_4 : decode cX11_server 4 = .ok (.getfield 33, 3) := by decide +kernel
theorem dX11_server_7 : decode cX11_server 7 = .ok (.getfield 37, 3) := by decide +kernel
theorem dX11_server_10 : decode cX11_server 10 = .ok (.ifCond .eq 13, 3) := by decide +kernel
theorem dX11_server_13 : decode cX11_server 13 = .ok (.aload_n 0, 1) := by decide +kernel
theorem dX11_server_14 : decode cX11_server 14 = .ok (.getfield 19, 3) := by decide +kernel
theorem dX11_server_17 : decode cX11_server 17 = .ok (.getfield 60, 3) := by decide +kernel
theorem dX11_server_20 : decode cX11_server 20 = .ok (.goto 5, 3) := by decide +kernel
theorem dX11_server_23 : decode cX11_server 23 = .ok (.bipush (-30), 2) := by decide +kernel
theorem dX11_server_25 : decode cX11_server 25 = .ok (.ireturn, 1) := by decide +kernel
noncomputable def f_X11_server (v_serverSide_state : Int32) (v_serverSide_disk_power : Int32) : Int32 :=
  if v_serverSide_disk_power = 0 then
  ((-30))
  else
  (v_serverSide_state)
set_option maxHeartbeats 4000000 in
set_option maxRecDepth 100000 in
theorem c_X11_server (l : Launch) (D : va_G) (ct : Nat → ClassId) (ts : Nat → Nat) (a_this a_this_serverSide a_this_serverSide_disk a_this_clientSide a_this_toServer a_this_toClient a_this_serverSide_agreement a_this_serverSide_in a_this_serverSide_out a_this_serverSide_tree a_this_serverSide_numbers a_this_serverSide_answers a_this_serverSide_counts a_this_serverSide_costs a_this_serverSide_bytes : Nat) (v_connections : Int32) (v_serverSide_state : Int32) (v_serverSide_first : Nat) (v_serverSide_waiting : Nat) (v_serverSide_ungranted : Int32) (v_serverSide_answered : Int32) (v_serverSide_disk_power : Int32) (v_serverSide_disk_blocksLeft : Int32) (v_serverSide_disk_written : Int32) (v_serverSide_disk_sinceCopy : Int32)    (sz : Nat) : Met l yX11_server (Cond.code yX11_server cX11_server 1 (some .int) :: tb) { frames := 0, cells := 0, slots := 0, locals := 0 } (PcG D ct SXL ts [.ref a_this] [(a_this, .inr (11, [.ref a_this_clientSide, .ref a_this_serverSide, .ref a_this_toServer, .ref a_this_toClient, .int v_connections])), (a_this_serverSide, .inr (9, [.ref a_this_serverSide_agreement, .ref a_this_serverSide_in, .ref a_this_serverSide_out, .ref a_this_serverSide_tree, .ref a_this_serverSide_disk, .ref a_this_serverSide_numbers, .ref a_this_serverSide_answers, .ref a_this_serverSide_counts, .ref a_this_serverSide_costs, .ref a_this_serverSide_bytes, .int v_serverSide_state, .int (nI v_serverSide_first), .int (nI v_serverSide_waiting), .int v_serverSide_ungranted, .int v_serverSide_answered])), (a_this_serverSide_disk, .inr (5, [.int v_serverSide_disk_power, .int v_serverSide_disk_blocksLeft, .int v_serverSide_disk_written, .int v_serverSide_disk_sinceCopy]))] sz) (va_Qi (fun (r : Int32) (u : Unit) => r = f_X11_server v_serverSide_state v_serverSide_disk_power) (fun u => BG D ct (va_A [(a_this, .inr (11, [.ref a_this_clientSide, .ref a_this_serverSide, .ref a_this_toServer, .ref a_this_toClient, .int v_connections])), (a_this_serverSide, .inr (9, [.ref a_this_serverSide_agreement, .ref a_this_serverSide_in, .ref a_this_serverSide_out, .ref a_this_serverSide_tree, .ref a_this_serverSide_disk, .ref a_this_serverSide_numbers, .ref a_this_serverSide_answers, .ref a_this_serverSide_counts, .ref a_this_serverSide_costs, .ref a_this_serverSide_bytes, .int v_serverSide_state, .int (nI v_serverSide_first), .int (nI v_serverSide_waiting), .int v_serverSide_ungranted, .int v_serverSide_answered])), (a_this_serverSide_disk, .inr (5, [.int v_serverSide_disk_power, .int v_serverSide_disk_blocksLeft, .int v_serverSide_disk_written, .int v_serverSide_disk_sinceCopy]))] sz) [(a_this, .inr (11, [.ref a_this_clientSide, .ref a_this_serverSide, .ref a_this_toServer, .ref a_this_toClient, .int v_connections])), (a_this_serverSide, .inr (9, [.ref a_this_serverSide_agreement, .ref a_this_serverSide_in, .ref a_this_serverSide_out, .ref a_this_serverSide_tree, .ref a_this_serverSide_disk, .ref a_this_serverSide_numbers, .ref a_this_serverSide_answers, .ref a_this_serverSide_counts, .ref a_this_serverSide_costs, .ref a_this_serverSide_bytes, .int v_serverSide_state, .int (nI v_serverSide_first), .int (nI v_serverSide_waiting), .int v_serverSide_ungranted, .int v_serverSide_answered])), (a_this_serverSide_disk, .inr (5, [.int v_serverSide_disk_power, .int v_serverSide_disk_blocksLeft, .int v_serverSide_disk_written, .int v_serverSide_disk_sinceCopy]))]) (va_A [(a_this, .inr (11, [.ref a_this_clientSide, .ref a_this_serverSide, .ref a_this_toServer, .ref a_this_toClient, .int v_connections])), (a_this_serverSide, .inr (9, [.ref a_this_serverSide_agreement, .ref a_this_serverSide_in, .ref a_this_serverSide_out, .ref a_this_serverSide_tree, .ref a_this_serverSide_disk, .ref a_this_serverSide_numbers, .ref a_this_serverSide_answers, .ref a_this_serverSide_counts, .ref a_this_serverSide_costs, .ref a_this_serverSide_bytes, .int v_serverSide_state, .int (nI v_serverSide_first), .int (nI v_serverSide_waiting), .int v_serverSide_ungranted, .int v_serverSide_answered])), (a_this_serverSide_disk, .inr (5, [.int v_serverSide_disk_power, .int v_serverSide_disk_blocksLeft, .int v_serverSide_disk_written, .int v_serverSide_disk_sinceCopy]))] sz)) 0 0 (va_A [(a_this, .inr (11, [.ref a_this_clientSide, .ref a_this_serverSide, .ref a_this_toServer, .ref a_this_toClient, .int v_connections])), (a_this_serverSide, .inr (9, [.ref a_this_serverSide_agreement, .ref a_this_serverSide_in, .ref a_this_serverSide_out, .ref a_this_serverSide_tree, .ref a_this_serverSide_disk, .ref a_this_serverSide_numbers, .ref a_this_serverSide_answers, .ref a_this_serverSide_counts, .ref a_this_serverSide_costs, .ref a_this_serverSide_bytes, .int v_serverSide_state, .int (nI v_serverSide_first), .int (nI v_serverSide_waiting), .int v_serverSide_ungranted, .int v_serverSide_answered])), (a_this_serverSide_disk, .inr (5, [.int v_serverSide_disk_power, .int v_serverSide_disk_blocksLeft, .int v_serverSide_disk_written, .int v_serverSide_disk_sinceCopy]))] sz) := by
  refine metJ (l := l) (y := yX11_server) (cc := cX11_server) (maxL := 1) (ret := (some .int)) (rm := { frames := 0, cells := 0, slots := 0, locals := 0 }) (D := D) (ct := ct) (L := SXL) (ts := ts) (av := [.ref a_this]) (ws := [(a_this, .inr (11, [.ref a_this_clientSide, .ref a_this_serverSide, .ref a_this_toServer, .ref a_this_toClient, .int v_connections])), (a_this_serverSide, .inr (9, [.ref a_this_serverSide_agreement, .ref a_this_serverSide_in, .ref a_this_serverSide_out, .ref a_this_serverSide_tree, .ref a_this_serverSide_disk, .ref a_this_serverSide_numbers, .ref a_this_serverSide_answers, .ref a_this_serverSide_counts, .ref a_this_serverSide_costs, .ref a_this_serverSide_bytes, .int v_serverSide_state, .int (nI v_serverSide_first), .int (nI v_serverSide_waiting), .int v_serverSide_ungranted, .int v_serverSide_answered])), (a_this_serverSide_disk, .inr (5, [.int v_serverSide_disk_power, .int v_serverSide_disk_blocksLeft, .int v_serverSide_disk_written, .int v_serverSide_disk_sinceCopy]))]) (sz := sz) (mc := 0) (ms := 0) (QcF := fun A => va_Qi (fun (r : Int32) (u : Unit) => r = f_X11_server v_serverSide_state v_serverSide_disk_power) (fun u => BG D ct A [(a_this, .inr (11, [.ref a_this_clientSide, .ref a_this_serverSide, .ref a_this_toServer, .ref a_this_toClient, .int v_connections])), (a_this_serverSide, .inr (9, [.ref a_this_serverSide_agreement, .ref a_this_serverSide_in, .ref a_this_serverSide_out, .ref a_this_serverSide_tree, .ref a_this_serverSide_disk, .ref a_this_serverSide_numbers, .ref a_this_serverSide_answers, .ref a_this_serverSide_counts, .ref a_this_serverSide_costs, .ref a_this_serverSide_bytes, .int v_serverSide_state, .int (nI v_serverSide_first), .int (nI v_serverSide_waiting), .int v_serverSide_ungranted, .int v_serverSide_answered])), (a_this_serverSide_disk, .inr (5, [.int v_serverSide_disk_power, .int v_serverSide_disk_blocksLeft, .int v_serverSide_disk_written, .int v_serverSide_disk_sinceCopy]))]) A) (by decide) (Nat.le_of_ble_eq_true rfl) ?_
  intro p e s m below meth c A X hnm
  obtain ⟨Q, hQ⟩ : ∃ Q, Q = MQ below (va_Qi (fun (r : Int32) (u : Unit) => r = f_X11_server v_serverSide_state v_serverSide_disk_power) (fun u => BG D ct A [(a_this, .inr (11, [.ref a_this_clientSide, .ref a_this_serverSide, .ref a_this_toServer, .ref a_this_toClient, .int v_connections])), (a_this_serverSide, .inr (9, [.ref a_this_serverSide_agreement, .ref a_this_serverSide_in, .ref a_this_serverSide_out, .ref a_this_serverSide_tree, .ref a_this_serverSide_disk, .ref a_this_serverSide_numbers, .ref a_this_serverSide_answers, .ref a_this_serverSide_counts, .ref a_this_serverSide_costs, .ref a_this_serverSide_bytes, .int v_serverSide_state, .int (nI v_serverSide_first), .int (nI v_serverSide_waiting), .int v_serverSide_ungranted, .int v_serverSide_answered])), (a_this_serverSide_disk, .inr (5, [.int v_serverSide_disk_power, .int v_serverSide_disk_blocksLeft, .int v_serverSide_disk_written, .int v_serverSide_disk_sinceCopy]))]) A) [.ref a_this].toArray s 0 0 A := ⟨_, rfl⟩
  rw [← hQ]
  refine j_lve (lv' := [(0, .ref a_this)]) rfl ?_
  refine j_aload_n X 0 dX11_server_0 rfl (q := 1) rfl ?_
  refine j_get (f := 1) X 0 inT11 rfl rfl (by decide) mw_X11_server_0 rfl dX11_server_1 (q := 4) rfl ?_
  refine j_get (f := 4) X 1 inT9 rfl rfl (by decide) mw_X11_server_1 rfl dX11_server_4 (q := 7) rfl ?_
  refine j_get (f := 0) X 2 inT5 rfl rfl (by decide) mw_X11_server_2 rfl dX11_server_7 (q := 10) rfl ?_
  refine j_if_eq (tgt := 23) X dX11_server_10 (by decide) (q := 13) rfl (fun c1 => ?_) (fun c1 => ?_)
  · skip
    refine j_bipush (v := -30) X dX11_server_23 (by decide) (q := 25) rfl ?_
    rw [hQ]
    exact j_iret X (()) dX11_server_25 (by first | rfl | (simp only [f_X11_server, if_pos c1]; done) | (simp only [f_X11_server, if_pos c1]; rfl)) rfl
  · skip
    refine j_aload_n X 0 dX11_server_13 rfl (q := 14) rfl ?_
    refine j_get (f := 1) X 0 inT11 rfl rfl (by decide) mw_X11_server_0 rfl dX11_server_14 (q := 17) rfl ?_
    refine j_get (f := 10) X 1 inT9 rfl rfl (by decide) mw_X11_server_3 rfl dX11_server_17 (q := 20) rfl ?_
    refine j_goto (tgt := 25) X dX11_server_20 (by decide) ?_
    rw [hQ]
    exact j_iret X (()) dX11_server_25 (by first | rfl | (simp only [f_X11_server, if_neg c1]; done) | (simp only [f_X11_server, if_neg c1]; rfl)) rfl
theorem cal_X11_server : Cal yX11_server cX11_server 1 (some .int) 0 := ⟨tb_at 109 (by decide +kernel) (by decide +kernel), tb_at 594 (by decide +kernel) (by decide +kernel), by decide +kernel, by decide +kernel, by decide +kernel⟩
theorem cwi_X11_server : Cond.instanceMethod yX11_server ∈ tb := tb_at 592 (by decide +kernel) (by decide +kernel)
theorem cws_X11_server : Cond.selects yX11_server.cls yX11_server yX11_server ∈ tb := tb_at 593 (by decide +kernel) (by decide +kernel)
theorem mw_X11_put_0 : Cond.fieldLink "GuardedTree" 10 "GuardedTree" "clientSide" "LGuardedTree$Client;" ∈ tb := tb_at 471 (by decide +kernel) (by decide +kernel)
theorem mw_X11_put_1 : Cond.methodLink "GuardedTree" 61 yX3_keepWord ∈ tb := tb_at 599 (by decide +kernel) (by decide +kernel)
theorem dX11_put_0 : decode cX11_put 0 = .ok (.aload_n 0, 1) := by decide +kernel
theorem dX11_put_1 : decode cX11_put 1 = .ok (.getfield 10, 3) := by decide +kernel
theorem dX11_put_4 : decode cX11_put 4 = .ok (.iload_n 1, 1) := by decide +kernel
theorem dX11_put_5 : decode cX11_put 5 = .ok (.invokevirtual 61, 3) := by decide +kernel
theorem dX11_put_8 : decode cX11_put 8 = .ok (.ireturn, 1) := by decide +kernel
noncomputable def f_X11_put (v_clientSide_wordCount : Nat) (f_clientSide_words : Nat → Int32) (x1 : Int32) : Int32 × (Nat) × (Nat → Int32) :=
  let w3 := f_X3_keepWord v_clientSide_wordCount f_clientSide_words x1
  (w3.1, w3.2.1, w3.2.2)
set_option maxHeartbeats 4000000 in
set_option maxRecDepth 100000 in
theorem c_X11_put (l : Launch) (D : va_G) (ct : Nat → ClassId) (ts : Nat → Nat) (a_this a_this_clientSide a_this_clientSide_words a_this_serverSide a_this_toServer a_this_toClient a_this_clientSide_agreement a_this_clientSide_in a_this_clientSide_out a_this_clientSide_requests : Nat) (v_connections : Int32) (v_clientSide_state : Int32) (v_clientSide_asked : Nat) (v_clientSide_wordCount : Nat) (v_clientSide_ungranted : Int32) (f_clientSide_words : Nat → Int32) (x1 : Int32)  (h_w : v_clientSide_wordCount ≤ 16)  (sz : Nat) : Met l yX11_put (Cond.code yX11_put cX11_put 2 (some .int) :: tb) { frames := 1, cells := 0, slots := 0, locals := 21 } (PcG D ct SXL ts [.ref a_this, .int x1] [(a_this, .inr (11, [.ref a_this_clientSide, .ref a_this_serverSide, .ref a_this_toServer, .ref a_this_toClient, .int v_connections])), (a_this_clientSide, .inr (3, [.ref a_this_clientSide_agreement, .ref a_this_clientSide_in, .ref a_this_clientSide_out, .ref a_this_clientSide_requests, .ref a_this_clientSide_words, .int v_clientSide_state, .int (nI v_clientSide_asked), .int (nI v_clientSide_wordCount), .int v_clientSide_ungranted])), (a_this_clientSide_words, .inl (ct 0, 16, .inl f_clientSide_words))] sz) (va_Qi (fun (r : Int32) (u : (Nat) × (Nat → Int32)) => (r, u) = f_X11_put v_clientSide_wordCount f_clientSide_words x1) (fun u => BG D ct (va_A [(a_this, .inr (11, [.ref a_this_clientSide, .ref a_this_serverSide, .ref a_this_toServer, .ref a_this_toClient, .int v_connections])), (a_this_clientSide, .inr (3, [.ref a_this_clientSide_agreement, .ref a_this_clientSide_in, .ref a_this_clientSide_out, .ref a_this_clientSide_requests, .ref a_this_clientSide_words, .int v_clientSide_state, .int (nI v_clientSide_asked), .int (nI v_clientSide_wordCount), .int v_clientSide_ungranted])), (a_this_clientSide_words, .inl (ct 0, 16, .inl f_clientSide_words))] sz) [(a_this, .inr (11, [.ref a_this_clientSide, .ref a_this_serverSide, .ref a_this_toServer, .ref a_this_toClient, .int v_connections])), (a_this_clientSide, .inr (3, [.ref a_this_clientSide_agreement, .ref a_this_clientSide_in, .ref a_this_clientSide_out, .ref a_this_clientSide_requests, .ref a_this_clientSide_words, .int v_clientSide_state, .int (nI v_clientSide_asked), .int (nI u.1), .int v_clientSide_ungranted])), (a_this_clientSide_words, .inl (ct 0, 16, .inl u.2))]) (va_A [(a_this, .inr (11, [.ref a_this_clientSide, .ref a_this_serverSide, .ref a_this_toServer, .ref a_this_toClient, .int v_connections])), (a_this_clientSide, .inr (3, [.ref a_this_clientSide_agreement, .ref a_this_clientSide_in, .ref a_this_clientSide_out, .ref a_this_clientSide_requests, .ref a_this_clientSide_words, .int v_clientSide_state, .int (nI v_clientSide_asked), .int (nI v_clientSide_wordCount), .int v_clientSide_ungranted])), (a_this_clientSide_words, .inl (ct 0, 16, .inl f_clientSide_words))] sz)) 0 0 (va_A [(a_this, .inr (11, [.ref a_this_clientSide, .ref a_this_serverSide, .ref a_this_toServer, .ref a_this_toClient, .int v_connections])), (a_this_clientSide, .inr (3, [.ref a_this_clientSide_agreement, .ref a_this_clientSide_in, .ref a_this_clientSide_out, .ref a_this_clientSide_requests, .ref a_this_clientSide_words, .int v_clientSide_state, .int (nI v_clientSide_asked), .int (nI v_clientSide_wordCount), .int v_clientSide_ungranted])), (a_this_clientSide_words, .inl (ct 0, 16, .inl f_clientSide_words))] sz) := by
  refine metJ (l := l) (y := yX11_put) (cc := cX11_put) (maxL := 2) (ret := (some .int)) (rm := { frames := 1, cells := 0, slots := 0, locals := 21 }) (D := D) (ct := ct) (L := SXL) (ts := ts) (av := [.ref a_this, .int x1]) (ws := [(a_this, .inr (11, [.ref a_this_clientSide, .ref a_this_serverSide, .ref a_this_toServer, .ref a_this_toClient, .int v_connections])), (a_this_clientSide, .inr (3, [.ref a_this_clientSide_agreement, .ref a_this_clientSide_in, .ref a_this_clientSide_out, .ref a_this_clientSide_requests, .ref a_this_clientSide_words, .int v_clientSide_state, .int (nI v_clientSide_asked), .int (nI v_clientSide_wordCount), .int v_clientSide_ungranted])), (a_this_clientSide_words, .inl (ct 0, 16, .inl f_clientSide_words))]) (sz := sz) (mc := 0) (ms := 0) (QcF := fun A => va_Qi (fun (r : Int32) (u : (Nat) × (Nat → Int32)) => (r, u) = f_X11_put v_clientSide_wordCount f_clientSide_words x1) (fun u => BG D ct A [(a_this, .inr (11, [.ref a_this_clientSide, .ref a_this_serverSide, .ref a_this_toServer, .ref a_this_toClient, .int v_connections])), (a_this_clientSide, .inr (3, [.ref a_this_clientSide_agreement, .ref a_this_clientSide_in, .ref a_this_clientSide_out, .ref a_this_clientSide_requests, .ref a_this_clientSide_words, .int v_clientSide_state, .int (nI v_clientSide_asked), .int (nI u.1), .int v_clientSide_ungranted])), (a_this_clientSide_words, .inl (ct 0, 16, .inl u.2))]) A) (by decide) (Nat.le_of_ble_eq_true rfl) ?_
  intro p e s m below meth c A X hnm
  obtain ⟨Q, hQ⟩ : ∃ Q, Q = MQ below (va_Qi (fun (r : Int32) (u : (Nat) × (Nat → Int32)) => (r, u) = f_X11_put v_clientSide_wordCount f_clientSide_words x1) (fun u => BG D ct A [(a_this, .inr (11, [.ref a_this_clientSide, .ref a_this_serverSide, .ref a_this_toServer, .ref a_this_toClient, .int v_connections])), (a_this_clientSide, .inr (3, [.ref a_this_clientSide_agreement, .ref a_this_clientSide_in, .ref a_this_clientSide_out, .ref a_this_clientSide_requests, .ref a_this_clientSide_words, .int v_clientSide_state, .int (nI v_clientSide_asked), .int (nI u.1), .int v_clientSide_ungranted])), (a_this_clientSide_words, .inl (ct 0, 16, .inl u.2))]) A) [.ref a_this, .int x1].toArray s 0 0 A := ⟨_, rfl⟩
  rw [← hQ]
  refine j_lve (lv' := [(0, .ref a_this), (1, .int x1)]) rfl ?_
  refine j_aload_n X 0 dX11_put_0 rfl (q := 1) rfl ?_
  refine j_get (f := 0) X 0 inT11 rfl rfl (by decide) mw_X11_put_0 rfl dX11_put_1 (q := 4) rfl ?_
  refine j_iload_n X 1 dX11_put_4 rfl (q := 5) rfl ?_
  refine j_callVi (As := [.int x1]) (rest := []) (wn := (fun u1 => [(a_this, .inr (11, [.ref a_this_clientSide, .ref a_this_serverSide, .ref a_this_toServer, .ref a_this_toClient, .int v_connections])), (a_this_clientSide, .inr (3, [.ref a_this_clientSide_agreement, .ref a_this_clientSide_in, .ref a_this_clientSide_out, .ref a_this_clientSide_requests, .ref a_this_clientSide_words, .int v_clientSide_state, .int (nI v_clientSide_asked), .int (nI u1.1), .int v_clientSide_ungranted])), (a_this_clientSide_words, .inl (ct 0, 16, .inl u1.2))])) (wr := [(a_this, .inr (11, [.ref a_this_clientSide, .ref a_this_serverSide, .ref a_this_toServer, .ref a_this_toClient, .int v_connections]))]) X (fun sz => c_X3_keepWord l D ct ts a_this_clientSide a_this_clientSide_words a_this_clientSide_agreement a_this_clientSide_in a_this_clientSide_out a_this_clientSide_requests v_clientSide_state v_clientSide_asked v_clientSide_wordCount v_clientSide_ungranted f_clientSide_words x1 (by first | omega | assumption) sz) cal_X3_keepWord 1 rfl rfl mw_X11_put_1 cwi_X3_keepWord cws_X3_keepWord rfl ⟨by decide, by decide⟩ rfl rfl (Nat.le_of_ble_eq_true rfl) ⟨by decide, by decide⟩ [1, 2] [0] [0, 1, 2] rfl (by decide) rfl (by decide) (by decide) (fun _ => rfl) (by decide) dX11_put_5 (q := 8) rfl (fun r2 u1 hu1 => ?_)
  obtain ⟨w3, e_w3, rfl, rfl⟩ : ∃ w, w = f_X3_keepWord v_clientSide_wordCount f_clientSide_words x1 ∧ r2 = w.1 ∧ u1 = w.2 := ⟨_, rfl, congrArg Prod.fst hu1, congrArg Prod.snd hu1⟩
  rw [hQ]
  exact j_iret X ((w3.2.1, w3.2.2)) dX11_put_8 (by subst e_w3; rfl) rfl
theorem cal_X11_put : Cal yX11_put cX11_put 2 (some .int) 1 := ⟨tb_at 109 (by decide +kernel) (by decide +kernel), tb_at 598 (by decide +kernel) (by decide +kernel), by decide +kernel, by decide +kernel, by decide +kernel⟩
theorem cwi_X11_put : Cond.instanceMethod yX11_put ∈ tb := tb_at 596 (by decide +kernel) (by decide +kernel)
theorem cws_X11_put : Cond.selects yX11_put.cls yX11_put yX11_put ∈ tb := tb_at 597 (by decide +kernel) (by decide +kernel)
theorem mw_X11_cut_0 : Cond.fieldLink "GuardedTree" 19 "GuardedTree" "serverSide" "LGuardedTree$Server;" ∈ tb := tb_at 472 (by decide +kernel) (by decide +kernel)
theorem mw_X11_cut_1 : Cond.fieldLink "GuardedTree" 33 "GuardedTree$Server" "disk" "LGuardedTree$Disk;" ∈ tb := tb_at 413 (by decide +kernel) (by decide +kernel)
theorem mw_X11_cut_2 : Cond.fieldLink "GuardedTree" 37 "GuardedTree$Disk" "power" "Z" ∈ tb := tb_at 392 (by decide +kernel) (by decide +kernel)
theorem mw_X11_cut_3 : Cond.fieldLink "GuardedTree" 143 "GuardedTree$Disk" "blocksLeft" "I" ∈ tb := tb_at 394 (by decide +kernel) (by decide +kernel)
theorem dX11_cut_0 : decode cX11_cut 0 = .ok (.aload_n 0, 1) := by decide +kernel
theorem dX11_cut_1 : decode cX11_cut 1 = .ok (.getfield 19, 3) := by decide +kernel
theorem dX11_cut_4 : decode cX11_cut 4 = .ok (.getfield 33, 3) := by decide +kernel
theorem dX11_cut_7 : decode cX11_cut 7 = .ok (.getfield 37, 3) := by decide +kernel
theorem dX11_cut_10 : decode cX11_cut 10 = .ok (.ifCond .eq 25, 3) := by decide +kernel
theorem dX11_cut_13 : decode cX11_cut 13 = .ok (.iload_n 1, 1) := by decide +kernel
theorem dX11_cut_14 : decode cX11_cut 14 = .ok (.iconst (-1), 1) := by decide +kernel
theorem dX11_cut_15 : decode cX11_cut 15 = .ok (.if_icmp .lt 20, 3) := by decide +kernel
theorem dX11_cut_18 : decode cX11_cut 18 = .ok (.iload_n 1, 1) := by decide +kernel
theorem dX11_cut_19 : decode cX11_cut 19 = .ok (.sipush 1000, 3) := by decide +kernel
theorem dX11_cut_22 : decode cX11_cut 22 = .ok (.if_icmp .gt 13, 3) := by decide +kernel
theorem dX11_cut_25 : decode cX11_cut 25 = .ok (.iload_n 2, 1) := by decide +kernel
theorem dX11_cut_26 : decode cX11_cut 26 = .ok (.ifCond .lt 9, 3) := by decide +kernel
theorem dX11_cut_29 : decode cX11_cut 29 = .ok (.iload_n 2, 1) := by decide +kernel
theorem dX11_cut_30 : decode cX11_cut 30 = .ok (.bipush 31, 2) := by decide +kernel
theorem dX11_cut_32 : decode cX11_cut 32 = .ok (.if_icmp .le 5, 3) := by decide +kernel
theorem dX11_cut_35 : decode cX11_cut 35 = .ok (.iconst 0, 1) := by decide +kernel
theorem dX11_cut_36 : decode cX11_cut 36 = .ok (.ireturn, 1) := by decide +kernel
theorem dX11_cut_37 : decode cX11_cut 37 = .ok (.aload_n 0, 1) := by decide +kernel
theorem dX11_cut_38 : decode cX11_cut 38 = .ok (.getfield 19, 3) := by decide +kernel
theorem dX11_cut_41 : decode cX11_cut 41 = .ok (.getfield 33, 3) := by decide +kernel
theorem dX11_cut_44 : decode cX11_cut 44 = .ok (.iload_n 1, 1) := by decide +kernel
theorem dX11_cut_45 : decode cX11_cut 45 = .ok (.putfield 143, 3) := by decide +kernel
theorem dX11_cut_48 : decode cX11_cut 48 = .ok (.iconst 1, 1) := by decide +kernel
theorem dX11_cut_49 : decode cX11_cut 49 = .ok (.ireturn, 1) := by decide +kernel
noncomputable def f_X11_cut (v_serverSide_disk_power : Int32) (v_serverSide_disk_blocksLeft : Int32) (x1 : Int32) (x2 : Int32) : Int32 × (Int32) :=
  if v_serverSide_disk_power = 0 then
  ((nI 0, v_serverSide_disk_blocksLeft))
  else
  (if x1 < ((-1)) then
  ((nI 0, v_serverSide_disk_blocksLeft))
  else
  (if (nI 1000) < x1 then
  ((nI 0, v_serverSide_disk_blocksLeft))
  else
  (if x2 < 0 then
  ((nI 0, v_serverSide_disk_blocksLeft))
  else
  (if x2 ≤ (nI 31) then
  ((nI 1, x1))
  else
  ((nI 0, v_serverSide_disk_blocksLeft))))))
set_option maxHeartbeats 4000000 in
set_option maxRecDepth 100000 in
theorem c_X11_cut (l : Launch) (D : va_G) (ct : Nat → ClassId) (ts : Nat → Nat) (a_this a_this_serverSide a_this_serverSide_disk a_this_clientSide a_this_toServer a_this_toClient a_this_serverSide_agreement a_this_serverSide_in a_this_serverSide_out a_this_serverSide_tree a_this_serverSide_numbers a_this_serverSide_answers a_this_serverSide_counts a_this_serverSide_costs a_this_serverSide_bytes : Nat) (v_connections : Int32) (v_serverSide_state : Int32) (v_serverSide_first : Nat) (v_serverSide_waiting : Nat) (v_serverSide_ungranted : Int32) (v_serverSide_answered : Int32) (v_serverSide_disk_power : Int32) (v_serverSide_disk_blocksLeft : Int32) (v_serverSide_disk_written : Int32) (v_serverSide_disk_sinceCopy : Int32) (x1 : Int32) (x2 : Int32)    (sz : Nat) : Met l yX11_cut (Cond.code yX11_cut cX11_cut 3 (some .boolean) :: tb) { frames := 0, cells := 0, slots := 0, locals := 0 } (PcG D ct SXL ts [.ref a_this, .int x1, .int x2] [(a_this, .inr (11, [.ref a_this_clientSide, .ref a_this_serverSide, .ref a_this_toServer, .ref a_this_toClient, .int v_connections])), (a_this_serverSide, .inr (9, [.ref a_this_serverSide_agreement, .ref a_this_serverSide_in, .ref a_this_serverSide_out, .ref a_this_serverSide_tree, .ref a_this_serverSide_disk, .ref a_this_serverSide_numbers, .ref a_this_serverSide_answers, .ref a_this_serverSide_counts, .ref a_this_serverSide_costs, .ref a_this_serverSide_bytes, .int v_serverSide_state, .int (nI v_serverSide_first), .int (nI v_serverSide_waiting), .int v_serverSide_ungranted, .int v_serverSide_answered])), (a_this_serverSide_disk, .inr (5, [.int v_serverSide_disk_power, .int v_serverSide_disk_blocksLeft, .int v_serverSide_disk_written, .int v_serverSide_disk_sinceCopy]))] sz) (va_Qi (fun (r : Int32) (u : (Int32)) => (r, u) = f_X11_cut v_serverSide_disk_power v_serverSide_disk_blocksLeft x1 x2) (fun u => BG D ct (va_A [(a_this, .inr (11, [.ref a_this_clientSide, .ref a_this_serverSide, .ref a_this_toServer, .ref a_this_toClient, .int v_connections])), (a_this_serverSide, .inr (9, [.ref a_this_serverSide_agreement, .ref a_this_serverSide_in, .ref a_this_serverSide_out, .ref a_this_serverSide_tree, .ref a_this_serverSide_disk, .ref a_this_serverSide_numbers, .ref a_this_serverSide_answers, .ref a_this_serverSide_counts, .ref a_this_serverSide_costs, .ref a_this_serverSide_bytes, .int v_serverSide_state, .int (nI v_serverSide_first), .int (nI v_serverSide_waiting), .int v_serverSide_ungranted, .int v_serverSide_answered])), (a_this_serverSide_disk, .inr (5, [.int v_serverSide_disk_power, .int v_serverSide_disk_blocksLeft, .int v_serverSide_disk_written, .int v_serverSide_disk_sinceCopy]))] sz) [(a_this, .inr (11, [.ref a_this_clientSide, .ref a_this_serverSide, .ref a_this_toServer, .ref a_this_toClient, .int v_connections])), (a_this_serverSide, .inr (9, [.ref a_this_serverSide_agreement, .ref a_this_serverSide_in, .ref a_this_serverSide_out, .ref a_this_serverSide_tree, .ref a_this_serverSide_disk, .ref a_this_serverSide_numbers, .ref a_this_serverSide_answers, .ref a_this_serverSide_counts, .ref a_this_serverSide_costs, .ref a_this_serverSide_bytes, .int v_serverSide_state, .int (nI v_serverSide_first), .int (nI v_serverSide_waiting), .int v_serverSide_ungranted, .int v_serverSide_answered])), (a_this_serverSide_disk, .inr (5, [.int v_serverSide_disk_power, .int u, .int v_serverSide_disk_written, .int v_serverSide_disk_sinceCopy]))]) (va_A [(a_this, .inr (11, [.ref a_this_clientSide, .ref a_this_serverSide, .ref a_this_toServer, .ref a_this_toClient, .int v_connections])), (a_this_serverSide, .inr (9, [.ref a_this_serverSide_agreement, .ref a_this_serverSide_in, .ref a_this_serverSide_out, .ref a_this_serverSide_tree, .ref a_this_serverSide_disk, .ref a_this_serverSide_numbers, .ref a_this_serverSide_answers, .ref a_this_serverSide_counts, .ref a_this_serverSide_costs, .ref a_this_serverSide_bytes, .int v_serverSide_state, .int (nI v_serverSide_first), .int (nI v_serverSide_waiting), .int v_serverSide_ungranted, .int v_serverSide_answered])), (a_this_serverSide_disk, .inr (5, [.int v_serverSide_disk_power, .int v_serverSide_disk_blocksLeft, .int v_serverSide_disk_written, .int v_serverSide_disk_sinceCopy]))] sz)) 0 0 (va_A [(a_this, .inr (11, [.ref a_this_clientSide, .ref a_this_serverSide, .ref a_this_toServer, .ref a_this_toClient, .int v_connections])), (a_this_serverSide, .inr (9, [.ref a_this_serverSide_agreement, .ref a_this_serverSide_in, .ref a_this_serverSide_out, .ref a_this_serverSide_tree, .ref a_this_serverSide_disk, .ref a_this_serverSide_numbers, .ref a_this_serverSide_answers, .ref a_this_serverSide_counts, .ref a_this_serverSide_costs, .ref a_this_serverSide_bytes, .int v_serverSide_state, .int (nI v_serverSide_first), .int (nI v_serverSide_waiting), .int v_serverSide_ungranted, .int v_serverSide_answered])), (a_this_serverSide_disk, .inr (5, [.int v_serverSide_disk_power, .int v_serverSide_disk_blocksLeft, .int v_serverSide_disk_written, .int v_serverSide_disk_sinceCopy]))] sz) := by
  refine metJ (l := l) (y := yX11_cut) (cc := cX11_cut) (maxL := 3) (ret := (some .boolean)) (rm := { frames := 0, cells := 0, slots := 0, locals := 0 }) (D := D) (ct := ct) (L := SXL) (ts := ts) (av := [.ref a_this, .int x1, .int x2]) (ws := [(a_this, .inr (11, [.ref a_this_clientSide, .ref a_this_serverSide, .ref a_this_toServer, .ref a_this_toClient, .int v_connections])), (a_this_serverSide, .inr (9, [.ref a_this_serverSide_agreement, .ref a_this_serverSide_in, .ref a_this_serverSide_out, .ref a_this_serverSide_tree, .ref a_this_serverSide_disk, .ref a_this_serverSide_numbers, .ref a_this_serverSide_answers, .ref a_this_serverSide_counts, .ref a_this_serverSide_costs, .ref a_this_serverSide_bytes, .int v_serverSide_state, .int (nI v_serverSide_first), .int (nI v_serverSide_waiting), .int v_serverSide_ungranted, .int v_serverSide_answered])), (a_this_serverSide_disk, .inr (5, [.int v_serverSide_disk_power, .int v_serverSide_disk_blocksLeft, .int v_serverSide_disk_written, .int v_serverSide_disk_sinceCopy]))]) (sz := sz) (mc := 0) (ms := 0) (QcF := fun A => va_Qi (fun (r : Int32) (u : (Int32)) => (r, u) = f_X11_cut v_serverSide_disk_power v_serverSide_disk_blocksLeft x1 x2) (fun u => BG D ct A [(a_this, .inr (11, [.ref a_this_clientSide, .ref a_this_serverSide, .ref a_this_toServer, .ref a_this_toClient, .int v_connections])), (a_this_serverSide, .inr (9, [.ref a_this_serverSide_agreement, .ref a_this_serverSide_in, .ref a_this_serverSide_out, .ref a_this_serverSide_tree, .ref a_this_serverSide_disk, .ref a_this_serverSide_numbers, .ref a_this_serverSide_answers, .ref a_this_serverSide_counts, .ref a_this_serverSide_costs, .ref a_this_serverSide_bytes, .int v_serverSide_state, .int (nI v_serverSide_first), .int (nI v_serverSide_waiting), .int v_serverSide_ungranted, .int v_serverSide_answered])), (a_this_serverSide_disk, .inr (5, [.int v_serverSide_disk_power, .int u, .int v_serverSide_disk_written, .int v_serverSide_disk_sinceCopy]))]) A) (by decide) (Nat.le_of_ble_eq_true rfl) ?_
  intro p e s m below meth c A X hnm
  obtain ⟨Q, hQ⟩ : ∃ Q, Q = MQ below (va_Qi (fun (r : Int32) (u : (Int32)) => (r, u) = f_X11_cut v_serverSide_disk_power v_serverSide_disk_blocksLeft x1 x2) (fun u => BG D ct A [(a_this, .inr (11, [.ref a_this_clientSide, .ref a_this_serverSide, .ref a_this_toServer, .ref a_this_toClient, .int v_connections])), (a_this_serverSide, .inr (9, [.ref a_this_serverSide_agreement, .ref a_this_serverSide_in, .ref a_this_serverSide_out, .ref a_this_serverSide_tree, .ref a_this_serverSide_disk, .ref a_this_serverSide_numbers, .ref a_this_serverSide_answers, .ref a_this_serverSide_counts, .ref a_this_serverSide_costs, .ref a_this_serverSide_bytes, .int v_serverSide_state, .int (nI v_serverSide_first), .int (nI v_serverSide_waiting), .int v_serverSide_ungranted, .int v_serverSide_answered])), (a_this_serverSide_disk, .inr (5, [.int v_serverSide_disk_power, .int u, .int v_serverSide_disk_written, .int v_serverSide_disk_sinceCopy]))]) A) [.ref a_this, .int x1, .int x2].toArray s 0 0 A := ⟨_, rfl⟩
  rw [← hQ]
  refine j_lve (lv' := [(0, .ref a_this), (1, .int x1), (2, .int x2)]) rfl ?_
  refine j_aload_n X 0 dX11_cut_0 rfl (q := 1) rfl ?_
  refine j_get (f := 1) X 0 inT11 rfl rfl (by decide) mw_X11_cut_0 rfl dX11_cut_1 (q := 4) rfl ?_
  refine j_get (f := 4) X 1 inT9 rfl rfl (by decide) mw_X11_cut_1 rfl dX11_cut_4 (q := 7) rfl ?_
  refine j_get (f := 0) X 2 inT5 rfl rfl (by decide) mw_X11_cut_2 rfl dX11_cut_7 (q := 10) rfl ?_
  refine j_if_eq (tgt := 35) X dX11_cut_10 (by decide) (q := 13) rfl (fun c1 => ?_) (fun c1 => ?_)
  · skip
    refine j_iconst (v := nI 0) X dX11_cut_35 (by decide) (q := 36) rfl ?_
    rw [hQ]
    exact j_zret X v_serverSide_disk_blocksLeft (by decide) dX11_cut_36 (by first | rfl | (simp only [f_X11_cut, if_pos c1]; done) | (simp only [f_X11_cut, if_pos c1]; rfl)) rfl
  · skip
    refine j_iload_n X 1 dX11_cut_13 rfl (q := 14) rfl ?_
    refine j_iconst (v := -1) X dX11_cut_14 (by decide) (q := 15) rfl ?_
    refine j_icmp_lt (tgt := 35) X dX11_cut_15 (by decide) (q := 18) rfl (fun c2 => ?_) (fun c2 => ?_)
    · skip
      refine j_iconst (v := nI 0) X dX11_cut_35 (by decide) (q := 36) rfl ?_
      rw [hQ]
      exact j_zret X v_serverSide_disk_blocksLeft (by decide) dX11_cut_36 (by first | rfl | (simp only [f_X11_cut, if_neg c1, if_pos c2]; done) | (simp only [f_X11_cut, if_neg c1, if_pos c2]; rfl)) rfl
    · skip
      refine j_iload_n X 1 dX11_cut_18 rfl (q := 19) rfl ?_
      refine j_sipush (v := nI 1000) X dX11_cut_19 (by decide) (q := 22) rfl ?_
      refine j_icmp_gt (tgt := 35) X dX11_cut_22 (by decide) (q := 25) rfl (fun c3 => ?_) (fun c3 => ?_)
      · skip
        refine j_iconst (v := nI 0) X dX11_cut_35 (by decide) (q := 36) rfl ?_
        rw [hQ]
        exact j_zret X v_serverSide_disk_blocksLeft (by decide) dX11_cut_36 (by first | rfl | (simp only [f_X11_cut, if_neg c1, if_neg c2, if_pos c3]; done) | (simp only [f_X11_cut, if_neg c1, if_neg c2, if_pos c3]; rfl)) rfl
      · skip
        refine j_iload_n X 2 dX11_cut_25 rfl (q := 26) rfl ?_
        refine j_if_lt (tgt := 35) X dX11_cut_26 (by decide) (q := 29) rfl (fun c4 => ?_) (fun c4 => ?_)
        · skip
          refine j_iconst (v := nI 0) X dX11_cut_35 (by decide) (q := 36) rfl ?_
          rw [hQ]
          exact j_zret X v_serverSide_disk_blocksLeft (by decide) dX11_cut_36 (by first | rfl | (simp only [f_X11_cut, if_neg c1, if_neg c2, if_neg c3, if_pos c4]; done) | (simp only [f_X11_cut, if_neg c1, if_neg c2, if_neg c3, if_pos c4]; rfl)) rfl
        · skip
          refine j_iload_n X 2 dX11_cut_29 rfl (q := 30) rfl ?_
          refine j_bipush (v := nI 31) X dX11_cut_30 (by decide) (q := 32) rfl ?_
          refine j_icmp_le (tgt := 37) X dX11_cut_32 (by decide) (q := 35) rfl (fun c5 => ?_) (fun c5 => ?_)
          · skip
            refine j_aload_n X 0 dX11_cut_37 rfl (q := 38) rfl ?_
            refine j_get (f := 1) X 0 inT11 rfl rfl (by decide) mw_X11_cut_0 rfl dX11_cut_38 (q := 41) rfl ?_
            refine j_get (f := 4) X 1 inT9 rfl rfl (by decide) mw_X11_cut_1 rfl dX11_cut_41 (q := 44) rfl ?_
            refine j_iload_n X 1 dX11_cut_44 rfl (q := 45) rfl ?_
            refine j_put (f := 1) (ws2 := [(a_this, .inr (11, [.ref a_this_clientSide, .ref a_this_serverSide, .ref a_this_toServer, .ref a_this_toClient, .int v_connections])), (a_this_serverSide, .inr (9, [.ref a_this_serverSide_agreement, .ref a_this_serverSide_in, .ref a_this_serverSide_out, .ref a_this_serverSide_tree, .ref a_this_serverSide_disk, .ref a_this_serverSide_numbers, .ref a_this_serverSide_answers, .ref a_this_serverSide_counts, .ref a_this_serverSide_costs, .ref a_this_serverSide_bytes, .int v_serverSide_state, .int (nI v_serverSide_first), .int (nI v_serverSide_waiting), .int v_serverSide_ungranted, .int v_serverSide_answered])), (a_this_serverSide_disk, .inr (5, [.int v_serverSide_disk_power, .int x1, .int v_serverSide_disk_written, .int v_serverSide_disk_sinceCopy]))]) (ty := .int) X 2 inT5 tyX5_ok nmX5 rfl rfl (by decide) mw_X11_cut_3 rfl rfl rfl rfl (Nat.le_of_ble_eq_true rfl) dX11_cut_45 rfl (q := 48) rfl ?_
            refine j_iconst (v := nI 1) X dX11_cut_48 (by decide) (q := 49) rfl ?_
            rw [hQ]
            exact j_zret X x1 (by decide) dX11_cut_49 (by first | rfl | (simp only [f_X11_cut, if_neg c1, if_neg c2, if_neg c3, if_neg c4, if_pos c5]; done) | (simp only [f_X11_cut, if_neg c1, if_neg c2, if_neg c3, if_neg c4, if_pos c5]; rfl)) rfl
          · skip
            refine j_iconst (v := nI 0) X dX11_cut_35 (by decide) (q := 36) rfl ?_
            rw [hQ]
            exact j_zret X v_serverSide_disk_blocksLeft (by decide) dX11_cut_36 (by first | rfl | (simp only [f_X11_cut, if_neg c1, if_neg c2, if_neg c3, if_neg c4, if_neg c5]; done) | (simp only [f_X11_cut, if_neg c1, if_neg c2, if_neg c3, if_neg c4, if_neg c5]; rfl)) rfl
theorem cal_X11_cut : Cal yX11_cut cX11_cut 3 (some .boolean) 2 := ⟨tb_at 109 (by decide +kernel) (by decide +kernel), tb_at 614 (by decide +kernel) (by decide +kernel), by decide +kernel, by decide +kernel, by decide +kernel⟩
theorem cwi_X11_cut : Cond.instanceMethod yX11_cut ∈ tb := tb_at 612 (by decide +kernel) (by decide +kernel)
theorem cws_X11_cut : Cond.selects yX11_cut.cls yX11_cut yX11_cut ∈ tb := tb_at 613 (by decide +kernel) (by decide +kernel)
theorem mw_X11_start_0 : Cond.fieldLink "GuardedTree" 19 "GuardedTree" "serverSide" "LGuardedTree$Server;" ∈ tb := tb_at 472 (by decide +kernel) (by decide +kernel)
theorem mw_X11_start_1 : Cond.fieldLink "GuardedTree" 33 "GuardedTree$Server" "disk" "LGuardedTree$Disk;" ∈ tb := tb_at 413 (by decide +kernel) (by decide +kernel)
theorem mw_X11_start_2 : Cond.fieldLink "GuardedTree" 37 "GuardedTree$Disk" "power" "Z" ∈ tb := tb_at 392 (by decide +kernel) (by decide +kernel)
theorem mw_X11_start_3 : Cond.fieldLink "GuardedTree" 146 "GuardedTree$Disk" "written" "I" ∈ tb := tb_at 396 (by decide +kernel) (by decide +kernel)
theorem dX11_start_0 : decode cX11_start 0 = .ok (.aload_n 0, 1) := by decide +kernel
theorem dX11_start_1 : decode cX11_start 1 = .ok (.getfield 19, 3) := by decide +kernel
theorem dX11_start_4 : decode cX11_start 4 = .ok (.getfield 33, 3) := by decide +kernel
theorem dX11_start_7 : decode cX11_start 7 = .ok (.getfield 37, 3) := by decide +kernel
theorem dX11_start_10 : decode cX11_start 10 = .ok (.ifCond .eq 5, 3) := by decide +kernel
theorem dX11_start_13 : decode cX11_start 13 = .ok (.iconst (-1), 1) := by decide +kernel
theorem dX11_start_14 : decode cX11_start 14 = .ok (.ireturn, 1) := by decide +kernel
theorem dX11_start_15 : decode cX11_start 15 = .ok (.aload_n 0, 1) := by decide +kernel
theorem dX11_start_16 : decode cX11_start 16 = .ok (.getfield 19, 3) := by decide +kernel
theorem dX11_start_19 : decode cX11_start 19 = .ok (.getfield 33, 3) := by decide +kernel
theorem dX11_start_22 : decode cX11_start 22 = .ok (.iconst 1, 1) := by decide +kernel
theorem dX11_start_23 : decode cX11_start 23 = .ok (.putfield 37, 3) := by decide +kernel
theorem dX11_start_26 : decode cX11_start 26 = .ok (.aload_n 0, 1) := by decide +kernel
theorem dX11_start_27 : decode cX11_start 27 = .ok (.getfield 19, 3) := by decide +kernel
theorem dX11_start_30 : decode cX11_start 30 = .ok (.getfield 33, 3) := by decide +kernel
theorem dX11_start_33 : decode cX11_start 33 = .ok (.getfield 146, 3) := by decide +kernel
theorem dX11_start_36 : decode cX11_start 36 = .ok (.ireturn, 1) := by decide +kernel
noncomputable def f_X11_start (v_serverSide_disk_power : Int32) (v_serverSide_disk_written : Int32) : Int32 × (Int32) :=
  if v_serverSide_disk_power = 0 then
  ((v_serverSide_disk_written, nI 1))
  else
  (((-1), v_serverSide_disk_power))
set_option maxHeartbeats 4000000 in
set_option maxRecDepth 100000 in
theorem c_X11_start (l : Launch) (D : va_G) (ct : Nat → ClassId) (ts : Nat → Nat) (a_this a_this_serverSide a_this_serverSide_disk a_this_clientSide a_this_toServer a_this_toClient a_this_serverSide_agreement a_this_serverSide_in a_this_serverSide_out a_this_serverSide_tree a_this_serverSide_numbers a_this_serverSide_answers a_this_serverSide_counts a_this_serverSide_costs a_this_serverSide_bytes : Nat) (v_connections : Int32) (v_serverSide_state : Int32) (v_serverSide_first : Nat) (v_serverSide_waiting : Nat) (v_serverSide_ungranted : Int32) (v_serverSide_answered : Int32) (v_serverSide_disk_power : Int32) (v_serverSide_disk_blocksLeft : Int32) (v_serverSide_disk_written : Int32) (v_serverSide_disk_sinceCopy : Int32)    (sz : Nat) : Met l yX11_start (Cond.code yX11_start cX11_start 1 (some .int) :: tb) { frames := 0, cells := 0, slots := 0, locals := 0 } (PcG D ct SXL ts [.ref a_this] [(a_this, .inr (11, [.ref a_this_clientSide, .ref a_this_serverSide, .ref a_this_toServer, .ref a_this_toClient, .int v_connections])), (a_this_serverSide, .inr (9, [.ref a_this_serverSide_agreement, .ref a_this_serverSide_in, .ref a_this_serverSide_out, .ref a_this_serverSide_tree, .ref a_this_serverSide_disk, .ref a_this_serverSide_numbers, .ref a_this_serverSide_answers, .ref a_this_serverSide_counts, .ref a_this_serverSide_costs, .ref a_this_serverSide_bytes, .int v_serverSide_state, .int (nI v_serverSide_first), .int (nI v_serverSide_waiting), .int v_serverSide_ungranted, .int v_serverSide_answered])), (a_this_serverSide_disk, .inr (5, [.int v_serverSide_disk_power, .int v_serverSide_disk_blocksLeft, .int v_serverSide_disk_written, .int v_serverSide_disk_sinceCopy]))] sz) (va_Qi (fun (r : Int32) (u : (Int32)) => (r, u) = f_X11_start v_serverSide_disk_power v_serverSide_disk_written) (fun u => BG D ct (va_A [(a_this, .inr (11, [.ref a_this_clientSide, .ref a_this_serverSide, .ref a_this_toServer, .ref a_this_toClient, .int v_connections])), (a_this_serverSide, .inr (9, [.ref a_this_serverSide_agreement, .ref a_this_serverSide_in, .ref a_this_serverSide_out, .ref a_this_serverSide_tree, .ref a_this_serverSide_disk, .ref a_this_serverSide_numbers, .ref a_this_serverSide_answers, .ref a_this_serverSide_counts, .ref a_this_serverSide_costs, .ref a_this_serverSide_bytes, .int v_serverSide_state, .int (nI v_serverSide_first), .int (nI v_serverSide_waiting), .int v_serverSide_ungranted, .int v_serverSide_answered])), (a_this_serverSide_disk, .inr (5, [.int v_serverSide_disk_power, .int v_serverSide_disk_blocksLeft, .int v_serverSide_disk_written, .int v_serverSide_disk_sinceCopy]))] sz) [(a_this, .inr (11, [.ref a_this_clientSide, .ref a_this_serverSide, .ref a_this_toServer, .ref a_this_toClient, .int v_connections])), (a_this_serverSide, .inr (9, [.ref a_this_serverSide_agreement, .ref a_this_serverSide_in, .ref a_this_serverSide_out, .ref a_this_serverSide_tree, .ref a_this_serverSide_disk, .ref a_this_serverSide_numbers, .ref a_this_serverSide_answers, .ref a_this_serverSide_counts, .ref a_this_serverSide_costs, .ref a_this_serverSide_bytes, .int v_serverSide_state, .int (nI v_serverSide_first), .int (nI v_serverSide_waiting), .int v_serverSide_ungranted, .int v_serverSide_answered])), (a_this_serverSide_disk, .inr (5, [.int u, .int v_serverSide_disk_blocksLeft, .int v_serverSide_disk_written, .int v_serverSide_disk_sinceCopy]))]) (va_A [(a_this, .inr (11, [.ref a_this_clientSide, .ref a_this_serverSide, .ref a_this_toServer, .ref a_this_toClient, .int v_connections])), (a_this_serverSide, .inr (9, [.ref a_this_serverSide_agreement, .ref a_this_serverSide_in, .ref a_this_serverSide_out, .ref a_this_serverSide_tree, .ref a_this_serverSide_disk, .ref a_this_serverSide_numbers, .ref a_this_serverSide_answers, .ref a_this_serverSide_counts, .ref a_this_serverSide_costs, .ref a_this_serverSide_bytes, .int v_serverSide_state, .int (nI v_serverSide_first), .int (nI v_serverSide_waiting), .int v_serverSide_ungranted, .int v_serverSide_answered])), (a_this_serverSide_disk, .inr (5, [.int v_serverSide_disk_power, .int v_serverSide_disk_blocksLeft, .int v_serverSide_disk_written, .int v_serverSide_disk_sinceCopy]))] sz)) 0 0 (va_A [(a_this, .inr (11, [.ref a_this_clientSide, .ref a_this_serverSide, .ref a_this_toServer, .ref a_this_toClient, .int v_connections])), (a_this_serverSide, .inr (9, [.ref a_this_serverSide_agreement, .ref a_this_serverSide_in, .ref a_this_serverSide_out, .ref a_this_serverSide_tree, .ref a_this_serverSide_disk, .ref a_this_serverSide_numbers, .ref a_this_serverSide_answers, .ref a_this_serverSide_counts, .ref a_this_serverSide_costs, .ref a_this_serverSide_bytes, .int v_serverSide_state, .int (nI v_serverSide_first), .int (nI v_serverSide_waiting), .int v_serverSide_ungranted, .int v_serverSide_answered])), (a_this_serverSide_disk, .inr (5, [.int v_serverSide_disk_power, .int v_serverSide_disk_blocksLeft, .int v_serverSide_disk_written, .int v_serverSide_disk_sinceCopy]))] sz) := by
  refine metJ (l := l) (y := yX11_start) (cc := cX11_start) (maxL := 1) (ret := (some .int)) (rm := { frames := 0, cells := 0, slots := 0, locals := 0 }) (D := D) (ct := ct) (L := SXL) (ts := ts) (av := [.ref a_this]) (ws := [(a_this, .inr (11, [.ref a_this_clientSide, .ref a_this_serverSide, .ref a_this_toServer, .ref a_this_toClient, .int v_connections])), (a_this_serverSide, .inr (9, [.ref a_this_serverSide_agreement, .ref a_this_serverSide_in, .ref a_this_serverSide_out, .ref a_this_serverSide_tree, .ref a_this_serverSide_disk, .ref a_this_serverSide_numbers, .ref a_this_serverSide_answers, .ref a_this_serverSide_counts, .ref a_this_serverSide_costs, .ref a_this_serverSide_bytes, .int v_serverSide_state, .int (nI v_serverSide_first), .int (nI v_serverSide_waiting), .int v_serverSide_ungranted, .int v_serverSide_answered])), (a_this_serverSide_disk, .inr (5, [.int v_serverSide_disk_power, .int v_serverSide_disk_blocksLeft, .int v_serverSide_disk_written, .int v_serverSide_disk_sinceCopy]))]) (sz := sz) (mc := 0) (ms := 0) (QcF := fun A => va_Qi (fun (r : Int32) (u : (Int32)) => (r, u) = f_X11_start v_serverSide_disk_power v_serverSide_disk_written) (fun u => BG D ct A [(a_this, .inr (11, [.ref a_this_clientSide, .ref a_this_serverSide, .ref a_this_toServer, .ref a_this_toClient, .int v_connections])), (a_this_serverSide, .inr (9, [.ref a_this_serverSide_agreement, .ref a_this_serverSide_in, .ref a_this_serverSide_out, .ref a_this_serverSide_tree, .ref a_this_serverSide_disk, .ref a_this_serverSide_numbers, .ref a_this_serverSide_answers, .ref a_this_serverSide_counts, .ref a_this_serverSide_costs, .ref a_this_serverSide_bytes, .int v_serverSide_state, .int (nI v_serverSide_first), .int (nI v_serverSide_waiting), .int v_serverSide_ungranted, .int v_serverSide_answered])), (a_this_serverSide_disk, .inr (5, [.int u, .int v_serverSide_disk_blocksLeft, .int v_serverSide_disk_written, .int v_serverSide_disk_sinceCopy]))]) A) (by decide) (Nat.le_of_ble_eq_true rfl) ?_
  intro p e s m below meth c A X hnm
  obtain ⟨Q, hQ⟩ : ∃ Q, Q = MQ below (va_Qi (fun (r : Int32) (u : (Int32)) => (r, u) = f_X11_start v_serverSide_disk_power v_serverSide_disk_written) (fun u => BG D ct A [(a_this, .inr (11, [.ref a_this_clientSide, .ref a_this_serverSide, .ref a_this_toServer, .ref a_this_toClient, .int v_connections])), (a_this_serverSide, .inr (9, [.ref a_this_serverSide_agreement, .ref a_this_serverSide_in, .ref a_this_serverSide_out, .ref a_this_serverSide_tree, .ref a_this_serverSide_disk, .ref a_this_serverSide_numbers, .ref a_this_serverSide_answers, .ref a_this_serverSide_counts, .ref a_this_serverSide_costs, .ref a_this_serverSide_bytes, .int v_serverSide_state, .int (nI v_serverSide_first), .int (nI v_serverSide_waiting), .int v_serverSide_ungranted, .int v_serverSide_answered])), (a_this_serverSide_disk, .inr (5, [.int u, .int v_serverSide_disk_blocksLeft, .int v_serverSide_disk_written, .int v_serverSide_disk_sinceCopy]))]) A) [.ref a_this].toArray s 0 0 A := ⟨_, rfl⟩
  rw [← hQ]
  refine j_lve (lv' := [(0, .ref a_this)]) rfl ?_
  refine j_aload_n X 0 dX11_start_0 rfl (q := 1) rfl ?_
  refine j_get (f := 1) X 0 inT11 rfl rfl (by decide) mw_X11_start_0 rfl dX11_start_1 (q := 4) rfl ?_
  refine j_get (f := 4) X 1 inT9 rfl rfl (by decide) mw_X11_start_1 rfl dX11_start_4 (q := 7) rfl ?_
  refine j_get (f := 0) X 2 inT5 rfl rfl (by decide) mw_X11_start_2 rfl dX11_start_7 (q := 10) rfl ?_
  refine j_if_eq (tgt := 15) X dX11_start_10 (by decide) (q := 13) rfl (fun c1 => ?_) (fun c1 => ?_)
  · skip
    refine j_aload_n X 0 dX11_start_15 rfl (q := 16) rfl ?_
    refine j_get (f := 1) X 0 inT11 rfl rfl (by decide) mw_X11_start_0 rfl dX11_start_16 (q := 19) rfl ?_
    refine j_get (f := 4) X 1 inT9 rfl rfl (by decide) mw_X11_start_1 rfl dX11_start_19 (q := 22) rfl ?_
    refine j_iconst (v := nI 1) X dX11_start_22 (by decide) (q := 23) rfl ?_
    refine j_put (f := 0) (ws2 := [(a_this, .inr (11, [.ref a_this_clientSide, .ref a_this_serverSide, .ref a_this_toServer, .ref a_this_toClient, .int v_connections])), (a_this_serverSide, .inr (9, [.ref a_this_serverSide_agreement, .ref a_this_serverSide_in, .ref a_this_serverSide_out, .ref a_this_serverSide_tree, .ref a_this_serverSide_disk, .ref a_this_serverSide_numbers, .ref a_this_serverSide_answers, .ref a_this_serverSide_counts, .ref a_this_serverSide_costs, .ref a_this_serverSide_bytes, .int v_serverSide_state, .int (nI v_serverSide_first), .int (nI v_serverSide_waiting), .int v_serverSide_ungranted, .int v_serverSide_answered])), (a_this_serverSide_disk, .inr (5, [.int (nI 1), .int v_serverSide_disk_blocksLeft, .int v_serverSide_disk_written, .int v_serverSide_disk_sinceCopy]))]) (ty := .boolean) X 2 inT5 tyX5_ok nmX5 rfl rfl (by decide) mw_X11_start_2 rfl rfl (by decide) (by decide) (Nat.le_of_ble_eq_true rfl) dX11_start_23 rfl (q := 26) rfl ?_
    refine j_aload_n X 0 dX11_start_26 rfl (q := 27) rfl ?_
    refine j_get (f := 1) X 0 inT11 rfl rfl (by decide) mw_X11_start_0 rfl dX11_start_27 (q := 30) rfl ?_
    refine j_get (f := 4) X 1 inT9 rfl rfl (by decide) mw_X11_start_1 rfl dX11_start_30 (q := 33) rfl ?_
    refine j_get (f := 2) X 2 inT5 rfl rfl (by decide) mw_X11_start_3 rfl dX11_start_33 (q := 36) rfl ?_
    rw [hQ]
    exact j_iret X (nI 1) dX11_start_36 (by first | rfl | (simp only [f_X11_start, if_pos c1]; done) | (simp only [f_X11_start, if_pos c1]; rfl)) rfl
  · skip
    refine j_iconst (v := -1) X dX11_start_13 (by decide) (q := 14) rfl ?_
    rw [hQ]
    exact j_iret X v_serverSide_disk_power dX11_start_14 (by first | rfl | (simp only [f_X11_start, if_neg c1]; done) | (simp only [f_X11_start, if_neg c1]; rfl)) rfl
theorem cal_X11_start : Cal yX11_start cX11_start 1 (some .int) 0 := ⟨tb_at 109 (by decide +kernel) (by decide +kernel), tb_at 618 (by decide +kernel) (by decide +kernel), by decide +kernel, by decide +kernel, by decide +kernel⟩
theorem cwi_X11_start : Cond.instanceMethod yX11_start ∈ tb := tb_at 616 (by decide +kernel) (by decide +kernel)
theorem cws_X11_start : Cond.selects yX11_start.cls yX11_start yX11_start ∈ tb := tb_at 617 (by decide +kernel) (by decide +kernel)
theorem mw_X11_changes_0 : Cond.fieldLink "GuardedTree" 19 "GuardedTree" "serverSide" "LGuardedTree$Server;" ∈ tb := tb_at 472 (by decide +kernel) (by decide +kernel)
theorem mw_X11_changes_1 : Cond.fieldLink "GuardedTree" 33 "GuardedTree$Server" "disk" "LGuardedTree$Disk;" ∈ tb := tb_at 413 (by decide +kernel) (by decide +kernel)
theorem mw_X11_changes_2 : Cond.fieldLink "GuardedTree" 37 "GuardedTree$Disk" "power" "Z" ∈ tb := tb_at 392 (by decide +kernel) (by decide +kernel)
theorem mw_X11_changes_3 : Cond.fieldLink "GuardedTree" 146 "GuardedTree$Disk" "written" "I" ∈ tb := tb_at 396 (by decide +kernel) (by decide +kernel)
theorem dX11_changes_0 : decode cX11_changes 0 = .ok (.aload_n 0, 1) := by decide +kernel
theorem dX11_changes_1 : decode cX11_changes 1 = .ok (.getfield 19, 3) := by decide +kernel
theorem dX11_changes_4 : decode cX11_changes 4 = .ok (.getfield 33, 3) := by decide +kernel
theorem dX11_changes_7 : decode cX11_changes 7 = .ok (.getfield 37, 3) := by decide +kernel
theorem dX11_changes_10 : decode cX11_changes 10 = .ok (.ifCond .eq 16, 3) := by decide +kernel
theorem dX11_changes_13 : decode cX11_changes 13 = .ok (.aload_n 0, 1) := by decide +kernel
theorem dX11_changes_14 : decode cX11_changes 14 = .ok (.getfield 19, 3) := by decide +kernel
theorem dX11_changes_17 : decode cX11_changes 17 = .ok (.getfield 33, 3) := by decide +kernel
theorem dX11_changes_20 : decode cX11_changes 20 = .ok (.getfield 146, 3) := by decide +kernel
theorem dX11_changes_23 : decode cX11_changes 23 = .ok (.goto 5, 3) := by decide +kernel
theorem dX11_changes_26 : decode cX11_changes 26 = .ok (.bipush (-30), 2) := by decide +kernel
theorem dX11_changes_28 : decode cX11_changes 28 = .ok (.ireturn, 1) := by decide +kernel
noncomputable def f_X11_changes (v_serverSide_disk_power : Int32) (v_serverSide_disk_written : Int32) : Int32 :=
  if v_serverSide_disk_power = 0 then
  ((-30))
  else
  (v_serverSide_disk_written)
set_option maxHeartbeats 4000000 in
set_option maxRecDepth 100000 in
theorem c_X11_changes (l : Launch) (D : va_G) (ct : Nat → ClassId) (ts : Nat → Nat) (a_this a_this_serverSide a_this_serverSide_disk a_this_clientSide a_this_toServer a_this_toClient a_this_serverSide_agreement a_this_serverSide_in a_this_serverSide_out a_this_serverSide_tree a_this_serverSide_numbers a_this_serverSide_answers a_this_serverSide_counts a_this_serverSide_costs a_this_serverSide_bytes : Nat) (v_connections : Int32) (v_serverSide_state : Int32) (v_serverSide_first : Nat) (v_serverSide_waiting : Nat) (v_serverSide_ungranted : Int32) (v_serverSide_answered : Int32) (v_serverSide_disk_power : Int32) (v_serverSide_disk_blocksLeft : Int32) (v_serverSide_disk_written : Int32) (v_serverSide_disk_sinceCopy : Int32)    (sz : Nat) : Met l yX11_changes (Cond.code yX11_changes cX11_changes 1 (some .int) :: tb) { frames := 0, cells := 0, slots := 0, locals := 0 } (PcG D ct SXL ts [.ref a_this] [(a_this, .inr (11, [.ref a_this_clientSide, .ref a_this_serverSide, .ref a_this_toServer, .ref a_this_toClient, .int v_connections])), (a_this_serverSide, .inr (9, [.ref a_this_serverSide_agreement, .ref a_this_serverSide_in, .ref a_this_serverSide_out, .ref a_this_serverSide_tree, .ref a_this_serverSide_disk, .ref a_this_serverSide_numbers, .ref a_this_serverSide_answers, .ref a_this_serverSide_counts, .ref a_this_serverSide_costs, .ref a_this_serverSide_bytes, .int v_serverSide_state, .int (nI v_serverSide_first), .int (nI v_serverSide_waiting), .int v_serverSide_ungranted, .int v_serverSide_answered])), (a_this_serverSide_disk, .inr (5, [.int v_serverSide_disk_power, .int v_serverSide_disk_blocksLeft, .int v_serverSide_disk_written, .int v_serverSide_disk_sinceCopy]))] sz) (va_Qi (fun (r : Int32) (u : Unit) => r = f_X11_changes v_serverSide_disk_power v_serverSide_disk_written) (fun u => BG D ct (va_A [(a_this, .inr (11, [.ref a_this_clientSide, .ref a_this_serverSide, .ref a_this_toServer, .ref a_this_toClient, .int v_connections])), (a_this_serverSide, .inr (9, [.ref a_this_serverSide_agreement, .ref a_this_serverSide_in, .ref a_this_serverSide_out, .ref a_this_serverSide_tree, .ref a_this_serverSide_disk, .ref a_this_serverSide_numbers, .ref a_this_serverSide_answers, .ref a_this_serverSide_counts, .ref a_this_serverSide_costs, .ref a_this_serverSide_bytes, .int v_serverSide_state, .int (nI v_serverSide_first), .int (nI v_serverSide_waiting), .int v_serverSide_ungranted, .int v_serverSide_answered])), (a_this_serverSide_disk, .inr (5, [.int v_serverSide_disk_power, .int v_serverSide_disk_blocksLeft, .int v_serverSide_disk_written, .int v_serverSide_disk_sinceCopy]))] sz) [(a_this, .inr (11, [.ref a_this_clientSide, .ref a_this_serverSide, .ref a_this_toServer, .ref a_this_toClient, .int v_connections])), (a_this_serverSide, .inr (9, [.ref a_this_serverSide_agreement, .ref a_this_serverSide_in, .ref a_this_serverSide_out, .ref a_this_serverSide_tree, .ref a_this_serverSide_disk, .ref a_this_serverSide_numbers, .ref a_this_serverSide_answers, .ref a_this_serverSide_counts, .ref a_this_serverSide_costs, .ref a_this_serverSide_bytes, .int v_serverSide_state, .int (nI v_serverSide_first), .int (nI v_serverSide_waiting), .int v_serverSide_ungranted, .int v_serverSide_answered])), (a_this_serverSide_disk, .inr (5, [.int v_serverSide_disk_power, .int v_serverSide_disk_blocksLeft, .int v_serverSide_disk_written, .int v_serverSide_disk_sinceCopy]))]) (va_A [(a_this, .inr (11, [.ref a_this_clientSide, .ref a_this_serverSide, .ref a_this_toServer, .ref a_this_toClient, .int v_connections])), (a_this_serverSide, .inr (9, [.ref a_this_serverSide_agreement, .ref a_this_serverSide_in, .ref a_this_serverSide_out, .ref a_this_serverSide_tree, .ref a_this_serverSide_disk, .ref a_this_serverSide_numbers, .ref a_this_serverSide_answers, .ref a_this_serverSide_counts, .ref a_this_serverSide_costs, .ref a_this_serverSide_bytes, .int v_serverSide_state, .int (nI v_serverSide_first), .int (nI v_serverSide_waiting), .int v_serverSide_ungranted, .int v_serverSide_answered])), (a_this_serverSide_disk, .inr (5, [.int v_serverSide_disk_power, .int v_serverSide_disk_blocksLeft, .int v_serverSide_disk_written, .int v_serverSide_disk_sinceCopy]))] sz)) 0 0 (va_A [(a_this, .inr (11, [.ref a_this_clientSide, .ref a_this_serverSide, .ref a_this_toServer, .ref a_this_toClient, .int v_connections])), (a_this_serverSide, .inr (9, [.ref a_this_serverSide_agreement, .ref a_this_serverSide_in, .ref a_this_serverSide_out, .ref a_this_serverSide_tree, .ref a_this_serverSide_disk, .ref a_this_serverSide_numbers, .ref a_this_serverSide_answers, .ref a_this_serverSide_counts, .ref a_this_serverSide_costs, .ref a_this_serverSide_bytes, .int v_serverSide_state, .int (nI v_serverSide_first), .int (nI v_serverSide_waiting), .int v_serverSide_ungranted, .int v_serverSide_answered])), (a_this_serverSide_disk, .inr (5, [.int v_serverSide_disk_power, .int v_serverSide_disk_blocksLeft, .int v_serverSide_disk_written, .int v_serverSide_disk_sinceCopy]))] sz) := by
  refine metJ (l := l) (y := yX11_changes) (cc := cX11_changes) (maxL := 1) (ret := (some .int)) (rm := { frames := 0, cells := 0, slots := 0, locals := 0 }) (D := D) (ct := ct) (L := SXL) (ts := ts) (av := [.ref a_this]) (ws := [(a_this, .inr (11, [.ref a_this_clientSide, .ref a_this_serverSide, .ref a_this_toServer, .ref a_this_toClient, .int v_connections])), (a_this_serverSide, .inr (9, [.ref a_this_serverSide_agreement, .ref a_this_serverSide_in, .ref a_this_serverSide_out, .ref a_this_serverSide_tree, .ref a_this_serverSide_disk, .ref a_this_serverSide_numbers, .ref a_this_serverSide_answers, .ref a_this_serverSide_counts, .ref a_this_serverSide_costs, .ref a_this_serverSide_bytes, .int v_serverSide_state, .int (nI v_serverSide_first), .int (nI v_serverSide_waiting), .int v_serverSide_ungranted, .int v_serverSide_answered])), (a_this_serverSide_disk, .inr (5, [.int v_serverSide_disk_power, .int v_serverSide_disk_blocksLeft, .int v_serverSide_disk_written, .int v_serverSide_disk_sinceCopy]))]) (sz := sz) (mc := 0) (ms := 0) (QcF := fun A => va_Qi (fun (r : Int32) (u : Unit) => r = f_X11_changes v_serverSide_disk_power v_serverSide_disk_written) (fun u => BG D ct A [(a_this, .inr (11, [.ref a_this_clientSide, .ref a_this_serverSide, .ref a_this_toServer, .ref a_this_toClient, .int v_connections])), (a_this_serverSide, .inr (9, [.ref a_this_serverSide_agreement, .ref a_this_serverSide_in, .ref a_this_serverSide_out, .ref a_this_serverSide_tree, .ref a_this_serverSide_disk, .ref a_this_serverSide_numbers, .ref a_this_serverSide_answers, .ref a_this_serverSide_counts, .ref a_this_serverSide_costs, .ref a_this_serverSide_bytes, .int v_serverSide_state, .int (nI v_serverSide_first), .int (nI v_serverSide_waiting), .int v_serverSide_ungranted, .int v_serverSide_answered])), (a_this_serverSide_disk, .inr (5, [.int v_serverSide_disk_power, .int v_serverSide_disk_blocksLeft, .int v_serverSide_disk_written, .int v_serverSide_disk_sinceCopy]))]) A) (by decide) (Nat.le_of_ble_eq_true rfl) ?_
  intro p e s m below meth c A X hnm
  obtain ⟨Q, hQ⟩ : ∃ Q, Q = MQ below (va_Qi (fun (r : Int32) (u : Unit) => r = f_X11_changes v_serverSide_disk_power v_serverSide_disk_written) (fun u => BG D ct A [(a_this, .inr (11, [.ref a_this_clientSide, .ref a_this_serverSide, .ref a_this_toServer, .ref a_this_toClient, .int v_connections])), (a_this_serverSide, .inr (9, [.ref a_this_serverSide_agreement, .ref a_this_serverSide_in, .ref a_this_serverSide_out, .ref a_this_serverSide_tree, .ref a_this_serverSide_disk, .ref a_this_serverSide_numbers, .ref a_this_serverSide_answers, .ref a_this_serverSide_counts, .ref a_this_serverSide_costs, .ref a_this_serverSide_bytes, .int v_serverSide_state, .int (nI v_serverSide_first), .int (nI v_serverSide_waiting), .int v_serverSide_ungranted, .int v_serverSide_answered])), (a_this_serverSide_disk, .inr (5, [.int v_serverSide_disk_power, .int v_serverSide_disk_blocksLeft, .int v_serverSide_disk_written, .int v_serverSide_disk_sinceCopy]))]) A) [.ref a_this].toArray s 0 0 A := ⟨_, rfl⟩
  rw [← hQ]
  refine j_lve (lv' := [(0, .ref a_this)]) rfl ?_
  refine j_aload_n X 0 dX11_changes_0 rfl (q := 1) rfl ?_
  refine j_get (f := 1) X 0 inT11 rfl rfl (by decide) mw_X11_changes_0 rfl dX11_changes_1 (q := 4) rfl ?_
  refine j_get (f := 4) X 1 inT9 rfl rfl (by decide) mw_X11_changes_1 rfl dX11_changes_4 (q := 7) rfl ?_
  refine j_get (f := 0) X 2 inT5 rfl rfl (by decide) mw_X11_changes_2 rfl dX11_changes_7 (q := 10) rfl ?_
  refine j_if_eq (tgt := 26) X dX11_changes_10 (by decide) (q := 13) rfl (fun c1 => ?_) (fun c1 => ?_)
  · skip
    refine j_bipush (v := -30) X dX11_changes_26 (by decide) (q := 28) rfl ?_
    rw [hQ]
    exact j_iret X (()) dX11_changes_28 (by first | rfl | (simp only [f_X11_changes, if_pos c1]; done) | (simp only [f_X11_changes, if_pos c1]; rfl)) rfl
  · skip
    refine j_aload_n X 0 dX11_changes_13 rfl (q := 14) rfl ?_
    refine j_get (f := 1) X 0 inT11 rfl rfl (by decide) mw_X11_changes_0 rfl dX11_changes_14 (q := 17) rfl ?_
    refine j_get (f := 4) X 1 inT9 rfl rfl (by decide) mw_X11_changes_1 rfl dX11_changes_17 (q := 20) rfl ?_
    refine j_get (f := 2) X 2 inT5 rfl rfl (by decide) mw_X11_changes_3 rfl dX11_changes_20 (q := 23) rfl ?_
    refine j_goto (tgt := 28) X dX11_changes_23 (by decide) ?_
    rw [hQ]
    exact j_iret X (()) dX11_changes_28 (by first | rfl | (simp only [f_X11_changes, if_neg c1]; done) | (simp only [f_X11_changes, if_neg c1]; rfl)) rfl
theorem cal_X11_changes : Cal yX11_changes cX11_changes 1 (some .int) 0 := ⟨tb_at 109 (by decide +kernel) (by decide +kernel), tb_at 622 (by decide +kernel) (by decide +kernel), by decide +kernel, by decide +kernel, by decide +kernel⟩
theorem cwi_X11_changes : Cond.instanceMethod yX11_changes ∈ tb := tb_at 620 (by decide +kernel) (by decide +kernel)
theorem cws_X11_changes : Cond.selects yX11_changes.cls yX11_changes yX11_changes ∈ tb := tb_at 621 (by decide +kernel) (by decide +kernel)

