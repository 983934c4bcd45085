theorem fr_ids {x : Int32} {n : Nat} (hn : n = 0) (h1 : ¬ x < nI 1) (h2 : x ≤ nI n) : False := by
  subst hn
  rw [Int32.lt_iff_toInt_lt, nI_toInt (by decide)] at h1
  rw [Int32.le_iff_toInt_le, nI_toInt (by decide)] at h2
  omega
theorem fr_ids2 {x : Int32} {n : Nat} (hn : n = 0) (h1 : ¬ x < nI 1) (h2 : ¬ nI n < x) : False := by
  subst hn
  rw [Int32.lt_iff_toInt_lt, nI_toInt (by decide)] at h1 h2
  omega
theorem fr_side {x : Int32} (h : vp_in x 2) : vp_in (nI 1 - x) 2 := by
  obtain ⟨a, ha, rfl⟩ := vp_in_of h (by decide)
  rw [pk_sub (by omega)]
  exact vp_in_nI (by omega) (by decide)
theorem mw_X12_ask_0 : Cond.fieldLink "GuardedTreeModel" 293 "GuardedTreeModel" "thrown" "I" ∈ tb := tb_at 1237 (by decide +kernel) (by decide +kernel)
theorem mw_X12_ask_1 : Cond.fieldLink "GuardedTreeModel" 7 "GuardedTreeModel" "state" "[I" ∈ tb := tb_at 1239 (by decide +kernel) (by decide +kernel)
theorem dX12_ask_0 : decode cX12_ask 0 = .ok (.aload_n 0, 1) := by decide +kernel
theorem dX12_ask_1 : decode cX12_ask 1 = .ok (.iload_n 1, 1) := by decide +kernel
theorem dX12_ask_2 : decode cX12_ask 2 = .ok (.ifCond .lt 9, 3) := by decide +kernel
theorem dX12_ask_5 : decode cX12_ask 5 = .ok (.iload_n 1, 1) := by decide +kernel
theorem dX12_ask_6 : decode cX12_ask 6 = .ok (.bipush 9, 2) := by decide +kernel
theorem dX12_ask_8 : decode cX12_ask 8 = .ok (.if_icmp .le 7, 3) := by decide +kernel
theorem dX12_ask_11 : decode cX12_ask 11 = .ok (.iconst 1, 1) := by decide +kernel
theorem dX12_ask_12 : decode cX12_ask 12 = .ok (.goto 4, 3) := by decide +kernel
theorem dX12_ask_15 : decode cX12_ask 15 = .ok (.iconst 0, 1) := by decide +kernel
theorem dX12_ask_16 : decode cX12_ask 16 = .ok (.putfield 293, 3) := by decide +kernel
theorem dX12_ask_19 : decode cX12_ask 19 = .ok (.aload_n 0, 1) := by decide +kernel
theorem dX12_ask_20 : decode cX12_ask 20 = .ok (.getfield 293, 3) := by decide +kernel
theorem dX12_ask_23 : decode cX12_ask 23 = .ok (.ifCond .le 5, 3) := by decide +kernel
theorem dX12_ask_26 : decode cX12_ask 26 = .ok (.iconst 0, 1) := by decide +kernel
theorem dX12_ask_27 : decode cX12_ask 27 = .ok (.ireturn, 1) := by decide +kernel
theorem dX12_ask_28 : decode cX12_ask 28 = .ok (.iload_n 1, 1) := by decide +kernel
theorem dX12_ask_29 : decode cX12_ask 29 = .ok (.iconst 4, 1) := by decide +kernel
theorem dX12_ask_30 : decode cX12_ask 30 = .ok (.if_icmp .ne 20, 3) := by decide +kernel
theorem dX12_ask_33 : decode cX12_ask 33 = .ok (.iload 4, 2) := by decide +kernel
theorem dX12_ask_35 : decode cX12_ask 35 = .ok (.ifCond .le 15, 3) := by decide +kernel
theorem dX12_ask_38 : decode cX12_ask 38 = .ok (.iload 4, 2) := by decide +kernel
theorem dX12_ask_40 : decode cX12_ask 40 = .ok (.bipush 65, 2) := by decide +kernel
theorem dX12_ask_42 : decode cX12_ask 42 = .ok (.if_icmp .ge 8, 3) := by decide +kernel
theorem dX12_ask_45 : decode cX12_ask 45 = .ok (.iload 4, 2) := by decide +kernel
theorem dX12_ask_47 : decode cX12_ask 47 = .ok (.goto 4, 3) := by decide +kernel
theorem dX12_ask_50 : decode cX12_ask 50 = .ok (.iconst 0, 1) := by decide +kernel
theorem dX12_ask_51 : decode cX12_ask 51 = .ok (.istore 6, 2) := by decide +kernel
theorem dX12_ask_53 : decode cX12_ask 53 = .ok (.aload_n 0, 1) := by decide +kernel
theorem dX12_ask_54 : decode cX12_ask 54 = .ok (.getfield 7, 3) := by decide +kernel
theorem dX12_ask_57 : decode cX12_ask 57 = .ok (.iconst 0, 1) := by decide +kernel
theorem dX12_ask_58 : decode cX12_ask 58 = .ok (.iaload, 1) := by decide +kernel
theorem dX12_ask_59 : decode cX12_ask 59 = .ok (.iconst 2, 1) := by decide +kernel
theorem dX12_ask_60 : decode cX12_ask 60 = .ok (.if_icmp .ne 29, 3) := by decide +kernel
theorem dX12_ask_89 : decode cX12_ask 89 = .ok (.iconst (-1), 1) := by decide +kernel
theorem dX12_ask_90 : decode cX12_ask 90 = .ok (.ireturn, 1) := by decide +kernel
noncomputable def X12_ask_m30 (x1 : Int32) (x4 : Int32) : (Int32) :=
  if x1 = (nI 4) then
  (if x4 ≤ 0 then
  (nI 0)
  else
  (if (nI 65) ≤ x4 then
  (nI 0)
  else
  (x4)))
  else
  (nI 0)
noncomputable def X12_ask_m2 (x1 : Int32) : (Int32) :=
  if x1 < 0 then
  (nI 1)
  else
  (if x1 ≤ (nI 9) then
  (nI 0)
  else
  (nI 1))
noncomputable def f_X12_ask (x1 : Int32) (x4 : Int32) : Int32 × (Int32) :=
  let g2_1 := X12_ask_m2 x1
  if g2_1 ≤ 0 then
  (let g30_5 := X12_ask_m30 x1 x4
  ((-1), g2_1))
  else
  ((nI 0, g2_1))
set_option maxHeartbeats 4000000 in
set_option maxRecDepth 100000 in
theorem c_X12_ask (l : Launch) (D : va_G) (ct : Nat → ClassId) (ts : Nat → Nat) (a_this : Nat) (ad : Nat → Nat) (v_thrown : Int32) (v_connections : Int32) (v_size : Nat) (v_ids : Nat) (v_dataAll : Nat) (v_putCount : Nat) (v_waiting : Nat) (v_readSize : Nat) (v_power : Int32) (v_left : Int32) (v_since : Int32) (v_changes : Int32) (v_rowSize : Nat) (f_state : Nat → Int32) (x1 : Int32) (x2 : Int32) (x3 : Int32) (x4 : Int32) (x5 : Int32)  (h_st : f_state 0 = nI 0)  (sz : Nat) : Met l yX12_ask (Cond.code yX12_ask cX12_ask 8 (some .int) :: tb) { frames := 0, cells := 0, slots := 0, locals := 0 } (PcG D ct SXL ts [.ref a_this, .int x1, .int x2, .int x3, .int x4, .int x5] [(a_this, .inr (12, mfs ad v_thrown v_connections (nI v_size) (nI v_ids) (nI v_dataAll) (nI v_putCount) (nI v_waiting) (nI v_readSize) v_power v_left v_since v_changes (nI v_rowSize))), (ad 2, .inl (ct 0, 2, .inl f_state))] sz) (va_Qi (fun (r : Int32) (u : (Int32)) => (r, u) = f_X12_ask x1 x4) (fun u => BG D ct (va_A [(a_this, .inr (12, mfs ad v_thrown v_connections (nI v_size) (nI v_ids) (nI v_dataAll) (nI v_putCount) (nI v_waiting) (nI v_readSize) v_power v_left v_since v_changes (nI v_rowSize))), (ad 2, .inl (ct 0, 2, .inl f_state))] sz) [(a_this, .inr (12, mfs ad u v_connections (nI v_size) (nI v_ids) (nI v_dataAll) (nI v_putCount) (nI v_waiting) (nI v_readSize) v_power v_left v_since v_changes (nI v_rowSize))), (ad 2, .inl (ct 0, 2, .inl f_state))]) (va_A [(a_this, .inr (12, mfs ad v_thrown v_connections (nI v_size) (nI v_ids) (nI v_dataAll) (nI v_putCount) (nI v_waiting) (nI v_readSize) v_power v_left v_since v_changes (nI v_rowSize))), (ad 2, .inl (ct 0, 2, .inl f_state))] sz)) 0 0 (va_A [(a_this, .inr (12, mfs ad v_thrown v_connections (nI v_size) (nI v_ids) (nI v_dataAll) (nI v_putCount) (nI v_waiting) (nI v_readSize) v_power v_left v_since v_changes (nI v_rowSize))), (ad 2, .inl (ct 0, 2, .inl f_state))] sz) := by
  refine metJ (l := l) (y := yX12_ask) (cc := cX12_ask) (maxL := 8) (ret := (some .int)) (rm := { frames := 0, cells := 0, slots := 0, locals := 0 }) (D := D) (ct := ct) (L := SXL) (ts := ts) (av := [.ref a_this, .int x1, .int x2, .int x3, .int x4, .int x5]) (ws := [(a_this, .inr (12, mfs ad v_thrown v_connections (nI v_size) (nI v_ids) (nI v_dataAll) (nI v_putCount) (nI v_waiting) (nI v_readSize) v_power v_left v_since v_changes (nI v_rowSize))), (ad 2, .inl (ct 0, 2, .inl f_state))]) (sz := sz) (mc := 0) (ms := 0) (QcF := fun A => va_Qi (fun (r : Int32) (u : (Int32)) => (r, u) = f_X12_ask x1 x4) (fun u => BG D ct A [(a_this, .inr (12, mfs ad u v_connections (nI v_size) (nI v_ids) (nI v_dataAll) (nI v_putCount) (nI v_waiting) (nI v_readSize) v_power v_left v_since v_changes (nI v_rowSize))), (ad 2, .inl (ct 0, 2, .inl f_state))]) A) (by decide) (Nat.le_of_ble_eq_true rfl) ?_
  intro p e s m below meth c A X hnm
  obtain ⟨Q, hQ⟩ : ∃ Q, Q = MQ below (va_Qi (fun (r : Int32) (u : (Int32)) => (r, u) = f_X12_ask x1 x4) (fun u => BG D ct A [(a_this, .inr (12, mfs ad u v_connections (nI v_size) (nI v_ids) (nI v_dataAll) (nI v_putCount) (nI v_waiting) (nI v_readSize) v_power v_left v_since v_changes (nI v_rowSize))), (ad 2, .inl (ct 0, 2, .inl f_state))]) A) [.ref a_this, .int x1, .int x2, .int x3, .int x4, .int x5].toArray s 0 0 A := ⟨_, rfl⟩
  rw [← hQ]
  refine j_lve (lv' := [(0, .ref a_this), (1, .int x1), (2, .int x2), (3, .int x3), (4, .int x4), (5, .int x5)]) rfl ?_
  refine j_aload_n X 0 dX12_ask_0 rfl (q := 1) rfl ?_
  refine j_iload_n X 1 dX12_ask_1 rfl (q := 2) rfl ?_
  have KJ2_1 : ∀ g2_1 : (Int32), g2_1 = X12_ask_m2 x1 → J p l e { frames := 0, cells := 0, slots := 0, locals := 0 } s m [.ref a_this, .int x1, .int x2, .int x3, .int x4, .int x5].toArray below meth c D A 8 Q 0 0 [(a_this, .inr (12, mfs ad v_thrown v_connections (nI v_size) (nI v_ids) (nI v_dataAll) (nI v_putCount) (nI v_waiting) (nI v_readSize) v_power v_left v_since v_changes (nI v_rowSize))), (ad 2, .inl (ct 0, 2, .inl f_state))] [(0, .ref a_this), (1, .int x1), (2, .int x2), (3, .int x3), (4, .int x4), (5, .int x5)] [.int g2_1, .ref a_this] 16 := by
    intro g2_1 e_g2_1
    refine j_put (f := 0) (ws2 := [(a_this, .inr (12, mfs ad g2_1 v_connections (nI v_size) (nI v_ids) (nI v_dataAll) (nI v_putCount) (nI v_waiting) (nI v_readSize) v_power v_left v_since v_changes (nI v_rowSize))), (ad 2, .inl (ct 0, 2, .inl f_state))]) (ty := .int) X 0 inT12 tyX12_ok nmX12 rfl rfl (by decide) mw_X12_ask_0 rfl rfl rfl rfl (Nat.le_of_ble_eq_true rfl) dX12_ask_16 rfl (q := 19) rfl ?_
    refine j_aload_n X 0 dX12_ask_19 rfl (q := 20) rfl ?_
    refine j_get (f := 0) X 0 inT12 rfl rfl (by decide) mw_X12_ask_0 rfl dX12_ask_20 (q := 23) rfl ?_
    refine j_if_le (tgt := 28) X dX12_ask_23 (by decide) (q := 26) rfl (fun c4 => ?_) (fun c4 => ?_)
    · skip
      refine j_iload_n X 1 dX12_ask_28 rfl (q := 29) rfl ?_
      refine j_iconst (v := nI 4) X dX12_ask_29 (by decide) (q := 30) rfl ?_
      have KJ30_5 : ∀ g30_5 : (Int32), g30_5 = X12_ask_m30 x1 x4 → J p l e { frames := 0, cells := 0, slots := 0, locals := 0 } s m [.ref a_this, .int x1, .int x2, .int x3, .int x4, .int x5].toArray below meth c D A 8 Q 0 0 [(a_this, .inr (12, mfs ad g2_1 v_connections (nI v_size) (nI v_ids) (nI v_dataAll) (nI v_putCount) (nI v_waiting) (nI v_readSize) v_power v_left v_since v_changes (nI v_rowSize))), (ad 2, .inl (ct 0, 2, .inl f_state))] [(0, .ref a_this), (1, .int x1), (2, .int x2), (3, .int x3), (4, .int x4), (5, .int x5)] [.int g30_5] 51 := by
        intro g30_5 e_g30_5
        refine j_istore (lv' := [(6, .int g30_5), (0, .ref a_this), (1, .int x1), (2, .int x2), (3, .int x3), (4, .int x4), (5, .int x5)]) X dX12_ask_51 (by decide) rfl (q := 53) rfl ?_
        refine j_aload_n X 1 dX12_ask_53 rfl (q := 54) rfl ?_
        refine j_get (f := 2) X 0 inT12 rfl rfl (by decide) mw_X12_ask_1 rfl dX12_ask_54 (q := 57) rfl ?_
        refine j_iconst (v := nI 0) X dX12_ask_57 (by decide) (q := 58) rfl ?_
        refine k_iald X 1 rfl (vp_in_nI (by omega) (by omega)) (nI_clamp (by omega)) dX12_ask_58 (q := 59) rfl ?_
        refine j_iconst (v := nI 2) X dX12_ask_59 (by decide) (q := 60) rfl ?_
        refine j_icmp_ne (tgt := 89) X dX12_ask_60 (by decide) (q := 63) rfl (fun c9 => ?_) (fun c9 => ?_)
        · skip
          refine j_iconst (v := -1) X dX12_ask_89 (by decide) (q := 90) rfl ?_
          rw [hQ]
          exact j_iret X g2_1 dX12_ask_90 (by subst e_g2_1; subst e_g30_5; first | rfl | (simp only [f_X12_ask, if_pos c4, if_neg c9]; done) | (simp only [f_X12_ask, if_pos c4, if_neg c9]; rfl)) rfl
        · skip
          exact absurd (show nI 0 = nI 2 from h_st.symm.trans (by assumption)) (by decide)
      refine j_icmp_ne (tgt := 50) X dX12_ask_30 (by decide) (q := 33) rfl (fun c6 => ?_) (fun c6 => ?_)
      · skip
        refine j_iconst (v := nI 0) X dX12_ask_50 (by decide) (q := 51) rfl ?_
        refine j_lv (lv' := [(0, .ref a_this), (1, .int x1), (2, .int x2), (3, .int x3), (4, .int x4), (5, .int x5)]) [0, 1, 2, 3, 4, 5] rfl ?_
        exact KJ30_5 (nI 0) (by first | rfl | (simp only [X12_ask_m30, if_neg c6]; done) | (simp only [X12_ask_m30, if_neg c6]; rfl))
      · skip
        refine j_iload X 4 dX12_ask_33 rfl (q := 35) rfl ?_
        refine j_if_le (tgt := 50) X dX12_ask_35 (by decide) (q := 38) rfl (fun c7 => ?_) (fun c7 => ?_)
        · skip
          refine j_iconst (v := nI 0) X dX12_ask_50 (by decide) (q := 51) rfl ?_
          refine j_lv (lv' := [(0, .ref a_this), (1, .int x1), (2, .int x2), (3, .int x3), (4, .int x4), (5, .int x5)]) [0, 1, 2, 3, 4, 5] rfl ?_
          exact KJ30_5 (nI 0) (by first | rfl | (simp only [X12_ask_m30, if_pos c6, if_pos c7]; done) | (simp only [X12_ask_m30, if_pos c6, if_pos c7]; rfl))
        · skip
          refine j_iload X 4 dX12_ask_38 rfl (q := 40) rfl ?_
          refine j_bipush (v := nI 65) X dX12_ask_40 (by decide) (q := 42) rfl ?_
          refine j_icmp_ge (tgt := 50) X dX12_ask_42 (by decide) (q := 45) rfl (fun c8 => ?_) (fun c8 => ?_)
          · skip
            refine j_iconst (v := nI 0) X dX12_ask_50 (by decide) (q := 51) rfl ?_
            refine j_lv (lv' := [(0, .ref a_this), (1, .int x1), (2, .int x2), (3, .int x3), (4, .int x4), (5, .int x5)]) [0, 1, 2, 3, 4, 5] rfl ?_
            exact KJ30_5 (nI 0) (by first | rfl | (simp only [X12_ask_m30, if_pos c6, if_neg c7, if_pos c8]; done) | (simp only [X12_ask_m30, if_pos c6, if_neg c7, if_pos c8]; rfl))
          · skip
            refine j_iload X 4 dX12_ask_45 rfl (q := 47) rfl ?_
            refine j_goto (tgt := 51) X dX12_ask_47 (by decide) ?_
            refine j_lv (lv' := [(0, .ref a_this), (1, .int x1), (2, .int x2), (3, .int x3), (4, .int x4), (5, .int x5)]) [0, 1, 2, 3, 4, 5] rfl ?_
            exact KJ30_5 x4 (by first | rfl | (simp only [X12_ask_m30, if_pos c6, if_neg c7, if_neg c8]; done) | (simp only [X12_ask_m30, if_pos c6, if_neg c7, if_neg c8]; rfl))
    · skip
      refine j_iconst (v := nI 0) X dX12_ask_26 (by decide) (q := 27) rfl ?_
      rw [hQ]
      exact j_iret X g2_1 dX12_ask_27 (by subst e_g2_1; first | rfl | (simp only [f_X12_ask, if_neg c4]; done) | (simp only [f_X12_ask, if_neg c4]; rfl)) rfl
  refine j_if_lt (tgt := 11) X dX12_ask_2 (by decide) (q := 5) rfl (fun c2 => ?_) (fun c2 => ?_)
  · skip
    refine j_iconst (v := nI 1) X dX12_ask_11 (by decide) (q := 12) rfl ?_
    refine j_goto (tgt := 16) X dX12_ask_12 (by decide) ?_
    refine j_lv (lv' := [(0, .ref a_this), (1, .int x1), (2, .int x2), (3, .int x3), (4, .int x4), (5, .int x5)]) [0, 1, 2, 3, 4, 5] rfl ?_
    exact KJ2_1 (nI 1) (by first | rfl | (simp only [X12_ask_m2, if_pos c2]; done) | (simp only [X12_ask_m2, if_pos c2]; rfl))
  · skip
    refine j_iload_n X 1 dX12_ask_5 rfl (q := 6) rfl ?_
    refine j_bipush (v := nI 9) X dX12_ask_6 (by decide) (q := 8) rfl ?_
    refine j_icmp_le (tgt := 15) X dX12_ask_8 (by decide) (q := 11) rfl (fun c3 => ?_) (fun c3 => ?_)
    · skip
      refine j_iconst (v := nI 0) X dX12_ask_15 (by decide) (q := 16) rfl ?_
      refine j_lv (lv' := [(0, .ref a_this), (1, .int x1), (2, .int x2), (3, .int x3), (4, .int x4), (5, .int x5)]) [0, 1, 2, 3, 4, 5] rfl ?_
      exact KJ2_1 (nI 0) (by first | rfl | (simp only [X12_ask_m2, if_neg c2, if_pos c3]; done) | (simp only [X12_ask_m2, if_neg c2, if_pos c3]; rfl))
    · skip
      refine j_iconst (v := nI 1) X dX12_ask_11 (by decide) (q := 12) rfl ?_
      refine j_goto (tgt := 16) X dX12_ask_12 (by decide) ?_
      refine j_lv (lv' := [(0, .ref a_this), (1, .int x1), (2, .int x2), (3, .int x3), (4, .int x4), (5, .int x5)]) [0, 1, 2, 3, 4, 5] rfl ?_
      exact KJ2_1 (nI 1) (by first | rfl | (simp only [X12_ask_m2, if_neg c2, if_neg c3]; done) | (simp only [X12_ask_m2, if_neg c2, if_neg c3]; rfl))
theorem cal_X12_ask : Cal yX12_ask cX12_ask 8 (some .int) 5 := ⟨tb_at 120 (by decide +kernel) (by decide +kernel), tb_at 1551 (by decide +kernel) (by decide +kernel), by decide +kernel, by decide +kernel, by decide +kernel⟩
theorem cwi_X12_ask : Cond.instanceMethod yX12_ask ∈ tb := tb_at 1549 (by decide +kernel) (by decide +kernel)
theorem cws_X12_ask : Cond.selects yX12_ask.cls yX12_ask yX12_ask ∈ tb := tb_at 1550 (by decide +kernel) (by decide +kernel)
theorem mw_X12_data_0 : Cond.fieldLink "GuardedTreeModel" 293 "GuardedTreeModel" "thrown" "I" ∈ tb := tb_at 1237 (by decide +kernel) (by decide +kernel)
theorem mw_X12_data_3 : Cond.fieldLink "GuardedTreeModel" 387 "GuardedTreeModel" "ids" "I" ∈ tb := tb_at 1254 (by decide +kernel) (by decide +kernel)
theorem dX12_data_0 : decode cX12_data 0 = .ok (.aload_n 0, 1) := by decide +kernel
theorem dX12_data_1 : decode cX12_data 1 = .ok (.iload_n 1, 1) := by decide +kernel
theorem dX12_data_2 : decode cX12_data 2 = .ok (.iconst 1, 1) := by decide +kernel
theorem dX12_data_3 : decode cX12_data 3 = .ok (.if_icmp .lt 25, 3) := by decide +kernel
theorem dX12_data_6 : decode cX12_data 6 = .ok (.iload_n 1, 1) := by decide +kernel
theorem dX12_data_7 : decode cX12_data 7 = .ok (.aload_n 0, 1) := by decide +kernel
theorem dX12_data_8 : decode cX12_data 8 = .ok (.getfield 387, 3) := by decide +kernel
theorem dX12_data_11 : decode cX12_data 11 = .ok (.if_icmp .gt 17, 3) := by decide +kernel
theorem dX12_data_28 : decode cX12_data 28 = .ok (.iconst 1, 1) := by decide +kernel
theorem dX12_data_29 : decode cX12_data 29 = .ok (.goto 4, 3) := by decide +kernel
theorem dX12_data_33 : decode cX12_data 33 = .ok (.putfield 293, 3) := by decide +kernel
theorem dX12_data_36 : decode cX12_data 36 = .ok (.aload_n 0, 1) := by decide +kernel
theorem dX12_data_37 : decode cX12_data 37 = .ok (.getfield 293, 3) := by decide +kernel
theorem dX12_data_40 : decode cX12_data 40 = .ok (.ifCond .le 7, 3) := by decide +kernel
theorem dX12_data_43 : decode cX12_data 43 = .ok (.iconst 0, 1) := by decide +kernel
theorem dX12_data_44 : decode cX12_data 44 = .ok (.goto 20, 3) := by decide +kernel
theorem dX12_data_64 : decode cX12_data 64 = .ok (.ireturn, 1) := by decide +kernel
noncomputable def X12_data_m3 (x1 : Int32) : Unit :=
  if x1 < (nI 1) then
  (())
  else
  (())
noncomputable def f_X12_data  : Int32 × (Int32) :=
  (nI 0, nI 1)
set_option maxHeartbeats 4000000 in
set_option maxRecDepth 100000 in
theorem c_X12_data (l : Launch) (D : va_G) (ct : Nat → ClassId) (ts : Nat → Nat) (a_this : Nat) (ad : Nat → Nat) (v_thrown : Int32) (v_connections : Int32) (v_size : Nat) (v_ids : Nat) (v_dataAll : Nat) (v_putCount : Nat) (v_waiting : Nat) (v_readSize : Nat) (v_power : Int32) (v_left : Int32) (v_since : Int32) (v_changes : Int32) (v_rowSize : Nat) (f_dataAt : Nat → Int32) (f_data : Nat → Int32) (x1 : Int32) (x2 : Int32)  (h_i : v_ids = 0)  (sz : Nat) : Met l yX12_data (Cond.code yX12_data cX12_data 3 (some .int) :: tb) { frames := 0, cells := 0, slots := 0, locals := 0 } (PcG D ct SXL ts [.ref a_this, .int x1, .int x2] [(a_this, .inr (12, mfs ad v_thrown v_connections (nI v_size) (nI v_ids) (nI v_dataAll) (nI v_putCount) (nI v_waiting) (nI v_readSize) v_power v_left v_since v_changes (nI v_rowSize))), (ad 19, .inl (ct 0, 4200, .inl f_dataAt)), (ad 21, .inl (ct 1, 270000, .inl f_data))] sz) (va_Qi (fun (r : Int32) (u : (Int32)) => (r, u) = f_X12_data ) (fun u => BG D ct (va_A [(a_this, .inr (12, mfs ad v_thrown v_connections (nI v_size) (nI v_ids) (nI v_dataAll) (nI v_putCount) (nI v_waiting) (nI v_readSize) v_power v_left v_since v_changes (nI v_rowSize))), (ad 19, .inl (ct 0, 4200, .inl f_dataAt)), (ad 21, .inl (ct 1, 270000, .inl f_data))] sz) [(a_this, .inr (12, mfs ad u v_connections (nI v_size) (nI v_ids) (nI v_dataAll) (nI v_putCount) (nI v_waiting) (nI v_readSize) v_power v_left v_since v_changes (nI v_rowSize))), (ad 19, .inl (ct 0, 4200, .inl f_dataAt)), (ad 21, .inl (ct 1, 270000, .inl f_data))]) (va_A [(a_this, .inr (12, mfs ad v_thrown v_connections (nI v_size) (nI v_ids) (nI v_dataAll) (nI v_putCount) (nI v_waiting) (nI v_readSize) v_power v_left v_since v_changes (nI v_rowSize))), (ad 19, .inl (ct 0, 4200, .inl f_dataAt)), (ad 21, .inl (ct 1, 270000, .inl f_data))] sz)) 0 0 (va_A [(a_this, .inr (12, mfs ad v_thrown v_connections (nI v_size) (nI v_ids) (nI v_dataAll) (nI v_putCount) (nI v_waiting) (nI v_readSize) v_power v_left v_since v_changes (nI v_rowSize))), (ad 19, .inl (ct 0, 4200, .inl f_dataAt)), (ad 21, .inl (ct 1, 270000, .inl f_data))] sz) := by
  refine metJ (l := l) (y := yX12_data) (cc := cX12_data) (maxL := 3) (ret := (some .int)) (rm := { frames := 0, cells := 0, slots := 0, locals := 0 }) (D := D) (ct := ct) (L := SXL) (ts := ts) (av := [.ref a_this, .int x1, .int x2]) (ws := [(a_this, .inr (12, mfs ad v_thrown v_connections (nI v_size) (nI v_ids) (nI v_dataAll) (nI v_putCount) (nI v_waiting) (nI v_readSize) v_power v_left v_since v_changes (nI v_rowSize))), (ad 19, .inl (ct 0, 4200, .inl f_dataAt)), (ad 21, .inl (ct 1, 270000, .inl f_data))]) (sz := sz) (mc := 0) (ms := 0) (QcF := fun A => va_Qi (fun (r : Int32) (u : (Int32)) => (r, u) = f_X12_data ) (fun u => BG D ct A [(a_this, .inr (12, mfs ad u v_connections (nI v_size) (nI v_ids) (nI v_dataAll) (nI v_putCount) (nI v_waiting) (nI v_readSize) v_power v_left v_since v_changes (nI v_rowSize))), (ad 19, .inl (ct 0, 4200, .inl f_dataAt)), (ad 21, .inl (ct 1, 270000, .inl f_data))]) A) (by decide) (Nat.le_of_ble_eq_true rfl) ?_
  intro p e s m below meth c A X hnm
  obtain ⟨Q, hQ⟩ : ∃ Q, Q = MQ below (va_Qi (fun (r : Int32) (u : (Int32)) => (r, u) = f_X12_data ) (fun u => BG D ct A [(a_this, .inr (12, mfs ad u v_connections (nI v_size) (nI v_ids) (nI v_dataAll) (nI v_putCount) (nI v_waiting) (nI v_readSize) v_power v_left v_since v_changes (nI v_rowSize))), (ad 19, .inl (ct 0, 4200, .inl f_dataAt)), (ad 21, .inl (ct 1, 270000, .inl f_data))]) A) [.ref a_this, .int x1, .int x2].toArray s 0 0 A := ⟨_, rfl⟩
  rw [← hQ]
  refine j_lve (lv' := [(0, .ref a_this), (1, .int x1), (2, .int x2)]) rfl ?_
  refine j_aload_n X 0 dX12_data_0 rfl (q := 1) rfl ?_
  refine j_iload_n X 1 dX12_data_1 rfl (q := 2) rfl ?_
  refine j_iconst (v := nI 1) X dX12_data_2 (by decide) (q := 3) rfl ?_
  have KJ3_1 : ∀ g3_1 : Unit, g3_1 = X12_data_m3 x1 → J p l e { frames := 0, cells := 0, slots := 0, locals := 0 } s m [.ref a_this, .int x1, .int x2].toArray below meth c D A 3 Q 0 0 [(a_this, .inr (12, mfs ad v_thrown v_connections (nI v_size) (nI v_ids) (nI v_dataAll) (nI v_putCount) (nI v_waiting) (nI v_readSize) v_power v_left v_since v_changes (nI v_rowSize))), (ad 19, .inl (ct 0, 4200, .inl f_dataAt)), (ad 21, .inl (ct 1, 270000, .inl f_data))] [(0, .ref a_this), (1, .int x1), (2, .int x2)] [.int (nI 1), .ref a_this] 33 := by
    intro g3_1 e_g3_1
    refine j_put (f := 0) (ws2 := [(a_this, .inr (12, mfs ad (nI 1) v_connections (nI v_size) (nI v_ids) (nI v_dataAll) (nI v_putCount) (nI v_waiting) (nI v_readSize) v_power v_left v_since v_changes (nI v_rowSize))), (ad 19, .inl (ct 0, 4200, .inl f_dataAt)), (ad 21, .inl (ct 1, 270000, .inl f_data))]) (ty := .int) X 0 inT12 tyX12_ok nmX12 rfl rfl (by decide) mw_X12_data_0 rfl rfl rfl rfl (Nat.le_of_ble_eq_true rfl) dX12_data_33 rfl (q := 36) rfl ?_
    refine j_aload_n X 0 dX12_data_36 rfl (q := 37) rfl ?_
    refine j_get (f := 0) X 0 inT12 rfl rfl (by decide) mw_X12_data_0 rfl dX12_data_37 (q := 40) rfl ?_
    refine j_if_le (tgt := 47) X dX12_data_40 (by decide) (q := 43) rfl (fun c4 => ?_) (fun c4 => ?_)
    · skip
      have c4 : 1 ≤ 0 := (nI_leI (a := 1) (b := 0) (by omega) (by omega)).mp c4
      exfalso; omega
    · skip
      have c4 : ¬ 1 ≤ 0 := fun h => c4 ((nI_leI (a := 1) (b := 0) (by omega) (by omega)).mpr h)
      refine j_iconst (v := nI 0) X dX12_data_43 (by decide) (q := 44) rfl ?_
      refine j_goto (tgt := 64) X dX12_data_44 (by decide) ?_
      rw [hQ]
      exact j_iret X (nI 1) dX12_data_64 (by subst e_g3_1; rfl) rfl
  refine j_icmp_lt (tgt := 28) X dX12_data_3 (by decide) (q := 6) rfl (fun c2 => ?_) (fun c2 => ?_)
  · skip
    refine j_iconst (v := nI 1) X dX12_data_28 (by decide) (q := 29) rfl ?_
    refine j_goto (tgt := 33) X dX12_data_29 (by decide) ?_
    refine j_lv (lv' := [(0, .ref a_this), (1, .int x1), (2, .int x2)]) [0, 1, 2] rfl ?_
    exact KJ3_1 (()) (by first | rfl | (simp only [X12_data_m3, if_pos c2]; done) | (simp only [X12_data_m3, if_pos c2]; rfl))
  · skip
    refine j_iload_n X 1 dX12_data_6 rfl (q := 7) rfl ?_
    refine j_aload_n X 0 dX12_data_7 rfl (q := 8) rfl ?_
    refine j_get (f := 17) X 0 inT12 rfl rfl (by decide) mw_X12_data_3 rfl dX12_data_8 (q := 11) rfl ?_
    refine j_icmp_gt (tgt := 28) X dX12_data_11 (by decide) (q := 14) rfl (fun c3 => ?_) (fun c3 => ?_)
    · skip
      refine j_iconst (v := nI 1) X dX12_data_28 (by decide) (q := 29) rfl ?_
      refine j_goto (tgt := 33) X dX12_data_29 (by decide) ?_
      refine j_lv (lv' := [(0, .ref a_this), (1, .int x1), (2, .int x2)]) [0, 1, 2] rfl ?_
      exact KJ3_1 (()) (by first | rfl | (simp only [X12_data_m3, if_neg c2, if_pos c3]; done) | (simp only [X12_data_m3, if_neg c2, if_pos c3]; rfl))
    · skip
      exact (fr_ids2 h_i (by assumption) (by assumption)).elim
theorem cal_X12_data : Cal yX12_data cX12_data 3 (some .int) 2 := ⟨tb_at 120 (by decide +kernel) (by decide +kernel), tb_at 1611 (by decide +kernel) (by decide +kernel), by decide +kernel, by decide +kernel, by decide +kernel⟩
theorem cwi_X12_data : Cond.instanceMethod yX12_data ∈ tb := tb_at 1609 (by decide +kernel) (by decide +kernel)
theorem cws_X12_data : Cond.selects yX12_data.cls yX12_data yX12_data ∈ tb := tb_at 1610 (by decide +kernel) (by decide +kernel)
theorem mw_X12_move_0 : Cond.fieldLink "GuardedTreeModel" 293 "GuardedTreeModel" "thrown" "I" ∈ tb := tb_at 1237 (by decide +kernel) (by decide +kernel)
theorem mw_X12_move_1 : Cond.fieldLink "GuardedTreeModel" 29 "GuardedTreeModel" "waySize" "[I" ∈ tb := tb_at 1245 (by decide +kernel) (by decide +kernel)
theorem mw_X12_move_2 : Cond.fieldLink "GuardedTreeModel" 7 "GuardedTreeModel" "state" "[I" ∈ tb := tb_at 1239 (by decide +kernel) (by decide +kernel)
theorem mw_X12_move_3 : Cond.fieldLink "GuardedTreeModel" 23 "GuardedTreeModel" "cameSize" "[I" ∈ tb := tb_at 1243 (by decide +kernel) (by decide +kernel)
theorem dX12_move_0 : decode cX12_move 0 = .ok (.aload_n 0, 1) := by decide +kernel
theorem dX12_move_1 : decode cX12_move 1 = .ok (.iload_n 1, 1) := by decide +kernel
theorem dX12_move_2 : decode cX12_move 2 = .ok (.ifCond .lt 8, 3) := by decide +kernel
theorem dX12_move_5 : decode cX12_move 5 = .ok (.iload_n 1, 1) := by decide +kernel
theorem dX12_move_6 : decode cX12_move 6 = .ok (.iconst 1, 1) := by decide +kernel
theorem dX12_move_7 : decode cX12_move 7 = .ok (.if_icmp .le 7, 3) := by decide +kernel
theorem dX12_move_10 : decode cX12_move 10 = .ok (.iconst 1, 1) := by decide +kernel
theorem dX12_move_11 : decode cX12_move 11 = .ok (.goto 4, 3) := by decide +kernel
theorem dX12_move_14 : decode cX12_move 14 = .ok (.iconst 0, 1) := by decide +kernel
theorem dX12_move_15 : decode cX12_move 15 = .ok (.putfield 293, 3) := by decide +kernel
theorem dX12_move_18 : decode cX12_move 18 = .ok (.aload_n 0, 1) := by decide +kernel
theorem dX12_move_19 : decode cX12_move 19 = .ok (.getfield 293, 3) := by decide +kernel
theorem dX12_move_22 : decode cX12_move 22 = .ok (.ifCond .le 5, 3) := by decide +kernel
theorem dX12_move_25 : decode cX12_move 25 = .ok (.iconst 0, 1) := by decide +kernel
theorem dX12_move_26 : decode cX12_move 26 = .ok (.ireturn, 1) := by decide +kernel
theorem dX12_move_27 : decode cX12_move 27 = .ok (.iconst 1, 1) := by decide +kernel
theorem dX12_move_28 : decode cX12_move 28 = .ok (.iload_n 1, 1) := by decide +kernel
theorem dX12_move_29 : decode cX12_move 29 = .ok (.isub, 1) := by decide +kernel
theorem dX12_move_30 : decode cX12_move 30 = .ok (.istore_n 3, 1) := by decide +kernel
theorem dX12_move_31 : decode cX12_move 31 = .ok (.iload_n 2, 1) := by decide +kernel
theorem dX12_move_32 : decode cX12_move 32 = .ok (.ifCond .ge 7, 3) := by decide +kernel
theorem dX12_move_35 : decode cX12_move 35 = .ok (.iconst 0, 1) := by decide +kernel
theorem dX12_move_36 : decode cX12_move 36 = .ok (.goto 23, 3) := by decide +kernel
theorem dX12_move_39 : decode cX12_move 39 = .ok (.iload_n 2, 1) := by decide +kernel
theorem dX12_move_40 : decode cX12_move 40 = .ok (.aload_n 0, 1) := by decide +kernel
theorem dX12_move_41 : decode cX12_move 41 = .ok (.getfield 29, 3) := by decide +kernel
theorem dX12_move_44 : decode cX12_move 44 = .ok (.iload_n 1, 1) := by decide +kernel
theorem dX12_move_45 : decode cX12_move 45 = .ok (.iaload, 1) := by decide +kernel
theorem dX12_move_46 : decode cX12_move 46 = .ok (.if_icmp .ge 7, 3) := by decide +kernel
theorem dX12_move_49 : decode cX12_move 49 = .ok (.iload_n 2, 1) := by decide +kernel
theorem dX12_move_50 : decode cX12_move 50 = .ok (.goto 9, 3) := by decide +kernel
theorem dX12_move_53 : decode cX12_move 53 = .ok (.aload_n 0, 1) := by decide +kernel
theorem dX12_move_54 : decode cX12_move 54 = .ok (.getfield 29, 3) := by decide +kernel
theorem dX12_move_57 : decode cX12_move 57 = .ok (.iload_n 1, 1) := by decide +kernel
theorem dX12_move_58 : decode cX12_move 58 = .ok (.iaload, 1) := by decide +kernel
theorem dX12_move_59 : decode cX12_move 59 = .ok (.istore 4, 2) := by decide +kernel
theorem dX12_move_61 : decode cX12_move 61 = .ok (.aload_n 0, 1) := by decide +kernel
theorem dX12_move_62 : decode cX12_move 62 = .ok (.getfield 7, 3) := by decide +kernel
theorem dX12_move_65 : decode cX12_move 65 = .ok (.iload_n 3, 1) := by decide +kernel
theorem dX12_move_66 : decode cX12_move 66 = .ok (.iaload, 1) := by decide +kernel
theorem dX12_move_67 : decode cX12_move 67 = .ok (.ifCond .le 18, 3) := by decide +kernel
theorem dX12_move_85 : decode cX12_move 85 = .ok (.iconst 0, 1) := by decide +kernel
theorem dX12_move_86 : decode cX12_move 86 = .ok (.istore 5, 2) := by decide +kernel
theorem dX12_move_88 : decode cX12_move 88 = .ok (.iconst 0, 1) := by decide +kernel
theorem dX12_move_89 : decode cX12_move 89 = .ok (.istore 6, 2) := by decide +kernel
theorem dX12_move_91 : decode cX12_move 91 = .ok (.iload 6, 2) := by decide +kernel
theorem dX12_move_93 : decode cX12_move 93 = .ok (.iload 4, 2) := by decide +kernel
theorem dX12_move_95 : decode cX12_move 95 = .ok (.if_icmp .ge 47, 3) := by decide +kernel
theorem dX12_move_142 : decode cX12_move 142 = .ok (.aload_n 0, 1) := by decide +kernel
theorem dX12_move_143 : decode cX12_move 143 = .ok (.getfield 23, 3) := by decide +kernel
theorem dX12_move_146 : decode cX12_move 146 = .ok (.iload_n 3, 1) := by decide +kernel
theorem dX12_move_147 : decode cX12_move 147 = .ok (.iload 5, 2) := by decide +kernel
theorem dX12_move_149 : decode cX12_move 149 = .ok (.ifCond .eq 15, 3) := by decide +kernel
theorem dX12_move_164 : decode cX12_move 164 = .ok (.aload_n 0, 1) := by decide +kernel
theorem dX12_move_165 : decode cX12_move 165 = .ok (.getfield 23, 3) := by decide +kernel
theorem dX12_move_168 : decode cX12_move 168 = .ok (.iload_n 3, 1) := by decide +kernel
theorem dX12_move_169 : decode cX12_move 169 = .ok (.iaload, 1) := by decide +kernel
theorem dX12_move_170 : decode cX12_move 170 = .ok (.iastore, 1) := by decide +kernel
theorem dX12_move_171 : decode cX12_move 171 = .ok (.aload_n 0, 1) := by decide +kernel
theorem dX12_move_172 : decode cX12_move 172 = .ok (.getfield 29, 3) := by decide +kernel
theorem dX12_move_175 : decode cX12_move 175 = .ok (.iload_n 1, 1) := by decide +kernel
theorem dX12_move_176 : decode cX12_move 176 = .ok (.aload_n 0, 1) := by decide +kernel
theorem dX12_move_177 : decode cX12_move 177 = .ok (.getfield 29, 3) := by decide +kernel
theorem dX12_move_180 : decode cX12_move 180 = .ok (.iload_n 1, 1) := by decide +kernel
theorem dX12_move_181 : decode cX12_move 181 = .ok (.iaload, 1) := by decide +kernel
theorem dX12_move_182 : decode cX12_move 182 = .ok (.iload 4, 2) := by decide +kernel
theorem dX12_move_184 : decode cX12_move 184 = .ok (.isub, 1) := by decide +kernel
theorem dX12_move_185 : decode cX12_move 185 = .ok (.iastore, 1) := by decide +kernel
theorem dX12_move_186 : decode cX12_move 186 = .ok (.iconst 0, 1) := by decide +kernel
theorem dX12_move_187 : decode cX12_move 187 = .ok (.istore 6, 2) := by decide +kernel
theorem dX12_move_189 : decode cX12_move 189 = .ok (.iload 6, 2) := by decide +kernel
theorem dX12_move_191 : decode cX12_move 191 = .ok (.aload_n 0, 1) := by decide +kernel
theorem dX12_move_192 : decode cX12_move 192 = .ok (.getfield 29, 3) := by decide +kernel
theorem dX12_move_195 : decode cX12_move 195 = .ok (.iload_n 1, 1) := by decide +kernel
theorem dX12_move_196 : decode cX12_move 196 = .ok (.iaload, 1) := by decide +kernel
theorem dX12_move_197 : decode cX12_move 197 = .ok (.if_icmp .ge 38, 3) := by decide +kernel
theorem dX12_move_235 : decode cX12_move 235 = .ok (.iload 5, 2) := by decide +kernel
theorem dX12_move_237 : decode cX12_move 237 = .ok (.ifCond .eq 8, 3) := by decide +kernel
theorem dX12_move_245 : decode cX12_move 245 = .ok (.iload 4, 2) := by decide +kernel
theorem dX12_move_247 : decode cX12_move 247 = .ok (.ireturn, 1) := by decide +kernel
noncomputable def X12_move_l189  (k189_15 : Nat) (t189_15 : Unit) : (Unit) ⊕ (Unit) :=
  .inr (())
noncomputable def X12_move_l91  (k91_10 : Nat) (t91_10 : Unit) : (Unit) ⊕ (Unit) :=
  .inr (())
noncomputable def X12_move_m32 (x1 : Int32) (x2 : Int32) (f_waySize : Nat → Int32) : (Int32) :=
  if 0 ≤ x2 then
  (if (f_waySize x1.toNatClampNeg) ≤ x2 then
  (f_waySize x1.toNatClampNeg)
  else
  (x2))
  else
  (nI 0)
noncomputable def X12_move_m2 (x1 : Int32) : (Int32) :=
  if x1 < 0 then
  (nI 1)
  else
  (if x1 ≤ (nI 1) then
  (nI 0)
  else
  (nI 1))
noncomputable def f_X12_move (f_waySize : Nat → Int32) (f_cameSize : Nat → Int32) (x1 : Int32) (x2 : Int32) : Int32 × (Int32) × (Nat → Int32) × (Nat → Int32) :=
  let g2_1 := X12_move_m2 x1
  if g2_1 ≤ 0 then
  (let y5 := (nI 1) - x1
  let g32_6 := X12_move_m32 x1 x2 f_waySize
  let g91_11 := mrg (itx X12_move_l91 1 0 (()))
  let y13 := f_cameSize y5.toNatClampNeg
  let y14 := (f_waySize x1.toNatClampNeg) - g32_6
  let g189_16 := mrg (itx X12_move_l189 1 0 (()))
  (g32_6, g2_1, upd f_cameSize y5.toNatClampNeg y13, upd f_waySize x1.toNatClampNeg y14))
  else
  ((nI 0, g2_1, f_cameSize, f_waySize))
theorem mv_dir {x : Int32} (h : X12_move_m2 x ≤ 0) : vp_in x 2 := by
  unfold X12_move_m2 at h
  split at h
  · exact absurd h (by decide)
  · rename_i h0
    split at h
    · rename_i h1
      exact vp_dir h0 h1
    · exact absurd h (by decide)
theorem mv_many {f : Nat → Int32} {x y : Int32} (h : ∀ j, j < 2 → f j = nI 0) (hx : vp_in x 2) : X12_move_m32 x y f = nI 0 := by
  have e := h _ (vp_nI hx (by decide)).2
  unfold X12_move_m32
  rw [e]
  split
  · rename_i h0
    split
    · rfl
    · rename_i h1
      exact absurd h0 h1
  · rfl
set_option maxHeartbeats 4000000 in
set_option maxRecDepth 100000 in
theorem c_X12_move (l : Launch) (D : va_G) (ct : Nat → ClassId) (ts : Nat → Nat) (a_this : Nat) (ad : Nat → Nat) (v_thrown : Int32) (v_connections : Int32) (v_size : Nat) (v_ids : Nat) (v_dataAll : Nat) (v_putCount : Nat) (v_waiting : Nat) (v_readSize : Nat) (v_power : Int32) (v_left : Int32) (v_since : Int32) (v_changes : Int32) (v_rowSize : Nat) (f_waySize : Nat → Int32) (f_state : Nat → Int32) (f_cameSize : Nat → Int32) (x1 : Int32) (x2 : Int32)  (h_s0 : ∀ j, j < 2 → f_state j = nI 0) (h_w0 : ∀ j, j < 2 → f_waySize j = nI 0)  (sz : Nat) : Met l yX12_move (Cond.code yX12_move cX12_move 7 (some .int) :: tb) { frames := 0, cells := 0, slots := 0, locals := 0 } (PcG D ct SXL ts [.ref a_this, .int x1, .int x2] [(a_this, .inr (12, mfs ad v_thrown v_connections (nI v_size) (nI v_ids) (nI v_dataAll) (nI v_putCount) (nI v_waiting) (nI v_readSize) v_power v_left v_since v_changes (nI v_rowSize))), (ad 8, .inl (ct 0, 2, .inl f_waySize)), (ad 2, .inl (ct 0, 2, .inl f_state)), (ad 6, .inl (ct 0, 2, .inl f_cameSize))] sz) (va_Qi (fun (r : Int32) (u : (Int32) × (Nat → Int32) × (Nat → Int32)) => (r, u) = f_X12_move f_waySize f_cameSize x1 x2) (fun u => BG D ct (va_A [(a_this, .inr (12, mfs ad v_thrown v_connections (nI v_size) (nI v_ids) (nI v_dataAll) (nI v_putCount) (nI v_waiting) (nI v_readSize) v_power v_left v_since v_changes (nI v_rowSize))), (ad 8, .inl (ct 0, 2, .inl f_waySize)), (ad 2, .inl (ct 0, 2, .inl f_state)), (ad 6, .inl (ct 0, 2, .inl f_cameSize))] sz) [(a_this, .inr (12, mfs ad u.1 v_connections (nI v_size) (nI v_ids) (nI v_dataAll) (nI v_putCount) (nI v_waiting) (nI v_readSize) v_power v_left v_since v_changes (nI v_rowSize))), (ad 8, .inl (ct 0, 2, .inl u.2.2)), (ad 2, .inl (ct 0, 2, .inl f_state)), (ad 6, .inl (ct 0, 2, .inl u.2.1))]) (va_A [(a_this, .inr (12, mfs ad v_thrown v_connections (nI v_size) (nI v_ids) (nI v_dataAll) (nI v_putCount) (nI v_waiting) (nI v_readSize) v_power v_left v_since v_changes (nI v_rowSize))), (ad 8, .inl (ct 0, 2, .inl f_waySize)), (ad 2, .inl (ct 0, 2, .inl f_state)), (ad 6, .inl (ct 0, 2, .inl f_cameSize))] sz)) 0 0 (va_A [(a_this, .inr (12, mfs ad v_thrown v_connections (nI v_size) (nI v_ids) (nI v_dataAll) (nI v_putCount) (nI v_waiting) (nI v_readSize) v_power v_left v_since v_changes (nI v_rowSize))), (ad 8, .inl (ct 0, 2, .inl f_waySize)), (ad 2, .inl (ct 0, 2, .inl f_state)), (ad 6, .inl (ct 0, 2, .inl f_cameSize))] sz) := by
  refine metJ (l := l) (y := yX12_move) (cc := cX12_move) (maxL := 7) (ret := (some .int)) (rm := { frames := 0, cells := 0, slots := 0, locals := 0 }) (D := D) (ct := ct) (L := SXL) (ts := ts) (av := [.ref a_this, .int x1, .int x2]) (ws := [(a_this, .inr (12, mfs ad v_thrown v_connections (nI v_size) (nI v_ids) (nI v_dataAll) (nI v_putCount) (nI v_waiting) (nI v_readSize) v_power v_left v_since v_changes (nI v_rowSize))), (ad 8, .inl (ct 0, 2, .inl f_waySize)), (ad 2, .inl (ct 0, 2, .inl f_state)), (ad 6, .inl (ct 0, 2, .inl f_cameSize))]) (sz := sz) (mc := 0) (ms := 0) (QcF := fun A => va_Qi (fun (r : Int32) (u : (Int32) × (Nat → Int32) × (Nat → Int32)) => (r, u) = f_X12_move f_waySize f_cameSize x1 x2) (fun u => BG D ct A [(a_this, .inr (12, mfs ad u.1 v_connections (nI v_size) (nI v_ids) (nI v_dataAll) (nI v_putCount) (nI v_waiting) (nI v_readSize) v_power v_left v_since v_changes (nI v_rowSize))), (ad 8, .inl (ct 0, 2, .inl u.2.2)), (ad 2, .inl (ct 0, 2, .inl f_state)), (ad 6, .inl (ct 0, 2, .inl u.2.1))]) A) (by decide) (Nat.le_of_ble_eq_true rfl) ?_
  intro p e s m below meth c A X hnm
  obtain ⟨Q, hQ⟩ : ∃ Q, Q = MQ below (va_Qi (fun (r : Int32) (u : (Int32) × (Nat → Int32) × (Nat → Int32)) => (r, u) = f_X12_move f_waySize f_cameSize x1 x2) (fun u => BG D ct A [(a_this, .inr (12, mfs ad u.1 v_connections (nI v_size) (nI v_ids) (nI v_dataAll) (nI v_putCount) (nI v_waiting) (nI v_readSize) v_power v_left v_since v_changes (nI v_rowSize))), (ad 8, .inl (ct 0, 2, .inl u.2.2)), (ad 2, .inl (ct 0, 2, .inl f_state)), (ad 6, .inl (ct 0, 2, .inl u.2.1))]) A) [.ref a_this, .int x1, .int x2].toArray s 0 0 A := ⟨_, rfl⟩
  rw [← hQ]
  refine j_lve (lv' := [(0, .ref a_this), (1, .int x1), (2, .int x2)]) rfl ?_
  refine j_aload_n X 0 dX12_move_0 rfl (q := 1) rfl ?_
  refine j_iload_n X 1 dX12_move_1 rfl (q := 2) rfl ?_
  have KJ2_1 : ∀ g2_1 : (Int32), g2_1 = X12_move_m2 x1 → J p l e { frames := 0, cells := 0, slots := 0, locals := 0 } s m [.ref a_this, .int x1, .int x2].toArray below meth c D A 7 Q 0 0 [(a_this, .inr (12, mfs ad v_thrown v_connections (nI v_size) (nI v_ids) (nI v_dataAll) (nI v_putCount) (nI v_waiting) (nI v_readSize) v_power v_left v_since v_changes (nI v_rowSize))), (ad 8, .inl (ct 0, 2, .inl f_waySize)), (ad 2, .inl (ct 0, 2, .inl f_state)), (ad 6, .inl (ct 0, 2, .inl f_cameSize))] [(0, .ref a_this), (1, .int x1), (2, .int x2)] [.int g2_1, .ref a_this] 15 := by
    intro g2_1 e_g2_1
    refine j_put (f := 0) (ws2 := [(a_this, .inr (12, mfs ad g2_1 v_connections (nI v_size) (nI v_ids) (nI v_dataAll) (nI v_putCount) (nI v_waiting) (nI v_readSize) v_power v_left v_since v_changes (nI v_rowSize))), (ad 8, .inl (ct 0, 2, .inl f_waySize)), (ad 2, .inl (ct 0, 2, .inl f_state)), (ad 6, .inl (ct 0, 2, .inl f_cameSize))]) (ty := .int) X 0 inT12 tyX12_ok nmX12 rfl rfl (by decide) mw_X12_move_0 rfl rfl rfl rfl (Nat.le_of_ble_eq_true rfl) dX12_move_15 rfl (q := 18) rfl ?_
    refine j_aload_n X 0 dX12_move_18 rfl (q := 19) rfl ?_
    refine j_get (f := 0) X 0 inT12 rfl rfl (by decide) mw_X12_move_0 rfl dX12_move_19 (q := 22) rfl ?_
    refine j_if_le (tgt := 27) X dX12_move_22 (by decide) (q := 25) rfl (fun c4 => ?_) (fun c4 => ?_)
    · skip
      refine j_iconst (v := nI 1) X dX12_move_27 (by decide) (q := 28) rfl ?_
      refine j_iload_n X 1 dX12_move_28 rfl (q := 29) rfl ?_
      refine j_isub X dX12_move_29 (q := 30) rfl ?_
      refine j_topi (fun y5 e_y5 => ?_)
      refine j_istore_n (lv' := [(3, .int y5), (0, .ref a_this), (1, .int x1), (2, .int x2)]) X dX12_move_30 (by decide) rfl (q := 31) rfl ?_
      refine j_iload_n X 3 dX12_move_31 rfl (q := 32) rfl ?_
      have KJ32_6 : ∀ g32_6 : (Int32), g32_6 = X12_move_m32 x1 x2 f_waySize → J p l e { frames := 0, cells := 0, slots := 0, locals := 0 } s m [.ref a_this, .int x1, .int x2].toArray below meth c D A 7 Q 0 0 [(a_this, .inr (12, mfs ad g2_1 v_connections (nI v_size) (nI v_ids) (nI v_dataAll) (nI v_putCount) (nI v_waiting) (nI v_readSize) v_power v_left v_since v_changes (nI v_rowSize))), (ad 8, .inl (ct 0, 2, .inl f_waySize)), (ad 2, .inl (ct 0, 2, .inl f_state)), (ad 6, .inl (ct 0, 2, .inl f_cameSize))] [(0, .ref a_this), (1, .int x1), (2, .int x2), (3, .int y5)] [.int g32_6] 59 := by
        intro g32_6 e_g32_6
        have hg0 : g32_6 = nI 0 := by rw [e_g32_6]; exact mv_many h_w0 (mv_dir (by rw [← e_g2_1]; assumption))
        refine j_istore (lv' := [(4, .int g32_6), (0, .ref a_this), (1, .int x1), (2, .int x2), (3, .int y5)]) X dX12_move_59 (by decide) rfl (q := 61) rfl ?_
        refine j_aload_n X 1 dX12_move_61 rfl (q := 62) rfl ?_
        refine j_get (f := 2) X 0 inT12 rfl rfl (by decide) mw_X12_move_2 rfl dX12_move_62 (q := 65) rfl ?_
        refine j_iload_n X 4 dX12_move_65 rfl (q := 66) rfl ?_
        refine k_iald X 2 rfl (by rw [e_y5]; exact fr_side (mv_dir (by rw [← e_g2_1]; assumption))) rfl dX12_move_66 (q := 67) rfl ?_
        refine j_if_le (tgt := 85) X dX12_move_67 (by decide) (q := 70) rfl (fun c9 => ?_) (fun c9 => ?_)
        · skip
          refine j_iconst (v := nI 0) X dX12_move_85 (by decide) (q := 86) rfl ?_
          refine j_istore (lv' := [(5, .int (nI 0)), (4, .int g32_6), (0, .ref a_this), (1, .int x1), (2, .int x2), (3, .int y5)]) X dX12_move_86 (by decide) rfl (q := 88) rfl ?_
          refine j_iconst (v := nI 0) X dX12_move_88 (by decide) (q := 89) rfl ?_
          refine j_istore (lv' := [(6, .int (nI 0)), (5, .int (nI 0)), (4, .int g32_6), (0, .ref a_this), (1, .int x1), (2, .int x2), (3, .int y5)]) X dX12_move_89 (by decide) rfl (q := 91) rfl ?_
          refine j_lv (lv' := [(0, .ref a_this), (1, .int x1), (2, .int x2), (3, .int y5), (4, .int g32_6), (5, .int (nI 0)), (6, .int (nI 0))]) [3, 4, 5, 6, 2, 1, 0] rfl ?_
          have KE91_10 : ∀ g91_11 : Unit, g91_11 = mrg (itx X12_move_l91 1 0 (())) → J p l e { frames := 0, cells := 0, slots := 0, locals := 0 } s m [.ref a_this, .int x1, .int x2].toArray below meth c D A 7 Q 0 0 [(a_this, .inr (12, mfs ad g2_1 v_connections (nI v_size) (nI v_ids) (nI v_dataAll) (nI v_putCount) (nI v_waiting) (nI v_readSize) v_power v_left v_since v_changes (nI v_rowSize))), (ad 8, .inl (ct 0, 2, .inl f_waySize)), (ad 2, .inl (ct 0, 2, .inl f_state)), (ad 6, .inl (ct 0, 2, .inl f_cameSize))] [(0, .ref a_this), (1, .int x1), (2, .int x2), (3, .int y5), (4, .int g32_6), (5, .int (nI 0)), (6, .int (nI 0))] [] 142 := by
            intro g91_11 e_g91_11 
            refine j_aload_n X 0 dX12_move_142 rfl (q := 143) rfl ?_
            refine j_get (f := 6) X 0 inT12 rfl rfl (by decide) mw_X12_move_3 rfl dX12_move_143 (q := 146) rfl ?_
            refine j_iload_n X 3 dX12_move_146 rfl (q := 147) rfl ?_
            refine j_iload X 5 dX12_move_147 rfl (q := 149) rfl ?_
            refine j_if_eq (tgt := 164) X dX12_move_149 (by decide) (q := 152) rfl (fun c12 => ?_) (fun c12 => ?_)
            · skip
              have c12 : 0 = 0 := (nI_eq (a := 0) (b := 0) (by omega) (by omega)).mp c12
              refine j_aload_n X 0 dX12_move_164 rfl (q := 165) rfl ?_
              refine j_get (f := 6) X 0 inT12 rfl rfl (by decide) mw_X12_move_3 rfl dX12_move_165 (q := 168) rfl ?_
              refine j_iload_n X 3 dX12_move_168 rfl (q := 169) rfl ?_
              refine k_iald X 3 rfl (by rw [e_y5]; exact fr_side (mv_dir (by rw [← e_g2_1]; assumption))) rfl dX12_move_169 (q := 170) rfl ?_
              refine j_topi (fun y13 e_y13 => ?_)
              refine k_iast (ws2 := [(a_this, .inr (12, mfs ad g2_1 v_connections (nI v_size) (nI v_ids) (nI v_dataAll) (nI v_putCount) (nI v_waiting) (nI v_readSize) v_power v_left v_since v_changes (nI v_rowSize))), (ad 8, .inl (ct 0, 2, .inl f_waySize)), (ad 2, .inl (ct 0, 2, .inl f_state)), (ad 6, .inl (ct 0, 2, .inl (upd f_cameSize y5.toNatClampNeg y13)))]) X 3 rfl (by rw [e_y5]; exact fr_side (mv_dir (by rw [← e_g2_1]; assumption))) rfl dX12_move_170 rfl (q := 171) rfl ?_
              refine j_aload_n X 0 dX12_move_171 rfl (q := 172) rfl ?_
              refine j_get (f := 8) X 0 inT12 rfl rfl (by decide) mw_X12_move_1 rfl dX12_move_172 (q := 175) rfl ?_
              refine j_iload_n X 1 dX12_move_175 rfl (q := 176) rfl ?_
              refine j_aload_n X 0 dX12_move_176 rfl (q := 177) rfl ?_
              refine j_get (f := 8) X 0 inT12 rfl rfl (by decide) mw_X12_move_1 rfl dX12_move_177 (q := 180) rfl ?_
              refine j_iload_n X 1 dX12_move_180 rfl (q := 181) rfl ?_
              refine k_iald X 1 rfl (mv_dir (by rw [← e_g2_1]; assumption)) rfl dX12_move_181 (q := 182) rfl ?_
              refine j_iload X 4 dX12_move_182 rfl (q := 184) rfl ?_
              refine j_isub X dX12_move_184 (q := 185) rfl ?_
              refine j_topi (fun y14 e_y14 => ?_)
              refine k_iast (ws2 := [(a_this, .inr (12, mfs ad g2_1 v_connections (nI v_size) (nI v_ids) (nI v_dataAll) (nI v_putCount) (nI v_waiting) (nI v_readSize) v_power v_left v_since v_changes (nI v_rowSize))), (ad 8, .inl (ct 0, 2, .inl (upd f_waySize x1.toNatClampNeg y14))), (ad 2, .inl (ct 0, 2, .inl f_state)), (ad 6, .inl (ct 0, 2, .inl (upd f_cameSize y5.toNatClampNeg y13)))]) X 1 rfl (mv_dir (by rw [← e_g2_1]; assumption)) rfl dX12_move_185 rfl (q := 186) rfl ?_
              refine j_iconst (v := nI 0) X dX12_move_186 (by decide) (q := 187) rfl ?_
              refine j_istore (lv' := [(6, .int (nI 0)), (0, .ref a_this), (1, .int x1), (2, .int x2), (3, .int y5), (4, .int g32_6), (5, .int (nI 0))]) X dX12_move_187 (by decide) rfl (q := 189) rfl ?_
              refine j_lv (lv' := [(0, .ref a_this), (1, .int x1), (2, .int x2), (3, .int y5), (4, .int g32_6), (5, .int (nI 0)), (6, .int (nI 0))]) [1, 2, 3, 4, 5, 6, 0] rfl ?_
              have KE189_15 : ∀ g189_16 : Unit, g189_16 = mrg (itx X12_move_l189 1 0 (())) → J p l e { frames := 0, cells := 0, slots := 0, locals := 0 } s m [.ref a_this, .int x1, .int x2].toArray below meth c D A 7 Q 0 0 [(a_this, .inr (12, mfs ad g2_1 v_connections (nI v_size) (nI v_ids) (nI v_dataAll) (nI v_putCount) (nI v_waiting) (nI v_readSize) v_power v_left v_since v_changes (nI v_rowSize))), (ad 8, .inl (ct 0, 2, .inl (upd f_waySize x1.toNatClampNeg y14))), (ad 2, .inl (ct 0, 2, .inl f_state)), (ad 6, .inl (ct 0, 2, .inl (upd f_cameSize y5.toNatClampNeg y13)))] [(0, .ref a_this), (1, .int x1), (2, .int x2), (3, .int y5), (4, .int g32_6), (5, .int (nI 0)), (6, .int (nI 0))] [] 235 := by
                intro g189_16 e_g189_16 
                refine j_iload X 5 dX12_move_235 rfl (q := 237) rfl ?_
                refine j_if_eq (tgt := 245) X dX12_move_237 (by decide) (q := 240) rfl (fun c17 => ?_) (fun c17 => ?_)
                · skip
                  have c17 : 0 = 0 := (nI_eq (a := 0) (b := 0) (by omega) (by omega)).mp c17
                  refine j_iload X 4 dX12_move_245 rfl (q := 247) rfl ?_
                  rw [hQ]
                  exact j_iret X ((g2_1, upd f_cameSize y5.toNatClampNeg y13, upd f_waySize x1.toNatClampNeg y14)) dX12_move_247 (by subst e_g2_1; subst e_y5; subst e_g32_6; subst e_g91_11; subst e_y13; subst e_y14; subst e_g189_16; first | rfl | (simp only [f_X12_move, if_pos c4, if_pos c9]; done) | (simp only [f_X12_move, if_pos c4, if_pos c9]; rfl)) rfl
                · skip
                  have c17 : ¬ 0 = 0 := fun h => c17 (by rw [h]; rfl)
                  exfalso; omega
              have LP189_15 : ∀ (r189_15 k189_15 : Nat) (t189_15 : Unit), itx X12_move_l189 1 0 (()) = itx X12_move_l189 r189_15 k189_15 t189_15 → (0 < r189_15) → J p l e { frames := 0, cells := 0, slots := 0, locals := 0 } s m [.ref a_this, .int x1, .int x2].toArray below meth c D A 7 Q 0 0 [(a_this, .inr (12, mfs ad g2_1 v_connections (nI v_size) (nI v_ids) (nI v_dataAll) (nI v_putCount) (nI v_waiting) (nI v_readSize) v_power v_left v_since v_changes (nI v_rowSize))), (ad 8, .inl (ct 0, 2, .inl (upd f_waySize x1.toNatClampNeg y14))), (ad 2, .inl (ct 0, 2, .inl f_state)), (ad 6, .inl (ct 0, 2, .inl (upd f_cameSize y5.toNatClampNeg y13)))] [(0, .ref a_this), (1, .int x1), (2, .int x2), (3, .int y5), (4, .int g32_6), (5, .int (nI 0)), (6, .int (nI 0))] [] 189 := by
                intro r189_15
                induction r189_15 with
                | zero =>
                  intro k189_15 t189_15 e_t189_15 hi0_t189_15
                  exfalso; omega
                | succ r189_15 ih189_15 =>
                  intro k189_15 t189_15 e_t189_15 hi0_t189_15
                  refine j_iload X 6 dX12_move_189 rfl (q := 191) rfl ?_
                  refine j_aload_n X 0 dX12_move_191 rfl (q := 192) rfl ?_
                  refine j_get (f := 8) X 0 inT12 rfl rfl (by decide) mw_X12_move_1 rfl dX12_move_192 (q := 195) rfl ?_
                  refine j_iload_n X 1 dX12_move_195 rfl (q := 196) rfl ?_
                  refine k_iald X 1 rfl (mv_dir (by rw [← e_g2_1]; assumption)) rfl dX12_move_196 (q := 197) rfl ?_
                  refine j_icmp_ge (tgt := 235) X dX12_move_197 (by decide) (q := 200) rfl (fun c18 => ?_) (fun c18 => ?_)
                  · skip
                    refine j_lv (lv' := [(0, .ref a_this), (1, .int x1), (2, .int x2), (3, .int y5), (4, .int g32_6), (5, .int (nI 0)), (6, .int (nI 0))]) [0, 1, 2, 3, 4, 5, 6] rfl ?_
                    have hb19 : X12_move_l189 k189_15 t189_15 = .inr (()) := (by first | rfl | (simp only [X12_move_l189, if_pos c18]; done) | (simp only [X12_move_l189, if_pos c18]; rfl))
                    exact KE189_15 (()) (by rw [e_t189_15, itx_out hb19]; try rfl) 
                  · skip
                    exact absurd (show upd f_waySize x1.toNatClampNeg y14 x1.toNatClampNeg ≤ nI 0 by rw [pk_us, e_y14, hg0, h_w0 _ (vp_nI (show vp_in x1 2 from mv_dir (by rw [← e_g2_1]; assumption)) (by decide)).2]; decide) (by assumption)
              exact LP189_15 1 0 (()) rfl (show 0 < 1 from by omega)
            · skip
              have c12 : ¬ 0 = 0 := fun h => c12 (by rw [h]; rfl)
              exfalso; omega
          have LP91_10 : ∀ (r91_10 k91_10 : Nat) (t91_10 : Unit), itx X12_move_l91 1 0 (()) = itx X12_move_l91 r91_10 k91_10 t91_10 → (0 < r91_10) → J p l e { frames := 0, cells := 0, slots := 0, locals := 0 } s m [.ref a_this, .int x1, .int x2].toArray below meth c D A 7 Q 0 0 [(a_this, .inr (12, mfs ad g2_1 v_connections (nI v_size) (nI v_ids) (nI v_dataAll) (nI v_putCount) (nI v_waiting) (nI v_readSize) v_power v_left v_since v_changes (nI v_rowSize))), (ad 8, .inl (ct 0, 2, .inl f_waySize)), (ad 2, .inl (ct 0, 2, .inl f_state)), (ad 6, .inl (ct 0, 2, .inl f_cameSize))] [(0, .ref a_this), (1, .int x1), (2, .int x2), (3, .int y5), (4, .int g32_6), (5, .int (nI 0)), (6, .int (nI 0))] [] 91 := by
            intro r91_10
            induction r91_10 with
            | zero =>
              intro k91_10 t91_10 e_t91_10 hi0_t91_10
              exfalso; omega
            | succ r91_10 ih91_10 =>
              intro k91_10 t91_10 e_t91_10 hi0_t91_10
              refine j_iload X 6 dX12_move_91 rfl (q := 93) rfl ?_
              refine j_iload X 4 dX12_move_93 rfl (q := 95) rfl ?_
              refine j_icmp_ge (tgt := 142) X dX12_move_95 (by decide) (q := 98) rfl (fun c20 => ?_) (fun c20 => ?_)
              · skip
                refine j_lv (lv' := [(0, .ref a_this), (1, .int x1), (2, .int x2), (3, .int y5), (4, .int g32_6), (5, .int (nI 0)), (6, .int (nI 0))]) [0, 1, 2, 3, 4, 5, 6] rfl ?_
                have hb21 : X12_move_l91 k91_10 t91_10 = .inr (()) := (by first | rfl | (simp only [X12_move_l91, if_pos c20]; done) | (simp only [X12_move_l91, if_pos c20]; rfl))
                exact KE91_10 (()) (by rw [e_t91_10, itx_out hb21]; try rfl) 
              · skip
                exact absurd (show g32_6 ≤ nI 0 by rw [hg0]; decide) (by assumption)
          exact LP91_10 1 0 (()) rfl (show 0 < 1 from by omega)
        · skip
          exact absurd (show f_state y5.toNatClampNeg ≤ 0 by rw [h_s0 _ (vp_nI (show vp_in y5 2 by rw [e_y5]; exact fr_side (mv_dir (by rw [← e_g2_1]; assumption))) (by decide)).2]; decide) (by assumption)
      refine j_if_ge (tgt := 39) X dX12_move_32 (by decide) (q := 35) rfl (fun c7 => ?_) (fun c7 => ?_)
      · skip
        refine j_iload_n X 3 dX12_move_39 rfl (q := 40) rfl ?_
        refine j_aload_n X 1 dX12_move_40 rfl (q := 41) rfl ?_
        refine j_get (f := 8) X 0 inT12 rfl rfl (by decide) mw_X12_move_1 rfl dX12_move_41 (q := 44) rfl ?_
        refine j_iload_n X 2 dX12_move_44 rfl (q := 45) rfl ?_
        refine k_iald X 1 rfl (mv_dir (by rw [← e_g2_1]; assumption)) rfl dX12_move_45 (q := 46) rfl ?_
        refine j_icmp_ge (tgt := 53) X dX12_move_46 (by decide) (q := 49) rfl (fun c8 => ?_) (fun c8 => ?_)
        · skip
          refine j_aload_n X 1 dX12_move_53 rfl (q := 54) rfl ?_
          refine j_get (f := 8) X 0 inT12 rfl rfl (by decide) mw_X12_move_1 rfl dX12_move_54 (q := 57) rfl ?_
          refine j_iload_n X 2 dX12_move_57 rfl (q := 58) rfl ?_
          refine k_iald X 1 rfl (mv_dir (by rw [← e_g2_1]; assumption)) rfl dX12_move_58 (q := 59) rfl ?_
          refine j_lv (lv' := [(0, .ref a_this), (1, .int x1), (2, .int x2), (3, .int y5)]) [1, 2, 3, 0] rfl ?_
          exact KJ32_6 (f_waySize x1.toNatClampNeg) (by first | rfl | (simp only [X12_move_m32, if_pos c7, if_pos c8]; done) | (simp only [X12_move_m32, if_pos c7, if_pos c8]; rfl))
        · skip
          refine j_iload_n X 3 dX12_move_49 rfl (q := 50) rfl ?_
          refine j_goto (tgt := 59) X dX12_move_50 (by decide) ?_
          refine j_lv (lv' := [(0, .ref a_this), (1, .int x1), (2, .int x2), (3, .int y5)]) [1, 2, 3, 0] rfl ?_
          exact KJ32_6 x2 (by first | rfl | (simp only [X12_move_m32, if_pos c7, if_neg c8]; done) | (simp only [X12_move_m32, if_pos c7, if_neg c8]; rfl))
      · skip
        refine j_iconst (v := nI 0) X dX12_move_35 (by decide) (q := 36) rfl ?_
        refine j_goto (tgt := 59) X dX12_move_36 (by decide) ?_
        refine j_lv (lv' := [(0, .ref a_this), (1, .int x1), (2, .int x2), (3, .int y5)]) [1, 2, 3, 0] rfl ?_
        exact KJ32_6 (nI 0) (by first | rfl | (simp only [X12_move_m32, if_neg c7]; done) | (simp only [X12_move_m32, if_neg c7]; rfl))
    · skip
      refine j_iconst (v := nI 0) X dX12_move_25 (by decide) (q := 26) rfl ?_
      rw [hQ]
      exact j_iret X ((g2_1, f_cameSize, f_waySize)) dX12_move_26 (by subst e_g2_1; first | rfl | (simp only [f_X12_move, if_neg c4]; done) | (simp only [f_X12_move, if_neg c4]; rfl)) rfl
  refine j_if_lt (tgt := 10) X dX12_move_2 (by decide) (q := 5) rfl (fun c2 => ?_) (fun c2 => ?_)
  · skip
    refine j_iconst (v := nI 1) X dX12_move_10 (by decide) (q := 11) rfl ?_
    refine j_goto (tgt := 15) X dX12_move_11 (by decide) ?_
    refine j_lv (lv' := [(0, .ref a_this), (1, .int x1), (2, .int x2)]) [0, 1, 2] rfl ?_
    exact KJ2_1 (nI 1) (by first | rfl | (simp only [X12_move_m2, if_pos c2]; done) | (simp only [X12_move_m2, if_pos c2]; rfl))
  · skip
    refine j_iload_n X 1 dX12_move_5 rfl (q := 6) rfl ?_
    refine j_iconst (v := nI 1) X dX12_move_6 (by decide) (q := 7) rfl ?_
    refine j_icmp_le (tgt := 14) X dX12_move_7 (by decide) (q := 10) rfl (fun c3 => ?_) (fun c3 => ?_)
    · skip
      refine j_iconst (v := nI 0) X dX12_move_14 (by decide) (q := 15) rfl ?_
      refine j_lv (lv' := [(0, .ref a_this), (1, .int x1), (2, .int x2)]) [0, 1, 2] rfl ?_
      exact KJ2_1 (nI 0) (by first | rfl | (simp only [X12_move_m2, if_neg c2, if_pos c3]; done) | (simp only [X12_move_m2, if_neg c2, if_pos c3]; rfl))
    · skip
      refine j_iconst (v := nI 1) X dX12_move_10 (by decide) (q := 11) rfl ?_
      refine j_goto (tgt := 15) X dX12_move_11 (by decide) ?_
      refine j_lv (lv' := [(0, .ref a_this), (1, .int x1), (2, .int x2)]) [0, 1, 2] rfl ?_
      exact KJ2_1 (nI 1) (by first | rfl | (simp only [X12_move_m2, if_neg c2, if_neg c3]; done) | (simp only [X12_move_m2, if_neg c2, if_neg c3]; rfl))
theorem cal_X12_move : Cal yX12_move cX12_move 7 (some .int) 2 := ⟨tb_at 120 (by decide +kernel) (by decide +kernel), tb_at 1635 (by decide +kernel) (by decide +kernel), by decide +kernel, by decide +kernel, by decide +kernel⟩
theorem cwi_X12_move : Cond.instanceMethod yX12_move ∈ tb := tb_at 1633 (by decide +kernel) (by decide +kernel)
theorem cws_X12_move : Cond.selects yX12_move.cls yX12_move yX12_move ∈ tb := tb_at 1634 (by decide +kernel) (by decide +kernel)

