theorem lo_step {f : Nat → Int32} {k r : Nat} (h : k < 16 ∧ k + (r + 1) = 16 ∧ ∃ j, k ≤ j ∧ j < 16 ∧ ¬ f j = 0) (e : f k = 0) : k + 1 < 16 ∧ k + 1 + r = 16 ∧ ∃ j, k + 1 ≤ j ∧ j < 16 ∧ ¬ upd f k (nI 65535) j = 0 := by
  obtain ⟨h1, h2, j, j1, j2, j3⟩ := h
  have : j ≠ k := fun q => j3 (by rw [q]; exact e)
  exact ⟨by omega, by omega, j, by omega, j2, by rw [pk_un this]; exact j3⟩
theorem mw_X12_lessOne_0 : Cond.constant "GuardedTreeModel" 342 65535 ∈ tb := tb_at 1223 (by decide +kernel) (by decide +kernel)
theorem dX12_lessOne_0 : decode cX12_lessOne 0 = .ok (.iconst 0, 1) := by decide +kernel
theorem dX12_lessOne_1 : decode cX12_lessOne 1 = .ok (.istore_n 1, 1) := by decide +kernel
theorem dX12_lessOne_2 : decode cX12_lessOne 2 = .ok (.aload_n 0, 1) := by decide +kernel
theorem dX12_lessOne_3 : decode cX12_lessOne 3 = .ok (.iload_n 1, 1) := by decide +kernel
theorem dX12_lessOne_4 : decode cX12_lessOne 4 = .ok (.iaload, 1) := by decide +kernel
theorem dX12_lessOne_5 : decode cX12_lessOne 5 = .ok (.ifCond .ne 15, 3) := by decide +kernel
theorem dX12_lessOne_8 : decode cX12_lessOne 8 = .ok (.aload_n 0, 1) := by decide +kernel
theorem dX12_lessOne_9 : decode cX12_lessOne 9 = .ok (.iload_n 1, 1) := by decide +kernel
theorem dX12_lessOne_10 : decode cX12_lessOne 10 = .ok (.ldc_w 342, 3) := by decide +kernel
theorem dX12_lessOne_13 : decode cX12_lessOne 13 = .ok (.iastore, 1) := by decide +kernel
theorem dX12_lessOne_14 : decode cX12_lessOne 14 = .ok (.iinc 1 1, 3) := by decide +kernel
theorem dX12_lessOne_17 : decode cX12_lessOne 17 = .ok (.goto (-15), 3) := by decide +kernel
theorem dX12_lessOne_20 : decode cX12_lessOne 20 = .ok (.aload_n 0, 1) := by decide +kernel
theorem dX12_lessOne_21 : decode cX12_lessOne 21 = .ok (.iload_n 1, 1) := by decide +kernel
theorem dX12_lessOne_22 : decode cX12_lessOne 22 = .ok (.dup2, 1) := by decide +kernel
theorem dX12_lessOne_23 : decode cX12_lessOne 23 = .ok (.iaload, 1) := by decide +kernel
theorem dX12_lessOne_24 : decode cX12_lessOne 24 = .ok (.iconst 1, 1) := by decide +kernel
theorem dX12_lessOne_25 : decode cX12_lessOne 25 = .ok (.isub, 1) := by decide +kernel
theorem dX12_lessOne_26 : decode cX12_lessOne 26 = .ok (.iastore, 1) := by decide +kernel
theorem dX12_lessOne_27 : decode cX12_lessOne 27 = .ok (.return_, 1) := by decide +kernel
noncomputable def X12_lessOne_l2  (k2_1 : Nat) (t2_1 : (Nat → Int32) × (Nat)) : ((Nat → Int32) × (Nat)) ⊕ ((Nat → Int32) × (Nat)) :=
  if (t2_1.1 t2_1.2) = 0 then
  (.inl ((upd t2_1.1 t2_1.2 (nI 65535), t2_1.2 + 1)))
  else
  (.inr ((t2_1.1, t2_1.2)))
noncomputable def f_X12_lessOne (f_p1 : Nat → Int32) : (Nat → Int32) :=
  let g2_2 := mrg (itx X12_lessOne_l2 16 0 ((f_p1, 0)))
  let y3 := (g2_2.1 g2_2.2) - (nI 1)
  upd g2_2.1 g2_2.2 y3
set_option maxHeartbeats 4000000 in
set_option maxRecDepth 100000 in
theorem c_X12_lessOne (l : Launch) (D : va_G) (ct : Nat → ClassId) (ts : Nat → Nat) (a_p1 : Nat) (f_p1 : Nat → Int32)  (hnz : ∃ j, j < 16 ∧ ¬ f_p1 j = 0)  (sz : Nat) : Met l yX12_lessOne (Cond.code yX12_lessOne cX12_lessOne 2 none :: tb) { frames := 0, cells := 0, slots := 0, locals := 0 } (PcG D ct SXL ts [.ref a_p1] [(a_p1, .inl (ct 0, 16, .inl f_p1))] sz) (va_Qv (fun u : (Nat → Int32) => u = f_X12_lessOne f_p1) (fun u => BG D ct (va_A [(a_p1, .inl (ct 0, 16, .inl f_p1))] sz) [(a_p1, .inl (ct 0, 16, .inl u))]) (va_A [(a_p1, .inl (ct 0, 16, .inl f_p1))] sz)) 0 0 (va_A [(a_p1, .inl (ct 0, 16, .inl f_p1))] sz) := by
  refine metJ (l := l) (y := yX12_lessOne) (cc := cX12_lessOne) (maxL := 2) (ret := none) (rm := { frames := 0, cells := 0, slots := 0, locals := 0 }) (D := D) (ct := ct) (L := SXL) (ts := ts) (av := [.ref a_p1]) (ws := [(a_p1, .inl (ct 0, 16, .inl f_p1))]) (sz := sz) (mc := 0) (ms := 0) (QcF := fun A => va_Qv (fun u : (Nat → Int32) => u = f_X12_lessOne f_p1) (fun u => BG D ct A [(a_p1, .inl (ct 0, 16, .inl u))]) A) (by decide) (Nat.le_of_ble_eq_true rfl) ?_
  intro p e s m below meth c A X hnm
  obtain ⟨Q, hQ⟩ : ∃ Q, Q = MQ below (va_Qv (fun u : (Nat → Int32) => u = f_X12_lessOne f_p1) (fun u => BG D ct A [(a_p1, .inl (ct 0, 16, .inl u))]) A) [.ref a_p1].toArray s 0 0 A := ⟨_, rfl⟩
  rw [← hQ]
  refine j_lve (lv' := [(0, .ref a_p1)]) rfl ?_
  refine j_iconst (v := nI 0) X dX12_lessOne_0 (by decide) (q := 1) rfl ?_
  refine j_istore_n (lv' := [(1, .int (nI 0)), (0, .ref a_p1)]) X dX12_lessOne_1 (by decide) rfl (q := 2) rfl ?_
  refine j_lv (lv' := [(0, .ref a_p1), (1, .int (nI 0))]) [1, 0] rfl ?_
  have KE2_1 : ∀ g2_2 : (Nat → Int32) × (Nat), g2_2 = mrg (itx X12_lessOne_l2 16 0 ((f_p1, 0))) → (g2_2.2 < 16) → J p l e { frames := 0, cells := 0, slots := 0, locals := 0 } s m [.ref a_p1].toArray below meth c D A 2 Q 0 0 [(a_p1, .inl (ct 0, 16, .inl g2_2.1))] [(0, .ref a_p1), (1, .int (nI g2_2.2))] [] 20 := by
    intro g2_2 e_g2_2 hx0_g2_2
    refine j_aload_n X 0 dX12_lessOne_20 rfl (q := 21) rfl ?_
    refine j_iload_n X 1 dX12_lessOne_21 rfl (q := 22) rfl ?_
    refine j_dup2 X dX12_lessOne_22 rfl rfl (q := 23) rfl ?_
    refine k_iald X 0 rfl (vp_in_nI (by omega) (by omega)) (nI_clamp (by omega)) dX12_lessOne_23 (q := 24) rfl ?_
    refine j_iconst (v := nI 1) X dX12_lessOne_24 (by decide) (q := 25) rfl ?_
    refine j_isub X dX12_lessOne_25 (q := 26) rfl ?_
    refine j_topi (fun y3 e_y3 => ?_)
    refine k_iast (ws2 := [(a_p1, .inl (ct 0, 16, .inl (upd g2_2.1 g2_2.2 y3)))]) X 0 rfl (vp_in_nI (by omega) (by omega)) (nI_clamp (by omega)) dX12_lessOne_26 rfl (q := 27) rfl ?_
    rw [hQ]
    exact j_vret X (upd g2_2.1 g2_2.2 y3) dX12_lessOne_27 (by subst e_g2_2; subst e_y3; rfl) rfl
  have LP2_1 : ∀ (r2_1 k2_1 : Nat) (t2_1 : (Nat → Int32) × (Nat)), itx X12_lessOne_l2 16 0 ((f_p1, 0)) = itx X12_lessOne_l2 r2_1 k2_1 t2_1 → (t2_1.2 < 16 ∧ t2_1.2 + r2_1 = 16 ∧ ∃ j, t2_1.2 ≤ j ∧ j < 16 ∧ ¬ t2_1.1 j = 0) → J p l e { frames := 0, cells := 0, slots := 0, locals := 0 } s m [.ref a_p1].toArray below meth c D A 2 Q 0 0 [(a_p1, .inl (ct 0, 16, .inl t2_1.1))] [(0, .ref a_p1), (1, .int (nI t2_1.2))] [] 2 := by
    intro r2_1
    induction r2_1 with
    | zero =>
      intro k2_1 t2_1 e_t2_1 hi0_t2_1
      exfalso; omega
    | succ r2_1 ih2_1 =>
      intro k2_1 t2_1 e_t2_1 hi0_t2_1
      refine j_aload_n X 0 dX12_lessOne_2 rfl (q := 3) rfl ?_
      refine j_iload_n X 1 dX12_lessOne_3 rfl (q := 4) rfl ?_
      refine k_iald X 0 rfl (vp_in_nI (by omega) (by omega)) (nI_clamp (by omega)) dX12_lessOne_4 (q := 5) rfl ?_
      refine j_if_ne (tgt := 20) X dX12_lessOne_5 (by decide) (q := 8) rfl (fun c4 => ?_) (fun c4 => ?_)
      · skip
        refine j_lv (lv' := [(0, .ref a_p1), (1, .int (nI t2_1.2))]) [0, 1] rfl ?_
        have hb5 : X12_lessOne_l2 k2_1 t2_1 = .inr ((t2_1.1, t2_1.2)) := (by first | rfl | (simp only [X12_lessOne_l2, if_neg c4]; done) | (simp only [X12_lessOne_l2, if_neg c4]; rfl))
        exact KE2_1 ((t2_1.1, t2_1.2)) (by rw [e_t2_1, itx_out hb5]; rfl) (show t2_1.2 < 16 from hi0_t2_1.1)
      · skip
        refine j_aload_n X 0 dX12_lessOne_8 rfl (q := 9) rfl ?_
        refine j_iload_n X 1 dX12_lessOne_9 rfl (q := 10) rfl ?_
        refine j_ldcw X mw_X12_lessOne_0 dX12_lessOne_10 (q := 13) rfl ?_
        refine j_eqi (show _ = nI 65535 from rfl) ?_
        refine k_iast (ws2 := [(a_p1, .inl (ct 0, 16, .inl (upd t2_1.1 t2_1.2 (nI 65535))))]) X 0 rfl (vp_in_nI (by omega) (by omega)) (nI_clamp (by omega)) dX12_lessOne_13 rfl (q := 14) rfl ?_
        refine j_iinc (v := nI (t2_1.2 + 1)) (lv' := [(1, .int (nI (t2_1.2 + 1))), (0, .ref a_p1)]) X 1 dX12_lessOne_14 rfl (nI_inc _ 1) (by decide) rfl (q := 17) rfl ?_
        refine j_goto (tgt := 2) X dX12_lessOne_17 (by decide) ?_
        refine j_lv (lv' := [(0, .ref a_p1), (1, .int (nI (t2_1.2 + 1)))]) [1, 0] rfl ?_
        have hb : X12_lessOne_l2 k2_1 t2_1 = .inl ((upd t2_1.1 t2_1.2 (nI 65535), t2_1.2 + 1)) := (by first | rfl | (simp only [X12_lessOne_l2, if_pos c4]; done) | (simp only [X12_lessOne_l2, if_pos c4]; rfl))
        exact ih2_1 (k2_1 + 1) ((upd t2_1.1 t2_1.2 (nI 65535), t2_1.2 + 1)) (e_t2_1.trans (itx_in hb)) (show (t2_1.2 + 1) < 16 ∧ (t2_1.2 + 1) + r2_1 = 16 ∧ ∃ j, (t2_1.2 + 1) ≤ j ∧ j < 16 ∧ ¬ (upd t2_1.1 t2_1.2 (nI 65535)) j = 0 from lo_step hi0_t2_1 (by assumption))
  exact LP2_1 16 0 ((f_p1, 0)) rfl (show 0 < 16 ∧ 0 + 16 = 16 ∧ ∃ j, 0 ≤ j ∧ j < 16 ∧ ¬ f_p1 j = 0 from by obtain ⟨j, h1, h2⟩ := hnz; exact ⟨by decide, by decide, j, Nat.zero_le _, h1, h2⟩)
theorem cal_X12_lessOne : Cal yX12_lessOne cX12_lessOne 2 none 1 := ⟨tb_at 120 (by decide +kernel) (by decide +kernel), tb_at 1234 (by decide +kernel) (by decide +kernel), by decide +kernel, by decide +kernel, by decide +kernel⟩
theorem cwt_X12_lessOne : Cond.static yX12_lessOne ∈ tb := tb_at 1233 (by decide +kernel) (by decide +kernel)

