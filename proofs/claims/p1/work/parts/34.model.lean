theorem mw_X12_figures_0 : Cond.constant "GuardedTreeModel" 342 65535 ∈ tb := tb_at 1223 (by decide +kernel) (by decide +kernel)
theorem dX12_figures_0 : decode cX12_figures 0 = .ok (.iconst 0, 1) := by decide +kernel
theorem dX12_figures_1 : decode cX12_figures 1 = .ok (.istore_n 3, 1) := by decide +kernel
theorem dX12_figures_2 : decode cX12_figures 2 = .ok (.iload_n 3, 1) := by decide +kernel
theorem dX12_figures_3 : decode cX12_figures 3 = .ok (.bipush 16, 2) := by decide +kernel
theorem dX12_figures_5 : decode cX12_figures 5 = .ok (.if_icmp .ge 44, 3) := by decide +kernel
theorem dX12_figures_8 : decode cX12_figures 8 = .ok (.aload_n 0, 1) := by decide +kernel
theorem dX12_figures_9 : decode cX12_figures 9 = .ok (.iload_n 1, 1) := by decide +kernel
theorem dX12_figures_10 : decode cX12_figures 10 = .ok (.bipush 7, 2) := by decide +kernel
theorem dX12_figures_12 : decode cX12_figures 12 = .ok (.iadd, 1) := by decide +kernel
theorem dX12_figures_13 : decode cX12_figures 13 = .ok (.iload_n 3, 1) := by decide +kernel
theorem dX12_figures_14 : decode cX12_figures 14 = .ok (.iconst 2, 1) := by decide +kernel
theorem dX12_figures_15 : decode cX12_figures 15 = .ok (.idiv, 1) := by decide +kernel
theorem dX12_figures_16 : decode cX12_figures 16 = .ok (.isub, 1) := by decide +kernel
theorem dX12_figures_17 : decode cX12_figures 17 = .ok (.iaload, 1) := by decide +kernel
theorem dX12_figures_18 : decode cX12_figures 18 = .ok (.istore 4, 2) := by decide +kernel
theorem dX12_figures_20 : decode cX12_figures 20 = .ok (.aload_n 2, 1) := by decide +kernel
theorem dX12_figures_21 : decode cX12_figures 21 = .ok (.iload_n 3, 1) := by decide +kernel
theorem dX12_figures_22 : decode cX12_figures 22 = .ok (.iload_n 3, 1) := by decide +kernel
theorem dX12_figures_23 : decode cX12_figures 23 = .ok (.iconst 2, 1) := by decide +kernel
theorem dX12_figures_24 : decode cX12_figures 24 = .ok (.irem, 1) := by decide +kernel
theorem dX12_figures_25 : decode cX12_figures 25 = .ok (.ifCond .ne 12, 3) := by decide +kernel
theorem dX12_figures_28 : decode cX12_figures 28 = .ok (.iload 4, 2) := by decide +kernel
theorem dX12_figures_30 : decode cX12_figures 30 = .ok (.ldc_w 342, 3) := by decide +kernel
theorem dX12_figures_33 : decode cX12_figures 33 = .ok (.iand, 1) := by decide +kernel
theorem dX12_figures_34 : decode cX12_figures 34 = .ok (.goto 8, 3) := by decide +kernel
theorem dX12_figures_37 : decode cX12_figures 37 = .ok (.iload 4, 2) := by decide +kernel
theorem dX12_figures_39 : decode cX12_figures 39 = .ok (.bipush 16, 2) := by decide +kernel
theorem dX12_figures_41 : decode cX12_figures 41 = .ok (.iushr, 1) := by decide +kernel
theorem dX12_figures_42 : decode cX12_figures 42 = .ok (.iastore, 1) := by decide +kernel
theorem dX12_figures_43 : decode cX12_figures 43 = .ok (.iinc 3 1, 3) := by decide +kernel
theorem dX12_figures_46 : decode cX12_figures 46 = .ok (.goto (-44), 3) := by decide +kernel
theorem dX12_figures_49 : decode cX12_figures 49 = .ok (.return_, 1) := by decide +kernel
noncomputable def X12_figures_m25 (y4 : Int32) (k2_1 : Nat) : (Int32) :=
  if k2_1 % 2 = 0 then
  (y4 &&& (nI 65535))
  else
  (ur32 y4 16)
noncomputable def X12_figures_l2 (x2 : Nat) (f_p1 : Nat → Int32) (k2_1 : Nat) (t2_1 : (Nat → Int32)) : (Nat → Int32) :=
  let y4 := f_p1 ((x2 + 7) - (k2_1 / 2))
  let g25_5 := X12_figures_m25 y4 k2_1
  upd t2_1 k2_1 g25_5
noncomputable def f_X12_figures (f_p1 : Nat → Int32) (f_p3 : Nat → Int32) (x2 : Nat) : (Nat → Int32) :=
  let t2_1 := itr (X12_figures_l2 x2 f_p1) f_p3 16
  t2_1
set_option maxHeartbeats 4000000 in
set_option maxRecDepth 100000 in
theorem c_X12_figures (l : Launch) (D : va_G) (ct : Nat → ClassId) (ts : Nat → Nat) (a_p1 a_p3 : Nat) (f_p1 : Nat → Int32) (f_p3 : Nat → Int32) (x2 : Nat)  (h_at : x2 + 8 ≤ 8)  (sz : Nat) : Met l yX12_figures (Cond.code yX12_figures cX12_figures 5 none :: tb) { frames := 0, cells := 0, slots := 0, locals := 0 } (PcG D ct SXL ts [.ref a_p1, .int (nI x2), .ref a_p3] [(a_p1, .inl (ct 0, 8, .inl f_p1)), (a_p3, .inl (ct 0, 16, .inl f_p3))] sz) (va_Qv (fun u : (Nat → Int32) => u = f_X12_figures f_p1 f_p3 x2) (fun u => BG D ct (va_A [(a_p1, .inl (ct 0, 8, .inl f_p1)), (a_p3, .inl (ct 0, 16, .inl f_p3))] sz) [(a_p1, .inl (ct 0, 8, .inl f_p1)), (a_p3, .inl (ct 0, 16, .inl u))]) (va_A [(a_p1, .inl (ct 0, 8, .inl f_p1)), (a_p3, .inl (ct 0, 16, .inl f_p3))] sz)) 0 0 (va_A [(a_p1, .inl (ct 0, 8, .inl f_p1)), (a_p3, .inl (ct 0, 16, .inl f_p3))] sz) := by
  refine metJ (QcF := fun A => va_Qv (fun u : (Nat → Int32) => u = f_X12_figures f_p1 f_p3 x2) (fun u => BG D ct A [(a_p1, .inl (ct 0, 8, .inl f_p1)), (a_p3, .inl (ct 0, 16, .inl u))]) A) (by decide) (Nat.le_of_ble_eq_true rfl) ?_
  intro p e s m below meth c A X hnm
  obtain ⟨Q, hQ⟩ : ∃ Q, Q = MQ below (va_Qv (fun u : (Nat → Int32) => u = f_X12_figures f_p1 f_p3 x2) (fun u => BG D ct A [(a_p1, .inl (ct 0, 8, .inl f_p1)), (a_p3, .inl (ct 0, 16, .inl u))]) A) [.ref a_p1, .int (nI x2), .ref a_p3].toArray s 0 0 A := ⟨_, rfl⟩
  rw [← hQ]
  refine j_lve (lv' := [(0, .ref a_p1), (1, .int (nI x2)), (2, .ref a_p3)]) rfl ?_
  refine j_iconst (v := nI 0) X dX12_figures_0 (by decide) (q := 1) rfl ?_
  refine j_istore_n (lv' := [(3, .int (nI 0)), (0, .ref a_p1), (1, .int (nI x2)), (2, .ref a_p3)]) X dX12_figures_1 (by decide) rfl (q := 2) rfl ?_
  refine j_lv (lv' := [(0, .ref a_p1), (1, .int (nI x2)), (2, .ref a_p3), (3, .int (nI 0))]) [1, 2, 3, 0] rfl ?_
  have LP2_1 : ∀ (r2_1 k2_1 : Nat) (t2_1 : (Nat → Int32)), k2_1 + r2_1 = 16 → t2_1 = itr (X12_figures_l2 x2 f_p1) f_p3 k2_1 → J p l e { frames := 0, cells := 0, slots := 0, locals := 0 } s m [.ref a_p1, .int (nI x2), .ref a_p3].toArray below meth c D A 5 Q 0 0 [(a_p1, .inl (ct 0, 8, .inl f_p1)), (a_p3, .inl (ct 0, 16, .inl t2_1))] [(0, .ref a_p1), (1, .int (nI x2)), (2, .ref a_p3), (3, .int (nI k2_1))] [] 2 := by
    intro r2_1
    induction r2_1 with
    | zero =>
      intro k2_1 t2_1 hk_t2_1 e_t2_1 
      have hkk_t2_1 : 16 = k2_1 := by omega
      subst hkk_t2_1
      refine j_iload_n X 3 dX12_figures_2 rfl (q := 3) rfl ?_
      refine j_bipush (v := nI 16) X dX12_figures_3 (by decide) (q := 5) rfl ?_
      refine j_icmp_ge (tgt := 49) X dX12_figures_5 (by decide) (q := 8) rfl (fun c2 => ?_) (fun c2 => ?_)
      · skip
        have c2 : 16 ≤ 16 := (nI_leI (a := 16) (b := 16) (by omega) (by omega)).mp c2
        rw [hQ]
        exact j_vret X t2_1 dX12_figures_49 (by subst e_t2_1; rfl) rfl
      · skip
        have c2 : ¬ 16 ≤ 16 := fun h => c2 ((nI_leI (a := 16) (b := 16) (by omega) (by omega)).mpr h)
        exfalso; omega
    | succ r2_1 ih2_1 =>
      intro k2_1 t2_1 hk_t2_1 e_t2_1 
      refine j_iload_n X 3 dX12_figures_2 rfl (q := 3) rfl ?_
      refine j_bipush (v := nI 16) X dX12_figures_3 (by decide) (q := 5) rfl ?_
      refine j_icmp_ge (tgt := 49) X dX12_figures_5 (by decide) (q := 8) rfl (fun c3 => ?_) (fun c3 => ?_)
      · skip
        have c3 : 16 ≤ k2_1 := (nI_leI (a := 16) (b := k2_1) (by omega) (by omega)).mp c3
        exfalso; omega
      · skip
        have c3 : ¬ 16 ≤ k2_1 := fun h => c3 ((nI_leI (a := 16) (b := k2_1) (by omega) (by omega)).mpr h)
        refine j_aload_n X 0 dX12_figures_8 rfl (q := 9) rfl ?_
        refine j_iload_n X 1 dX12_figures_9 rfl (q := 10) rfl ?_
        refine j_bipush (v := nI 7) X dX12_figures_10 (by decide) (q := 12) rfl ?_
        refine j_iadd X dX12_figures_12 (q := 13) rfl ?_
        refine j_eqi (nI_add _ _) ?_
        refine j_iload_n X 3 dX12_figures_13 rfl (q := 14) rfl ?_
        refine j_iconst (v := nI 2) X dX12_figures_14 (by decide) (q := 15) rfl ?_
        refine j_idiv X dX12_figures_15 (by decide) (q := 16) rfl ?_
        refine j_eqi (pk_div (by omega) (by omega) (by omega)) ?_
        refine j_isub X dX12_figures_16 (q := 17) rfl ?_
        refine j_eqi (pk_sub (by omega)) ?_
        refine k_iald X 0 rfl (vp_in_nI (by omega) (by omega)) (nI_clamp (by omega)) dX12_figures_17 (q := 18) rfl ?_
        refine j_topi (fun y4 e_y4 => ?_)
        refine j_istore (lv' := [(4, .int y4), (0, .ref a_p1), (1, .int (nI x2)), (2, .ref a_p3), (3, .int (nI k2_1))]) X dX12_figures_18 (by decide) rfl (q := 20) rfl ?_
        refine j_aload_n X 3 dX12_figures_20 rfl (q := 21) rfl ?_
        refine j_iload_n X 4 dX12_figures_21 rfl (q := 22) rfl ?_
        refine j_iload_n X 4 dX12_figures_22 rfl (q := 23) rfl ?_
        refine j_iconst (v := nI 2) X dX12_figures_23 (by decide) (q := 24) rfl ?_
        refine j_irem X dX12_figures_24 (by decide) (q := 25) rfl ?_
        refine j_eqi (pk_rem (by omega) (by omega) (by omega)) ?_
        have KJ25_5 : ∀ g25_5 : (Int32), g25_5 = X12_figures_m25 y4 k2_1 → J p l e { frames := 0, cells := 0, slots := 0, locals := 0 } s m [.ref a_p1, .int (nI x2), .ref a_p3].toArray below meth c D A 5 Q 0 0 [(a_p1, .inl (ct 0, 8, .inl f_p1)), (a_p3, .inl (ct 0, 16, .inl t2_1))] [(0, .ref a_p1), (1, .int (nI x2)), (2, .ref a_p3), (3, .int (nI k2_1)), (4, .int y4)] [.int g25_5, .int (nI k2_1), .ref a_p3] 42 := by
          intro g25_5 e_g25_5
          refine k_iast (ws2 := [(a_p1, .inl (ct 0, 8, .inl f_p1)), (a_p3, .inl (ct 0, 16, .inl (upd t2_1 k2_1 g25_5)))]) X 1 rfl (vp_in_nI (by omega) (by omega)) (nI_clamp (by omega)) dX12_figures_42 rfl (q := 43) rfl ?_
          refine j_iinc (v := nI (k2_1 + 1)) (lv' := [(3, .int (nI (k2_1 + 1))), (0, .ref a_p1), (1, .int (nI x2)), (2, .ref a_p3), (4, .int y4)]) X 3 dX12_figures_43 rfl (nI_inc _ 1) (by decide) rfl (q := 46) rfl ?_
          refine j_goto (tgt := 2) X dX12_figures_46 (by decide) ?_
          refine j_lv (lv' := [(0, .ref a_p1), (1, .int (nI x2)), (2, .ref a_p3), (3, .int (nI (k2_1 + 1)))]) [1, 2, 3, 0] rfl ?_
          have hb : (X12_figures_l2 x2 f_p1) k2_1 t2_1 = upd t2_1 k2_1 g25_5 := (by subst e_y4; subst e_g25_5; rfl)
          exact ih2_1 (k2_1 + 1) (upd t2_1 k2_1 g25_5) (by omega) (by rw [itr_s, ← e_t2_1]; exact hb.symm) 
        refine j_if_ne (tgt := 37) X dX12_figures_25 (by decide) (q := 28) rfl (fun c6 => ?_) (fun c6 => ?_)
        · skip
          have c6 : ¬ k2_1 % 2 = 0 := fun h => c6 (by rw [h]; rfl)
          refine j_iload X 0 dX12_figures_37 rfl (q := 39) rfl ?_
          refine j_bipush (v := nI 16) X dX12_figures_39 (by decide) (q := 41) rfl ?_
          refine j_iushr X dX12_figures_41 (q := 42) rfl ?_
          refine j_eqi (show _ = ur32 y4 16 from rfl) ?_
          refine j_lv (lv' := [(0, .ref a_p1), (1, .int (nI x2)), (2, .ref a_p3), (3, .int (nI k2_1)), (4, .int y4)]) [1, 2, 3, 4, 0] rfl ?_
          exact KJ25_5 (ur32 y4 16) (by first | rfl | (simp only [X12_figures_m25, if_neg c6]; done) | (simp only [X12_figures_m25, if_neg c6]; rfl))
        · skip
          have c6 : k2_1 % 2 = 0 := (nI_eq (a := k2_1 % 2) (b := 0) (by omega) (by omega)).mp c6
          refine j_iload X 0 dX12_figures_28 rfl (q := 30) rfl ?_
          refine j_ldcw X mw_X12_figures_0 dX12_figures_30 (q := 33) rfl ?_
          refine j_eqi (show _ = nI 65535 from rfl) ?_
          refine j_iand X dX12_figures_33 (q := 34) rfl ?_
          refine j_goto (tgt := 42) X dX12_figures_34 (by decide) ?_
          refine j_lv (lv' := [(0, .ref a_p1), (1, .int (nI x2)), (2, .ref a_p3), (3, .int (nI k2_1)), (4, .int y4)]) [1, 2, 3, 4, 0] rfl ?_
          exact KJ25_5 (y4 &&& (nI 65535)) (by first | rfl | (simp only [X12_figures_m25, if_pos c6]; done) | (simp only [X12_figures_m25, if_pos c6]; rfl))
  exact LP2_1 16 0 f_p3 (by omega) (itr_0 _ _).symm 
theorem cal_X12_figures : Cal yX12_figures cX12_figures 5 none 3 := ⟨tb_at 120 (by decide +kernel) (by decide +kernel), tb_at 1222 (by decide +kernel) (by decide +kernel), by decide +kernel, by decide +kernel, by decide +kernel⟩
theorem cwt_X12_figures : Cond.static yX12_figures ∈ tb := tb_at 1221 (by decide +kernel) (by decide +kernel)
theorem mw_X12_figures_16_0 : Cond.constant "GuardedTreeModel" 342 65535 ∈ tb := tb_at 1223 (by decide +kernel) (by decide +kernel)
set_option maxHeartbeats 4000000 in
set_option maxRecDepth 100000 in
theorem c_X12_figures_16 (l : Launch) (D : va_G) (ct : Nat → ClassId) (ts : Nat → Nat) (a_p1 a_p3 : Nat) (f_p1 : Nat → Int32) (f_p3 : Nat → Int32) (x2 : Nat)  (h_at : x2 + 8 ≤ 16)  (sz : Nat) : Met l yX12_figures (Cond.code yX12_figures cX12_figures 5 none :: tb) { frames := 0, cells := 0, slots := 0, locals := 0 } (PcG D ct SXL ts [.ref a_p1, .int (nI x2), .ref a_p3] [(a_p1, .inl (ct 0, 16, .inl f_p1)), (a_p3, .inl (ct 0, 16, .inl f_p3))] sz) (va_Qv (fun u : (Nat → Int32) => u = f_X12_figures f_p1 f_p3 x2) (fun u => BG D ct (va_A [(a_p1, .inl (ct 0, 16, .inl f_p1)), (a_p3, .inl (ct 0, 16, .inl f_p3))] sz) [(a_p1, .inl (ct 0, 16, .inl f_p1)), (a_p3, .inl (ct 0, 16, .inl u))]) (va_A [(a_p1, .inl (ct 0, 16, .inl f_p1)), (a_p3, .inl (ct 0, 16, .inl f_p3))] sz)) 0 0 (va_A [(a_p1, .inl (ct 0, 16, .inl f_p1)), (a_p3, .inl (ct 0, 16, .inl f_p3))] sz) := by
  refine metJ (QcF := fun A => va_Qv (fun u : (Nat → Int32) => u = f_X12_figures f_p1 f_p3 x2) (fun u => BG D ct A [(a_p1, .inl (ct 0, 16, .inl f_p1)), (a_p3, .inl (ct 0, 16, .inl u))]) A) (by decide) (Nat.le_of_ble_eq_true rfl) ?_
  intro p e s m below meth c A X hnm
  obtain ⟨Q, hQ⟩ : ∃ Q, Q = MQ below (va_Qv (fun u : (Nat → Int32) => u = f_X12_figures f_p1 f_p3 x2) (fun u => BG D ct A [(a_p1, .inl (ct 0, 16, .inl f_p1)), (a_p3, .inl (ct 0, 16, .inl u))]) A) [.ref a_p1, .int (nI x2), .ref a_p3].toArray s 0 0 A := ⟨_, rfl⟩
  rw [← hQ]
  refine j_lve (lv' := [(0, .ref a_p1), (1, .int (nI x2)), (2, .ref a_p3)]) rfl ?_
  refine j_iconst (v := nI 0) X dX12_figures_0 (by decide) (q := 1) rfl ?_
  refine j_istore_n (lv' := [(3, .int (nI 0)), (0, .ref a_p1), (1, .int (nI x2)), (2, .ref a_p3)]) X dX12_figures_1 (by decide) rfl (q := 2) rfl ?_
  refine j_lv (lv' := [(0, .ref a_p1), (1, .int (nI x2)), (2, .ref a_p3), (3, .int (nI 0))]) [1, 2, 3, 0] rfl ?_
  have LP2_1 : ∀ (r2_1 k2_1 : Nat) (t2_1 : (Nat → Int32)), k2_1 + r2_1 = 16 → t2_1 = itr (X12_figures_l2 x2 f_p1) f_p3 k2_1 → J p l e { frames := 0, cells := 0, slots := 0, locals := 0 } s m [.ref a_p1, .int (nI x2), .ref a_p3].toArray below meth c D A 5 Q 0 0 [(a_p1, .inl (ct 0, 16, .inl f_p1)), (a_p3, .inl (ct 0, 16, .inl t2_1))] [(0, .ref a_p1), (1, .int (nI x2)), (2, .ref a_p3), (3, .int (nI k2_1))] [] 2 := by
    intro r2_1
    induction r2_1 with
    | zero =>
      intro k2_1 t2_1 hk_t2_1 e_t2_1 
      have hkk_t2_1 : 16 = k2_1 := by omega
      subst hkk_t2_1
      refine j_iload_n X 3 dX12_figures_2 rfl (q := 3) rfl ?_
      refine j_bipush (v := nI 16) X dX12_figures_3 (by decide) (q := 5) rfl ?_
      refine j_icmp_ge (tgt := 49) X dX12_figures_5 (by decide) (q := 8) rfl (fun c2 => ?_) (fun c2 => ?_)
      · skip
        have c2 : 16 ≤ 16 := (nI_leI (a := 16) (b := 16) (by omega) (by omega)).mp c2
        rw [hQ]
        exact j_vret X t2_1 dX12_figures_49 (by subst e_t2_1; rfl) rfl
      · skip
        have c2 : ¬ 16 ≤ 16 := fun h => c2 ((nI_leI (a := 16) (b := 16) (by omega) (by omega)).mpr h)
        exfalso; omega
    | succ r2_1 ih2_1 =>
      intro k2_1 t2_1 hk_t2_1 e_t2_1 
      refine j_iload_n X 3 dX12_figures_2 rfl (q := 3) rfl ?_
      refine j_bipush (v := nI 16) X dX12_figures_3 (by decide) (q := 5) rfl ?_
      refine j_icmp_ge (tgt := 49) X dX12_figures_5 (by decide) (q := 8) rfl (fun c3 => ?_) (fun c3 => ?_)
      · skip
        have c3 : 16 ≤ k2_1 := (nI_leI (a := 16) (b := k2_1) (by omega) (by omega)).mp c3
        exfalso; omega
      · skip
        have c3 : ¬ 16 ≤ k2_1 := fun h => c3 ((nI_leI (a := 16) (b := k2_1) (by omega) (by omega)).mpr h)
        refine j_aload_n X 0 dX12_figures_8 rfl (q := 9) rfl ?_
        refine j_iload_n X 1 dX12_figures_9 rfl (q := 10) rfl ?_
        refine j_bipush (v := nI 7) X dX12_figures_10 (by decide) (q := 12) rfl ?_
        refine j_iadd X dX12_figures_12 (q := 13) rfl ?_
        refine j_eqi (nI_add _ _) ?_
        refine j_iload_n X 3 dX12_figures_13 rfl (q := 14) rfl ?_
        refine j_iconst (v := nI 2) X dX12_figures_14 (by decide) (q := 15) rfl ?_
        refine j_idiv X dX12_figures_15 (by decide) (q := 16) rfl ?_
        refine j_eqi (pk_div (by omega) (by omega) (by omega)) ?_
        refine j_isub X dX12_figures_16 (q := 17) rfl ?_
        refine j_eqi (pk_sub (by omega)) ?_
        refine k_iald X 0 rfl (vp_in_nI (by omega) (by omega)) (nI_clamp (by omega)) dX12_figures_17 (q := 18) rfl ?_
        refine j_topi (fun y4 e_y4 => ?_)
        refine j_istore (lv' := [(4, .int y4), (0, .ref a_p1), (1, .int (nI x2)), (2, .ref a_p3), (3, .int (nI k2_1))]) X dX12_figures_18 (by decide) rfl (q := 20) rfl ?_
        refine j_aload_n X 3 dX12_figures_20 rfl (q := 21) rfl ?_
        refine j_iload_n X 4 dX12_figures_21 rfl (q := 22) rfl ?_
        refine j_iload_n X 4 dX12_figures_22 rfl (q := 23) rfl ?_
        refine j_iconst (v := nI 2) X dX12_figures_23 (by decide) (q := 24) rfl ?_
        refine j_irem X dX12_figures_24 (by decide) (q := 25) rfl ?_
        refine j_eqi (pk_rem (by omega) (by omega) (by omega)) ?_
        have KJ25_5 : ∀ g25_5 : (Int32), g25_5 = X12_figures_m25 y4 k2_1 → J p l e { frames := 0, cells := 0, slots := 0, locals := 0 } s m [.ref a_p1, .int (nI x2), .ref a_p3].toArray below meth c D A 5 Q 0 0 [(a_p1, .inl (ct 0, 16, .inl f_p1)), (a_p3, .inl (ct 0, 16, .inl t2_1))] [(0, .ref a_p1), (1, .int (nI x2)), (2, .ref a_p3), (3, .int (nI k2_1)), (4, .int y4)] [.int g25_5, .int (nI k2_1), .ref a_p3] 42 := by
          intro g25_5 e_g25_5
          refine k_iast (ws2 := [(a_p1, .inl (ct 0, 16, .inl f_p1)), (a_p3, .inl (ct 0, 16, .inl (upd t2_1 k2_1 g25_5)))]) X 1 rfl (vp_in_nI (by omega) (by omega)) (nI_clamp (by omega)) dX12_figures_42 rfl (q := 43) rfl ?_
          refine j_iinc (v := nI (k2_1 + 1)) (lv' := [(3, .int (nI (k2_1 + 1))), (0, .ref a_p1), (1, .int (nI x2)), (2, .ref a_p3), (4, .int y4)]) X 3 dX12_figures_43 rfl (nI_inc _ 1) (by decide) rfl (q := 46) rfl ?_
          refine j_goto (tgt := 2) X dX12_figures_46 (by decide) ?_
          refine j_lv (lv' := [(0, .ref a_p1), (1, .int (nI x2)), (2, .ref a_p3), (3, .int (nI (k2_1 + 1)))]) [1, 2, 3, 0] rfl ?_
          have hb : (X12_figures_l2 x2 f_p1) k2_1 t2_1 = upd t2_1 k2_1 g25_5 := (by subst e_y4; subst e_g25_5; rfl)
          exact ih2_1 (k2_1 + 1) (upd t2_1 k2_1 g25_5) (by omega) (by rw [itr_s, ← e_t2_1]; exact hb.symm) 
        refine j_if_ne (tgt := 37) X dX12_figures_25 (by decide) (q := 28) rfl (fun c6 => ?_) (fun c6 => ?_)
        · skip
          have c6 : ¬ k2_1 % 2 = 0 := fun h => c6 (by rw [h]; rfl)
          refine j_iload X 0 dX12_figures_37 rfl (q := 39) rfl ?_
          refine j_bipush (v := nI 16) X dX12_figures_39 (by decide) (q := 41) rfl ?_
          refine j_iushr X dX12_figures_41 (q := 42) rfl ?_
          refine j_eqi (show _ = ur32 y4 16 from rfl) ?_
          refine j_lv (lv' := [(0, .ref a_p1), (1, .int (nI x2)), (2, .ref a_p3), (3, .int (nI k2_1)), (4, .int y4)]) [1, 2, 3, 4, 0] rfl ?_
          exact KJ25_5 (ur32 y4 16) (by first | rfl | (simp only [X12_figures_m25, if_neg c6]; done) | (simp only [X12_figures_m25, if_neg c6]; rfl))
        · skip
          have c6 : k2_1 % 2 = 0 := (nI_eq (a := k2_1 % 2) (b := 0) (by omega) (by omega)).mp c6
          refine j_iload X 0 dX12_figures_28 rfl (q := 30) rfl ?_
          refine j_ldcw X mw_X12_figures_16_0 dX12_figures_30 (q := 33) rfl ?_
          refine j_eqi (show _ = nI 65535 from rfl) ?_
          refine j_iand X dX12_figures_33 (q := 34) rfl ?_
          refine j_goto (tgt := 42) X dX12_figures_34 (by decide) ?_
          refine j_lv (lv' := [(0, .ref a_p1), (1, .int (nI x2)), (2, .ref a_p3), (3, .int (nI k2_1)), (4, .int y4)]) [1, 2, 3, 4, 0] rfl ?_
          exact KJ25_5 (y4 &&& (nI 65535)) (by first | rfl | (simp only [X12_figures_m25, if_pos c6]; done) | (simp only [X12_figures_m25, if_pos c6]; rfl))
  exact LP2_1 16 0 f_p3 (by omega) (itr_0 _ _).symm 
theorem dX12_toWords_0 : decode cX12_toWords 0 = .ok (.iconst 0, 1) := by decide +kernel
theorem dX12_toWords_1 : decode cX12_toWords 1 = .ok (.istore_n 3, 1) := by decide +kernel
theorem dX12_toWords_2 : decode cX12_toWords 2 = .ok (.iload_n 3, 1) := by decide +kernel
theorem dX12_toWords_3 : decode cX12_toWords 3 = .ok (.bipush 8, 2) := by decide +kernel
theorem dX12_toWords_5 : decode cX12_toWords 5 = .ok (.if_icmp .ge 34, 3) := by decide +kernel
theorem dX12_toWords_8 : decode cX12_toWords 8 = .ok (.aload_n 1, 1) := by decide +kernel
theorem dX12_toWords_9 : decode cX12_toWords 9 = .ok (.iload_n 2, 1) := by decide +kernel
theorem dX12_toWords_10 : decode cX12_toWords 10 = .ok (.iload_n 3, 1) := by decide +kernel
theorem dX12_toWords_11 : decode cX12_toWords 11 = .ok (.iadd, 1) := by decide +kernel
theorem dX12_toWords_12 : decode cX12_toWords 12 = .ok (.aload_n 0, 1) := by decide +kernel
theorem dX12_toWords_13 : decode cX12_toWords 13 = .ok (.bipush 15, 2) := by decide +kernel
theorem dX12_toWords_15 : decode cX12_toWords 15 = .ok (.iconst 2, 1) := by decide +kernel
theorem dX12_toWords_16 : decode cX12_toWords 16 = .ok (.iload_n 3, 1) := by decide +kernel
theorem dX12_toWords_17 : decode cX12_toWords 17 = .ok (.imul, 1) := by decide +kernel
theorem dX12_toWords_18 : decode cX12_toWords 18 = .ok (.isub, 1) := by decide +kernel
theorem dX12_toWords_19 : decode cX12_toWords 19 = .ok (.iaload, 1) := by decide +kernel
theorem dX12_toWords_20 : decode cX12_toWords 20 = .ok (.bipush 16, 2) := by decide +kernel
theorem dX12_toWords_22 : decode cX12_toWords 22 = .ok (.ishl, 1) := by decide +kernel
theorem dX12_toWords_23 : decode cX12_toWords 23 = .ok (.aload_n 0, 1) := by decide +kernel
theorem dX12_toWords_24 : decode cX12_toWords 24 = .ok (.bipush 14, 2) := by decide +kernel
theorem dX12_toWords_26 : decode cX12_toWords 26 = .ok (.iconst 2, 1) := by decide +kernel
theorem dX12_toWords_27 : decode cX12_toWords 27 = .ok (.iload_n 3, 1) := by decide +kernel
theorem dX12_toWords_28 : decode cX12_toWords 28 = .ok (.imul, 1) := by decide +kernel
theorem dX12_toWords_29 : decode cX12_toWords 29 = .ok (.isub, 1) := by decide +kernel
theorem dX12_toWords_30 : decode cX12_toWords 30 = .ok (.iaload, 1) := by decide +kernel
theorem dX12_toWords_31 : decode cX12_toWords 31 = .ok (.ior, 1) := by decide +kernel
theorem dX12_toWords_32 : decode cX12_toWords 32 = .ok (.iastore, 1) := by decide +kernel
theorem dX12_toWords_33 : decode cX12_toWords 33 = .ok (.iinc 3 1, 3) := by decide +kernel
theorem dX12_toWords_36 : decode cX12_toWords 36 = .ok (.goto (-34), 3) := by decide +kernel
theorem dX12_toWords_39 : decode cX12_toWords 39 = .ok (.return_, 1) := by decide +kernel
noncomputable def X12_toWords_l2 (x3 : Nat) (f_p1 : Nat → Int32) (k2_1 : Nat) (t2_1 : (Nat → Int32)) : (Nat → Int32) :=
  let y4 := (sh32 (f_p1 (15 - (2 * k2_1))) 16) ||| (f_p1 (14 - (2 * k2_1)))
  upd t2_1 (x3 + k2_1) y4
noncomputable def f_X12_toWords (f_p1 : Nat → Int32) (f_p2 : Nat → Int32) (x3 : Nat) : (Nat → Int32) :=
  let t2_1 := itr (X12_toWords_l2 x3 f_p1) f_p2 8
  t2_1
set_option maxHeartbeats 4000000 in
set_option maxRecDepth 100000 in
theorem c_X12_toWords (l : Launch) (D : va_G) (ct : Nat → ClassId) (ts : Nat → Nat) (a_p1 a_p2 : Nat) (f_p1 : Nat → Int32) (f_p2 : Nat → Int32) (x3 : Nat)  (h_at : x3 + 8 ≤ 8)  (sz : Nat) : Met l yX12_toWords (Cond.code yX12_toWords cX12_toWords 4 none :: tb) { frames := 0, cells := 0, slots := 0, locals := 0 } (PcG D ct SXL ts [.ref a_p1, .ref a_p2, .int (nI x3)] [(a_p1, .inl (ct 0, 16, .inl f_p1)), (a_p2, .inl (ct 0, 8, .inl f_p2))] sz) (va_Qv (fun u : (Nat → Int32) => u = f_X12_toWords f_p1 f_p2 x3) (fun u => BG D ct (va_A [(a_p1, .inl (ct 0, 16, .inl f_p1)), (a_p2, .inl (ct 0, 8, .inl f_p2))] sz) [(a_p1, .inl (ct 0, 16, .inl f_p1)), (a_p2, .inl (ct 0, 8, .inl u))]) (va_A [(a_p1, .inl (ct 0, 16, .inl f_p1)), (a_p2, .inl (ct 0, 8, .inl f_p2))] sz)) 0 0 (va_A [(a_p1, .inl (ct 0, 16, .inl f_p1)), (a_p2, .inl (ct 0, 8, .inl f_p2))] sz) := by
  refine metJ (QcF := fun A => va_Qv (fun u : (Nat → Int32) => u = f_X12_toWords f_p1 f_p2 x3) (fun u => BG D ct A [(a_p1, .inl (ct 0, 16, .inl f_p1)), (a_p2, .inl (ct 0, 8, .inl u))]) A) (by decide) (Nat.le_of_ble_eq_true rfl) ?_
  intro p e s m below meth c A X hnm
  obtain ⟨Q, hQ⟩ : ∃ Q, Q = MQ below (va_Qv (fun u : (Nat → Int32) => u = f_X12_toWords f_p1 f_p2 x3) (fun u => BG D ct A [(a_p1, .inl (ct 0, 16, .inl f_p1)), (a_p2, .inl (ct 0, 8, .inl u))]) A) [.ref a_p1, .ref a_p2, .int (nI x3)].toArray s 0 0 A := ⟨_, rfl⟩
  rw [← hQ]
  refine j_lve (lv' := [(0, .ref a_p1), (1, .ref a_p2), (2, .int (nI x3))]) rfl ?_
  refine j_iconst (v := nI 0) X dX12_toWords_0 (by decide) (q := 1) rfl ?_
  refine j_istore_n (lv' := [(3, .int (nI 0)), (0, .ref a_p1), (1, .ref a_p2), (2, .int (nI x3))]) X dX12_toWords_1 (by decide) rfl (q := 2) rfl ?_
  refine j_lv (lv' := [(0, .ref a_p1), (1, .ref a_p2), (2, .int (nI x3)), (3, .int (nI 0))]) [1, 2, 3, 0] rfl ?_
  have LP2_1 : ∀ (r2_1 k2_1 : Nat) (t2_1 : (Nat → Int32)), k2_1 + r2_1 = 8 → t2_1 = itr (X12_toWords_l2 x3 f_p1) f_p2 k2_1 → J p l e { frames := 0, cells := 0, slots := 0, locals := 0 } s m [.ref a_p1, .ref a_p2, .int (nI x3)].toArray below meth c D A 4 Q 0 0 [(a_p1, .inl (ct 0, 16, .inl f_p1)), (a_p2, .inl (ct 0, 8, .inl t2_1))] [(0, .ref a_p1), (1, .ref a_p2), (2, .int (nI x3)), (3, .int (nI k2_1))] [] 2 := by
    intro r2_1
    induction r2_1 with
    | zero =>
      intro k2_1 t2_1 hk_t2_1 e_t2_1 
      have hkk_t2_1 : 8 = k2_1 := by omega
      subst hkk_t2_1
      refine j_iload_n X 3 dX12_toWords_2 rfl (q := 3) rfl ?_
      refine j_bipush (v := nI 8) X dX12_toWords_3 (by decide) (q := 5) rfl ?_
      refine j_icmp_ge (tgt := 39) X dX12_toWords_5 (by decide) (q := 8) rfl (fun c2 => ?_) (fun c2 => ?_)
      · skip
        have c2 : 8 ≤ 8 := (nI_leI (a := 8) (b := 8) (by omega) (by omega)).mp c2
        rw [hQ]
        exact j_vret X t2_1 dX12_toWords_39 (by subst e_t2_1; rfl) rfl
      · skip
        have c2 : ¬ 8 ≤ 8 := fun h => c2 ((nI_leI (a := 8) (b := 8) (by omega) (by omega)).mpr h)
        exfalso; omega
    | succ r2_1 ih2_1 =>
      intro k2_1 t2_1 hk_t2_1 e_t2_1 
      refine j_iload_n X 3 dX12_toWords_2 rfl (q := 3) rfl ?_
      refine j_bipush (v := nI 8) X dX12_toWords_3 (by decide) (q := 5) rfl ?_
      refine j_icmp_ge (tgt := 39) X dX12_toWords_5 (by decide) (q := 8) rfl (fun c3 => ?_) (fun c3 => ?_)
      · skip
        have c3 : 8 ≤ k2_1 := (nI_leI (a := 8) (b := k2_1) (by omega) (by omega)).mp c3
        exfalso; omega
      · skip
        have c3 : ¬ 8 ≤ k2_1 := fun h => c3 ((nI_leI (a := 8) (b := k2_1) (by omega) (by omega)).mpr h)
        refine j_aload_n X 1 dX12_toWords_8 rfl (q := 9) rfl ?_
        refine j_iload_n X 2 dX12_toWords_9 rfl (q := 10) rfl ?_
        refine j_iload_n X 3 dX12_toWords_10 rfl (q := 11) rfl ?_
        refine j_iadd X dX12_toWords_11 (q := 12) rfl ?_
        refine j_eqi (nI_add _ _) ?_
        refine j_aload_n X 0 dX12_toWords_12 rfl (q := 13) rfl ?_
        refine j_bipush (v := nI 15) X dX12_toWords_13 (by decide) (q := 15) rfl ?_
        refine j_iconst (v := nI 2) X dX12_toWords_15 (by decide) (q := 16) rfl ?_
        refine j_iload_n X 3 dX12_toWords_16 rfl (q := 17) rfl ?_
        refine j_imul X dX12_toWords_17 (q := 18) rfl ?_
        refine j_eqi (pk_mul _ _) ?_
        refine j_isub X dX12_toWords_18 (q := 19) rfl ?_
        refine j_eqi (pk_sub (by omega)) ?_
        refine k_iald X 0 rfl (vp_in_nI (by omega) (by omega)) (nI_clamp (by omega)) dX12_toWords_19 (q := 20) rfl ?_
        refine j_bipush (v := nI 16) X dX12_toWords_20 (by decide) (q := 22) rfl ?_
        refine j_ishl X dX12_toWords_22 (q := 23) rfl ?_
        refine j_eqi (show _ = sh32 (f_p1 (15 - (2 * k2_1))) 16 from rfl) ?_
        refine j_aload_n X 0 dX12_toWords_23 rfl (q := 24) rfl ?_
        refine j_bipush (v := nI 14) X dX12_toWords_24 (by decide) (q := 26) rfl ?_
        refine j_iconst (v := nI 2) X dX12_toWords_26 (by decide) (q := 27) rfl ?_
        refine j_iload_n X 3 dX12_toWords_27 rfl (q := 28) rfl ?_
        refine j_imul X dX12_toWords_28 (q := 29) rfl ?_
        refine j_eqi (pk_mul _ _) ?_
        refine j_isub X dX12_toWords_29 (q := 30) rfl ?_
        refine j_eqi (pk_sub (by omega)) ?_
        refine k_iald X 0 rfl (vp_in_nI (by omega) (by omega)) (nI_clamp (by omega)) dX12_toWords_30 (q := 31) rfl ?_
        refine j_ior X dX12_toWords_31 (q := 32) rfl ?_
        refine j_topi (fun y4 e_y4 => ?_)
        refine k_iast (ws2 := [(a_p1, .inl (ct 0, 16, .inl f_p1)), (a_p2, .inl (ct 0, 8, .inl (upd t2_1 (x3 + k2_1) y4)))]) X 1 rfl (vp_in_nI (by omega) (by omega)) (nI_clamp (by omega)) dX12_toWords_32 rfl (q := 33) rfl ?_
        refine j_iinc (v := nI (k2_1 + 1)) (lv' := [(3, .int (nI (k2_1 + 1))), (0, .ref a_p1), (1, .ref a_p2), (2, .int (nI x3))]) X 3 dX12_toWords_33 rfl (nI_inc _ 1) (by decide) rfl (q := 36) rfl ?_
        refine j_goto (tgt := 2) X dX12_toWords_36 (by decide) ?_
        refine j_lv (lv' := [(0, .ref a_p1), (1, .ref a_p2), (2, .int (nI x3)), (3, .int (nI (k2_1 + 1)))]) [1, 2, 3, 0] rfl ?_
        have hb : (X12_toWords_l2 x3 f_p1) k2_1 t2_1 = upd t2_1 (x3 + k2_1) y4 := (by subst e_y4; rfl)
        exact ih2_1 (k2_1 + 1) (upd t2_1 (x3 + k2_1) y4) (by omega) (by rw [itr_s, ← e_t2_1]; exact hb.symm) 
  exact LP2_1 8 0 f_p2 (by omega) (itr_0 _ _).symm 
theorem cal_X12_toWords : Cal yX12_toWords cX12_toWords 4 none 3 := ⟨tb_at 120 (by decide +kernel) (by decide +kernel), tb_at 1231 (by decide +kernel) (by decide +kernel), by decide +kernel, by decide +kernel, by decide +kernel⟩
theorem cwt_X12_toWords : Cond.static yX12_toWords ∈ tb := tb_at 1230 (by decide +kernel) (by decide +kernel)
theorem dX12_copy_0 : decode cX12_copy 0 = .ok (.iconst 0, 1) := by decide +kernel
theorem dX12_copy_1 : decode cX12_copy 1 = .ok (.istore_n 2, 1) := by decide +kernel
theorem dX12_copy_2 : decode cX12_copy 2 = .ok (.iload_n 2, 1) := by decide +kernel
theorem dX12_copy_3 : decode cX12_copy 3 = .ok (.bipush 16, 2) := by decide +kernel
theorem dX12_copy_5 : decode cX12_copy 5 = .ok (.if_icmp .ge 15, 3) := by decide +kernel
theorem dX12_copy_8 : decode cX12_copy 8 = .ok (.aload_n 1, 1) := by decide +kernel
theorem dX12_copy_9 : decode cX12_copy 9 = .ok (.iload_n 2, 1) := by decide +kernel
theorem dX12_copy_10 : decode cX12_copy 10 = .ok (.aload_n 0, 1) := by decide +kernel
theorem dX12_copy_11 : decode cX12_copy 11 = .ok (.iload_n 2, 1) := by decide +kernel
theorem dX12_copy_12 : decode cX12_copy 12 = .ok (.iaload, 1) := by decide +kernel
theorem dX12_copy_13 : decode cX12_copy 13 = .ok (.iastore, 1) := by decide +kernel
theorem dX12_copy_14 : decode cX12_copy 14 = .ok (.iinc 2 1, 3) := by decide +kernel
theorem dX12_copy_17 : decode cX12_copy 17 = .ok (.goto (-15), 3) := by decide +kernel
theorem dX12_copy_20 : decode cX12_copy 20 = .ok (.return_, 1) := by decide +kernel
noncomputable def X12_copy_l2 (f_p1 : Nat → Int32) (k2_1 : Nat) (t2_1 : (Nat → Int32)) : (Nat → Int32) :=
  let y4 := f_p1 k2_1
  upd t2_1 k2_1 y4
noncomputable def f_X12_copy (f_p1 : Nat → Int32) (f_p2 : Nat → Int32) : (Nat → Int32) :=
  let t2_1 := itr (X12_copy_l2 f_p1) f_p2 16
  t2_1
set_option maxHeartbeats 4000000 in
set_option maxRecDepth 100000 in
theorem c_X12_copy (l : Launch) (D : va_G) (ct : Nat → ClassId) (ts : Nat → Nat) (a_p1 a_p2 : Nat) (f_p1 : Nat → Int32) (f_p2 : Nat → Int32)    (sz : Nat) : Met l yX12_copy (Cond.code yX12_copy cX12_copy 3 none :: tb) { frames := 0, cells := 0, slots := 0, locals := 0 } (PcG D ct SXL ts [.ref a_p1, .ref a_p2] [(a_p1, .inl (ct 0, 16, .inl f_p1)), (a_p2, .inl (ct 0, 16, .inl f_p2))] sz) (va_Qv (fun u : (Nat → Int32) => u = f_X12_copy f_p1 f_p2) (fun u => BG D ct (va_A [(a_p1, .inl (ct 0, 16, .inl f_p1)), (a_p2, .inl (ct 0, 16, .inl f_p2))] sz) [(a_p1, .inl (ct 0, 16, .inl f_p1)), (a_p2, .inl (ct 0, 16, .inl u))]) (va_A [(a_p1, .inl (ct 0, 16, .inl f_p1)), (a_p2, .inl (ct 0, 16, .inl f_p2))] sz)) 0 0 (va_A [(a_p1, .inl (ct 0, 16, .inl f_p1)), (a_p2, .inl (ct 0, 16, .inl f_p2))] sz) := by
  refine metJ (QcF := fun A => va_Qv (fun u : (Nat → Int32) => u = f_X12_copy f_p1 f_p2) (fun u => BG D ct A [(a_p1, .inl (ct 0, 16, .inl f_p1)), (a_p2, .inl (ct 0, 16, .inl u))]) A) (by decide) (Nat.le_of_ble_eq_true rfl) ?_
  intro p e s m below meth c A X hnm
  obtain ⟨Q, hQ⟩ : ∃ Q, Q = MQ below (va_Qv (fun u : (Nat → Int32) => u = f_X12_copy f_p1 f_p2) (fun u => BG D ct A [(a_p1, .inl (ct 0, 16, .inl f_p1)), (a_p2, .inl (ct 0, 16, .inl u))]) A) [.ref a_p1, .ref a_p2].toArray s 0 0 A := ⟨_, rfl⟩
  rw [← hQ]
  refine j_lve (lv' := [(0, .ref a_p1), (1, .ref a_p2)]) rfl ?_
  refine j_iconst (v := nI 0) X dX12_copy_0 (by decide) (q := 1) rfl ?_
  refine j_istore_n (lv' := [(2, .int (nI 0)), (0, .ref a_p1), (1, .ref a_p2)]) X dX12_copy_1 (by decide) rfl (q := 2) rfl ?_
  refine j_lv (lv' := [(0, .ref a_p1), (1, .ref a_p2), (2, .int (nI 0))]) [1, 2, 0] rfl ?_
  have LP2_1 : ∀ (r2_1 k2_1 : Nat) (t2_1 : (Nat → Int32)), k2_1 + r2_1 = 16 → t2_1 = itr (X12_copy_l2 f_p1) f_p2 k2_1 → J p l e { frames := 0, cells := 0, slots := 0, locals := 0 } s m [.ref a_p1, .ref a_p2].toArray below meth c D A 3 Q 0 0 [(a_p1, .inl (ct 0, 16, .inl f_p1)), (a_p2, .inl (ct 0, 16, .inl t2_1))] [(0, .ref a_p1), (1, .ref a_p2), (2, .int (nI k2_1))] [] 2 := by
    intro r2_1
    induction r2_1 with
    | zero =>
      intro k2_1 t2_1 hk_t2_1 e_t2_1 
      have hkk_t2_1 : 16 = k2_1 := by omega
      subst hkk_t2_1
      refine j_iload_n X 2 dX12_copy_2 rfl (q := 3) rfl ?_
      refine j_bipush (v := nI 16) X dX12_copy_3 (by decide) (q := 5) rfl ?_
      refine j_icmp_ge (tgt := 20) X dX12_copy_5 (by decide) (q := 8) rfl (fun c2 => ?_) (fun c2 => ?_)
      · skip
        have c2 : 16 ≤ 16 := (nI_leI (a := 16) (b := 16) (by omega) (by omega)).mp c2
        rw [hQ]
        exact j_vret X t2_1 dX12_copy_20 (by subst e_t2_1; rfl) rfl
      · skip
        have c2 : ¬ 16 ≤ 16 := fun h => c2 ((nI_leI (a := 16) (b := 16) (by omega) (by omega)).mpr h)
        exfalso; omega
    | succ r2_1 ih2_1 =>
      intro k2_1 t2_1 hk_t2_1 e_t2_1 
      refine j_iload_n X 2 dX12_copy_2 rfl (q := 3) rfl ?_
      refine j_bipush (v := nI 16) X dX12_copy_3 (by decide) (q := 5) rfl ?_
      refine j_icmp_ge (tgt := 20) X dX12_copy_5 (by decide) (q := 8) rfl (fun c3 => ?_) (fun c3 => ?_)
      · skip
        have c3 : 16 ≤ k2_1 := (nI_leI (a := 16) (b := k2_1) (by omega) (by omega)).mp c3
        exfalso; omega
      · skip
        have c3 : ¬ 16 ≤ k2_1 := fun h => c3 ((nI_leI (a := 16) (b := k2_1) (by omega) (by omega)).mpr h)
        refine j_aload_n X 1 dX12_copy_8 rfl (q := 9) rfl ?_
        refine j_iload_n X 2 dX12_copy_9 rfl (q := 10) rfl ?_
        refine j_aload_n X 0 dX12_copy_10 rfl (q := 11) rfl ?_
        refine j_iload_n X 2 dX12_copy_11 rfl (q := 12) rfl ?_
        refine k_iald X 0 rfl (vp_in_nI (by omega) (by omega)) (nI_clamp (by omega)) dX12_copy_12 (q := 13) rfl ?_
        refine j_topi (fun y4 e_y4 => ?_)
        refine k_iast (ws2 := [(a_p1, .inl (ct 0, 16, .inl f_p1)), (a_p2, .inl (ct 0, 16, .inl (upd t2_1 k2_1 y4)))]) X 1 rfl (vp_in_nI (by omega) (by omega)) (nI_clamp (by omega)) dX12_copy_13 rfl (q := 14) rfl ?_
        refine j_iinc (v := nI (k2_1 + 1)) (lv' := [(2, .int (nI (k2_1 + 1))), (0, .ref a_p1), (1, .ref a_p2)]) X 2 dX12_copy_14 rfl (nI_inc _ 1) (by decide) rfl (q := 17) rfl ?_
        refine j_goto (tgt := 2) X dX12_copy_17 (by decide) ?_
        refine j_lv (lv' := [(0, .ref a_p1), (1, .ref a_p2), (2, .int (nI (k2_1 + 1)))]) [1, 2, 0] rfl ?_
        have hb : (X12_copy_l2 f_p1) k2_1 t2_1 = upd t2_1 k2_1 y4 := (by subst e_y4; rfl)
        exact ih2_1 (k2_1 + 1) (upd t2_1 k2_1 y4) (by omega) (by rw [itr_s, ← e_t2_1]; exact hb.symm) 
  exact LP2_1 16 0 f_p2 (by omega) (itr_0 _ _).symm 
theorem cal_X12_copy : Cal yX12_copy cX12_copy 3 none 2 := ⟨tb_at 120 (by decide +kernel) (by decide +kernel), tb_at 1515 (by decide +kernel) (by decide +kernel), by decide +kernel, by decide +kernel, by decide +kernel⟩
theorem cwt_X12_copy : Cond.static yX12_copy ∈ tb := tb_at 1514 (by decide +kernel) (by decide +kernel)
theorem mw_X12_multiply_0 : Cond.fieldLink "GuardedTreeModel" 274 "GuardedTreeModel" "product" "[I" ∈ tb := tb_at 1310 (by decide +kernel) (by decide +kernel)
theorem mw_X12_multiply_1 : Cond.constantLong "GuardedTreeModel" 345 65535 ∈ tb := tb_at 1228 (by decide +kernel) (by decide +kernel)
theorem dX12_multiply_0 : decode cX12_multiply 0 = .ok (.iconst 0, 1) := by decide +kernel
theorem dX12_multiply_1 : decode cX12_multiply 1 = .ok (.istore_n 3, 1) := by decide +kernel
theorem dX12_multiply_2 : decode cX12_multiply 2 = .ok (.iload_n 3, 1) := by decide +kernel
theorem dX12_multiply_3 : decode cX12_multiply 3 = .ok (.bipush 32, 2) := by decide +kernel
theorem dX12_multiply_5 : decode cX12_multiply 5 = .ok (.if_icmp .ge 16, 3) := by decide +kernel
theorem dX12_multiply_8 : decode cX12_multiply 8 = .ok (.aload_n 0, 1) := by decide +kernel
theorem dX12_multiply_9 : decode cX12_multiply 9 = .ok (.getfield 274, 3) := by decide +kernel
theorem dX12_multiply_12 : decode cX12_multiply 12 = .ok (.iload_n 3, 1) := by decide +kernel
theorem dX12_multiply_13 : decode cX12_multiply 13 = .ok (.iconst 0, 1) := by decide +kernel
theorem dX12_multiply_14 : decode cX12_multiply 14 = .ok (.iastore, 1) := by decide +kernel
theorem dX12_multiply_15 : decode cX12_multiply 15 = .ok (.iinc 3 1, 3) := by decide +kernel
theorem dX12_multiply_18 : decode cX12_multiply 18 = .ok (.goto (-16), 3) := by decide +kernel
theorem dX12_multiply_21 : decode cX12_multiply 21 = .ok (.iconst 0, 1) := by decide +kernel
theorem dX12_multiply_22 : decode cX12_multiply 22 = .ok (.istore_n 3, 1) := by decide +kernel
theorem dX12_multiply_23 : decode cX12_multiply 23 = .ok (.iload_n 3, 1) := by decide +kernel
theorem dX12_multiply_24 : decode cX12_multiply 24 = .ok (.bipush 16, 2) := by decide +kernel
theorem dX12_multiply_26 : decode cX12_multiply 26 = .ok (.if_icmp .ge 89, 3) := by decide +kernel
theorem dX12_multiply_29 : decode cX12_multiply 29 = .ok (.lconst 0, 1) := by decide +kernel
theorem dX12_multiply_30 : decode cX12_multiply 30 = .ok (.lstore 4, 2) := by decide +kernel
theorem dX12_multiply_32 : decode cX12_multiply 32 = .ok (.iconst 0, 1) := by decide +kernel
theorem dX12_multiply_33 : decode cX12_multiply 33 = .ok (.istore 6, 2) := by decide +kernel
theorem dX12_multiply_35 : decode cX12_multiply 35 = .ok (.iload 6, 2) := by decide +kernel
theorem dX12_multiply_37 : decode cX12_multiply 37 = .ok (.bipush 16, 2) := by decide +kernel
theorem dX12_multiply_39 : decode cX12_multiply 39 = .ok (.if_icmp .ge 58, 3) := by decide +kernel
theorem dX12_multiply_42 : decode cX12_multiply 42 = .ok (.lload 4, 2) := by decide +kernel
theorem dX12_multiply_44 : decode cX12_multiply 44 = .ok (.aload_n 0, 1) := by decide +kernel
theorem dX12_multiply_45 : decode cX12_multiply 45 = .ok (.getfield 274, 3) := by decide +kernel
theorem dX12_multiply_48 : decode cX12_multiply 48 = .ok (.iload_n 3, 1) := by decide +kernel
theorem dX12_multiply_49 : decode cX12_multiply 49 = .ok (.iload 6, 2) := by decide +kernel
theorem dX12_multiply_51 : decode cX12_multiply 51 = .ok (.iadd, 1) := by decide +kernel
theorem dX12_multiply_52 : decode cX12_multiply 52 = .ok (.iaload, 1) := by decide +kernel
theorem dX12_multiply_53 : decode cX12_multiply 53 = .ok (.i2l, 1) := by decide +kernel
theorem dX12_multiply_54 : decode cX12_multiply 54 = .ok (.ladd, 1) := by decide +kernel
theorem dX12_multiply_55 : decode cX12_multiply 55 = .ok (.aload_n 1, 1) := by decide +kernel
theorem dX12_multiply_56 : decode cX12_multiply 56 = .ok (.iload_n 3, 1) := by decide +kernel
theorem dX12_multiply_57 : decode cX12_multiply 57 = .ok (.iaload, 1) := by decide +kernel
theorem dX12_multiply_58 : decode cX12_multiply 58 = .ok (.i2l, 1) := by decide +kernel
theorem dX12_multiply_59 : decode cX12_multiply 59 = .ok (.aload_n 2, 1) := by decide +kernel
theorem dX12_multiply_60 : decode cX12_multiply 60 = .ok (.iload 6, 2) := by decide +kernel
theorem dX12_multiply_62 : decode cX12_multiply 62 = .ok (.iaload, 1) := by decide +kernel
theorem dX12_multiply_63 : decode cX12_multiply 63 = .ok (.i2l, 1) := by decide +kernel
theorem dX12_multiply_64 : decode cX12_multiply 64 = .ok (.lmul, 1) := by decide +kernel
theorem dX12_multiply_65 : decode cX12_multiply 65 = .ok (.ladd, 1) := by decide +kernel
theorem dX12_multiply_66 : decode cX12_multiply 66 = .ok (.lstore 4, 2) := by decide +kernel
theorem dX12_multiply_68 : decode cX12_multiply 68 = .ok (.aload_n 0, 1) := by decide +kernel
theorem dX12_multiply_69 : decode cX12_multiply 69 = .ok (.getfield 274, 3) := by decide +kernel
theorem dX12_multiply_72 : decode cX12_multiply 72 = .ok (.iload_n 3, 1) := by decide +kernel
theorem dX12_multiply_73 : decode cX12_multiply 73 = .ok (.iload 6, 2) := by decide +kernel
theorem dX12_multiply_75 : decode cX12_multiply 75 = .ok (.iadd, 1) := by decide +kernel
theorem dX12_multiply_76 : decode cX12_multiply 76 = .ok (.lload 4, 2) := by decide +kernel
theorem dX12_multiply_78 : decode cX12_multiply 78 = .ok (.ldc2_w 345, 3) := by decide +kernel
theorem dX12_multiply_81 : decode cX12_multiply 81 = .ok (.land, 1) := by decide +kernel
theorem dX12_multiply_82 : decode cX12_multiply 82 = .ok (.l2i, 1) := by decide +kernel
theorem dX12_multiply_83 : decode cX12_multiply 83 = .ok (.iastore, 1) := by decide +kernel
theorem dX12_multiply_84 : decode cX12_multiply 84 = .ok (.lload 4, 2) := by decide +kernel
theorem dX12_multiply_86 : decode cX12_multiply 86 = .ok (.bipush 16, 2) := by decide +kernel
theorem dX12_multiply_88 : decode cX12_multiply 88 = .ok (.lshr, 1) := by decide +kernel
theorem dX12_multiply_89 : decode cX12_multiply 89 = .ok (.lstore 4, 2) := by decide +kernel
theorem dX12_multiply_91 : decode cX12_multiply 91 = .ok (.iinc 6 1, 3) := by decide +kernel
theorem dX12_multiply_94 : decode cX12_multiply 94 = .ok (.goto (-59), 3) := by decide +kernel
theorem dX12_multiply_97 : decode cX12_multiply 97 = .ok (.aload_n 0, 1) := by decide +kernel
theorem dX12_multiply_98 : decode cX12_multiply 98 = .ok (.getfield 274, 3) := by decide +kernel
theorem dX12_multiply_101 : decode cX12_multiply 101 = .ok (.iload_n 3, 1) := by decide +kernel
theorem dX12_multiply_102 : decode cX12_multiply 102 = .ok (.bipush 16, 2) := by decide +kernel
theorem dX12_multiply_104 : decode cX12_multiply 104 = .ok (.iadd, 1) := by decide +kernel
theorem dX12_multiply_105 : decode cX12_multiply 105 = .ok (.lload 4, 2) := by decide +kernel
theorem dX12_multiply_107 : decode cX12_multiply 107 = .ok (.l2i, 1) := by decide +kernel
theorem dX12_multiply_108 : decode cX12_multiply 108 = .ok (.iastore, 1) := by decide +kernel
theorem dX12_multiply_109 : decode cX12_multiply 109 = .ok (.iinc 3 1, 3) := by decide +kernel
theorem dX12_multiply_112 : decode cX12_multiply 112 = .ok (.goto (-89), 3) := by decide +kernel
theorem dX12_multiply_115 : decode cX12_multiply 115 = .ok (.return_, 1) := by decide +kernel
noncomputable def X12_multiply_l35 (f_p1 : Nat → Int32) (f_p2 : Nat → Int32) (k23_3 : Nat) (k35_7 : Nat) (t35_7 : (Nat → Int32) × (Int64)) : (Nat → Int32) × (Int64) :=
  let y10 := (t35_7.2 + ((t35_7.1 (k23_3 + k35_7)).toInt64)) + (((f_p1 k23_3).toInt64) * ((f_p2 k35_7).toInt64))
  let y11 := (y10 &&& ((65535 : Int64))).toInt32
  let y12 := y10 >>> ((nI 16).toInt64 &&& 63)
  (upd t35_7.1 (k23_3 + k35_7) y11, y12)
noncomputable def X12_multiply_l23 (f_p1 : Nat → Int32) (f_p2 : Nat → Int32) (k23_3 : Nat) (t23_3 : (Nat → Int32)) : (Nat → Int32) :=
  let y6 := (0 : Int64)
  let t35_7 := itr (X12_multiply_l35 f_p1 f_p2 k23_3) ((t23_3, y6)) 16
  upd t35_7.1 (k23_3 + 16) t35_7.2.toInt32
noncomputable def X12_multiply_l2  (k2_1 : Nat) (t2_1 : (Nat → Int32)) : (Nat → Int32) :=
  upd t2_1 k2_1 (nI 0)
noncomputable def f_X12_multiply (f_product : Nat → Int32) (f_p1 : Nat → Int32) (f_p2 : Nat → Int32) : (Nat → Int32) :=
  let t2_1 := itr X12_multiply_l2 f_product 32
  let t23_3 := itr (X12_multiply_l23 f_p1 f_p2) t2_1 16
  t23_3
set_option maxHeartbeats 4000000 in
set_option maxRecDepth 100000 in
theorem c_X12_multiply (l : Launch) (D : va_G) (ct : Nat → ClassId) (ts : Nat → Nat) (a_this a_p1 a_p2 : Nat) (ad : Nat → Nat) (v_thrown : Int32) (v_connections : Int32) (v_size : Nat) (v_ids : Nat) (v_dataAll : Nat) (v_putCount : Nat) (v_waiting : Nat) (v_readSize : Nat) (v_power : Int32) (v_left : Int32) (v_since : Int32) (v_changes : Int32) (v_rowSize : Nat) (f_product : Nat → Int32) (f_p1 : Nat → Int32) (f_p2 : Nat → Int32)    (sz : Nat) : Met l yX12_multiply (Cond.code yX12_multiply cX12_multiply 7 none :: tb) { frames := 0, cells := 0, slots := 0, locals := 0 } (PcG D ct SXL ts [.ref a_this, .ref a_p1, .ref a_p2] [(a_this, .inr (12, mfs ad v_thrown v_connections (nI v_size) (nI v_ids) (nI v_dataAll) (nI v_putCount) (nI v_waiting) (nI v_readSize) v_power v_left v_since v_changes (nI v_rowSize))), (ad 73, .inl (ct 0, 32, .inl f_product)), (a_p1, .inl (ct 0, 16, .inl f_p1)), (a_p2, .inl (ct 0, 16, .inl f_p2))] sz) (va_Qv (fun u : (Nat → Int32) => u = f_X12_multiply f_product f_p1 f_p2) (fun u => BG D ct (va_A [(a_this, .inr (12, mfs ad v_thrown v_connections (nI v_size) (nI v_ids) (nI v_dataAll) (nI v_putCount) (nI v_waiting) (nI v_readSize) v_power v_left v_since v_changes (nI v_rowSize))), (ad 73, .inl (ct 0, 32, .inl f_product)), (a_p1, .inl (ct 0, 16, .inl f_p1)), (a_p2, .inl (ct 0, 16, .inl f_p2))] sz) [(a_this, .inr (12, mfs ad v_thrown v_connections (nI v_size) (nI v_ids) (nI v_dataAll) (nI v_putCount) (nI v_waiting) (nI v_readSize) v_power v_left v_since v_changes (nI v_rowSize))), (ad 73, .inl (ct 0, 32, .inl u)), (a_p1, .inl (ct 0, 16, .inl f_p1)), (a_p2, .inl (ct 0, 16, .inl f_p2))]) (va_A [(a_this, .inr (12, mfs ad v_thrown v_connections (nI v_size) (nI v_ids) (nI v_dataAll) (nI v_putCount) (nI v_waiting) (nI v_readSize) v_power v_left v_since v_changes (nI v_rowSize))), (ad 73, .inl (ct 0, 32, .inl f_product)), (a_p1, .inl (ct 0, 16, .inl f_p1)), (a_p2, .inl (ct 0, 16, .inl f_p2))] sz)) 0 0 (va_A [(a_this, .inr (12, mfs ad v_thrown v_connections (nI v_size) (nI v_ids) (nI v_dataAll) (nI v_putCount) (nI v_waiting) (nI v_readSize) v_power v_left v_since v_changes (nI v_rowSize))), (ad 73, .inl (ct 0, 32, .inl f_product)), (a_p1, .inl (ct 0, 16, .inl f_p1)), (a_p2, .inl (ct 0, 16, .inl f_p2))] sz) := by
  refine metJ (QcF := fun A => va_Qv (fun u : (Nat → Int32) => u = f_X12_multiply f_product f_p1 f_p2) (fun u => BG D ct A [(a_this, .inr (12, mfs ad v_thrown v_connections (nI v_size) (nI v_ids) (nI v_dataAll) (nI v_putCount) (nI v_waiting) (nI v_readSize) v_power v_left v_since v_changes (nI v_rowSize))), (ad 73, .inl (ct 0, 32, .inl u)), (a_p1, .inl (ct 0, 16, .inl f_p1)), (a_p2, .inl (ct 0, 16, .inl f_p2))]) A) (by decide) (Nat.le_of_ble_eq_true rfl) ?_
  intro p e s m below meth c A X hnm
  obtain ⟨Q, hQ⟩ : ∃ Q, Q = MQ below (va_Qv (fun u : (Nat → Int32) => u = f_X12_multiply f_product f_p1 f_p2) (fun u => BG D ct A [(a_this, .inr (12, mfs ad v_thrown v_connections (nI v_size) (nI v_ids) (nI v_dataAll) (nI v_putCount) (nI v_waiting) (nI v_readSize) v_power v_left v_since v_changes (nI v_rowSize))), (ad 73, .inl (ct 0, 32, .inl u)), (a_p1, .inl (ct 0, 16, .inl f_p1)), (a_p2, .inl (ct 0, 16, .inl f_p2))]) A) [.ref a_this, .ref a_p1, .ref a_p2].toArray s 0 0 A := ⟨_, rfl⟩
  rw [← hQ]
  refine j_lve (lv' := [(0, .ref a_this), (1, .ref a_p1), (2, .ref a_p2)]) rfl ?_
  refine j_iconst (v := nI 0) X dX12_multiply_0 (by decide) (q := 1) rfl ?_
  refine j_istore_n (lv' := [(3, .int (nI 0)), (0, .ref a_this), (1, .ref a_p1), (2, .ref a_p2)]) X dX12_multiply_1 (by decide) rfl (q := 2) rfl ?_
  refine j_lv (lv' := [(0, .ref a_this), (1, .ref a_p1), (2, .ref a_p2), (3, .int (nI 0))]) [1, 2, 3, 0] rfl ?_
  have LP2_1 : ∀ (r2_1 k2_1 : Nat) (t2_1 : (Nat → Int32)), k2_1 + r2_1 = 32 → t2_1 = itr X12_multiply_l2 f_product k2_1 → J p l e { frames := 0, cells := 0, slots := 0, locals := 0 } s m [.ref a_this, .ref a_p1, .ref a_p2].toArray below meth c D A 7 Q 0 0 [(a_this, .inr (12, mfs ad v_thrown v_connections (nI v_size) (nI v_ids) (nI v_dataAll) (nI v_putCount) (nI v_waiting) (nI v_readSize) v_power v_left v_since v_changes (nI v_rowSize))), (ad 73, .inl (ct 0, 32, .inl t2_1)), (a_p1, .inl (ct 0, 16, .inl f_p1)), (a_p2, .inl (ct 0, 16, .inl f_p2))] [(0, .ref a_this), (1, .ref a_p1), (2, .ref a_p2), (3, .int (nI k2_1))] [] 2 := by
    intro r2_1
    induction r2_1 with
    | zero =>
      intro k2_1 t2_1 hk_t2_1 e_t2_1 
      have hkk_t2_1 : 32 = k2_1 := by omega
      subst hkk_t2_1
      refine j_iload_n X 3 dX12_multiply_2 rfl (q := 3) rfl ?_
      refine j_bipush (v := nI 32) X dX12_multiply_3 (by decide) (q := 5) rfl ?_
      refine j_icmp_ge (tgt := 21) X dX12_multiply_5 (by decide) (q := 8) rfl (fun c2 => ?_) (fun c2 => ?_)
      · skip
        have c2 : 32 ≤ 32 := (nI_leI (a := 32) (b := 32) (by omega) (by omega)).mp c2
        refine j_iconst (v := nI 0) X dX12_multiply_21 (by decide) (q := 22) rfl ?_
        refine j_istore_n (lv' := [(3, .int (nI 0)), (0, .ref a_this), (1, .ref a_p1), (2, .ref a_p2)]) X dX12_multiply_22 (by decide) rfl (q := 23) rfl ?_
        refine j_lv (lv' := [(0, .ref a_this), (1, .ref a_p1), (2, .ref a_p2), (3, .int (nI 0))]) [1, 2, 3, 0] rfl ?_
        have LP23_3 : ∀ (r23_3 k23_3 : Nat) (t23_3 : (Nat → Int32)), k23_3 + r23_3 = 16 → t23_3 = itr (X12_multiply_l23 f_p1 f_p2) t2_1 k23_3 → J p l e { frames := 0, cells := 0, slots := 0, locals := 0 } s m [.ref a_this, .ref a_p1, .ref a_p2].toArray below meth c D A 7 Q 0 0 [(a_this, .inr (12, mfs ad v_thrown v_connections (nI v_size) (nI v_ids) (nI v_dataAll) (nI v_putCount) (nI v_waiting) (nI v_readSize) v_power v_left v_since v_changes (nI v_rowSize))), (ad 73, .inl (ct 0, 32, .inl t23_3)), (a_p1, .inl (ct 0, 16, .inl f_p1)), (a_p2, .inl (ct 0, 16, .inl f_p2))] [(0, .ref a_this), (1, .ref a_p1), (2, .ref a_p2), (3, .int (nI k23_3))] [] 23 := by
          intro r23_3
          induction r23_3 with
          | zero =>
            intro k23_3 t23_3 hk_t23_3 e_t23_3 
            have hkk_t23_3 : 16 = k23_3 := by omega
            subst hkk_t23_3
            refine j_iload_n X 3 dX12_multiply_23 rfl (q := 24) rfl ?_
            refine j_bipush (v := nI 16) X dX12_multiply_24 (by decide) (q := 26) rfl ?_
            refine j_icmp_ge (tgt := 115) X dX12_multiply_26 (by decide) (q := 29) rfl (fun c4 => ?_) (fun c4 => ?_)
            · skip
              have c4 : 16 ≤ 16 := (nI_leI (a := 16) (b := 16) (by omega) (by omega)).mp c4
              rw [hQ]
              exact j_vret X t23_3 dX12_multiply_115 (by subst e_t2_1; subst e_t23_3; rfl) rfl
            · skip
              have c4 : ¬ 16 ≤ 16 := fun h => c4 ((nI_leI (a := 16) (b := 16) (by omega) (by omega)).mpr h)
              exfalso; omega
          | succ r23_3 ih23_3 =>
            intro k23_3 t23_3 hk_t23_3 e_t23_3 
            refine j_iload_n X 3 dX12_multiply_23 rfl (q := 24) rfl ?_
            refine j_bipush (v := nI 16) X dX12_multiply_24 (by decide) (q := 26) rfl ?_
            refine j_icmp_ge (tgt := 115) X dX12_multiply_26 (by decide) (q := 29) rfl (fun c5 => ?_) (fun c5 => ?_)
            · skip
              have c5 : 16 ≤ k23_3 := (nI_leI (a := 16) (b := k23_3) (by omega) (by omega)).mp c5
              exfalso; omega
            · skip
              have c5 : ¬ 16 ≤ k23_3 := fun h => c5 ((nI_leI (a := 16) (b := k23_3) (by omega) (by omega)).mpr h)
              refine j_lconst (v := 0) X dX12_multiply_29 (by decide) (q := 30) rfl ?_
              refine j_topl (fun y6 e_y6 => ?_)
              refine j_lstore (lv' := [(4, .long y6), (0, .ref a_this), (1, .ref a_p1), (2, .ref a_p2), (3, .int (nI k23_3))]) X dX12_multiply_30 (by decide) rfl (q := 32) rfl ?_
              refine j_iconst (v := nI 0) X dX12_multiply_32 (by decide) (q := 33) rfl ?_
              refine j_istore (lv' := [(6, .int (nI 0)), (4, .long y6), (0, .ref a_this), (1, .ref a_p1), (2, .ref a_p2), (3, .int (nI k23_3))]) X dX12_multiply_33 (by decide) rfl (q := 35) rfl ?_
              refine j_lv (lv' := [(0, .ref a_this), (1, .ref a_p1), (2, .ref a_p2), (3, .int (nI k23_3)), (4, .long y6), (6, .int (nI 0))]) [2, 3, 4, 5, 1, 0] rfl ?_
              have LP35_7 : ∀ (r35_7 k35_7 : Nat) (t35_7 : (Nat → Int32) × (Int64)), k35_7 + r35_7 = 16 → t35_7 = itr (X12_multiply_l35 f_p1 f_p2 k23_3) ((t23_3, y6)) k35_7 → J p l e { frames := 0, cells := 0, slots := 0, locals := 0 } s m [.ref a_this, .ref a_p1, .ref a_p2].toArray below meth c D A 7 Q 0 0 [(a_this, .inr (12, mfs ad v_thrown v_connections (nI v_size) (nI v_ids) (nI v_dataAll) (nI v_putCount) (nI v_waiting) (nI v_readSize) v_power v_left v_since v_changes (nI v_rowSize))), (ad 73, .inl (ct 0, 32, .inl t35_7.1)), (a_p1, .inl (ct 0, 16, .inl f_p1)), (a_p2, .inl (ct 0, 16, .inl f_p2))] [(0, .ref a_this), (1, .ref a_p1), (2, .ref a_p2), (3, .int (nI k23_3)), (4, .long t35_7.2), (6, .int (nI k35_7))] [] 35 := by
                intro r35_7
                induction r35_7 with
                | zero =>
                  intro k35_7 t35_7 hk_t35_7 e_t35_7 
                  have hkk_t35_7 : 16 = k35_7 := by omega
                  subst hkk_t35_7
                  refine j_iload X 5 dX12_multiply_35 rfl (q := 37) rfl ?_
                  refine j_bipush (v := nI 16) X dX12_multiply_37 (by decide) (q := 39) rfl ?_
                  refine j_icmp_ge (tgt := 97) X dX12_multiply_39 (by decide) (q := 42) rfl (fun c8 => ?_) (fun c8 => ?_)
                  · skip
                    have c8 : 16 ≤ 16 := (nI_leI (a := 16) (b := 16) (by omega) (by omega)).mp c8
                    refine j_aload_n X 0 dX12_multiply_97 rfl (q := 98) rfl ?_
                    refine j_get (f := 73) X 0 inT12 rfl rfl (by decide) mw_X12_multiply_0 rfl dX12_multiply_98 (q := 101) rfl ?_
                    refine j_iload_n X 3 dX12_multiply_101 rfl (q := 102) rfl ?_
                    refine j_bipush (v := nI 16) X dX12_multiply_102 (by decide) (q := 104) rfl ?_
                    refine j_iadd X dX12_multiply_104 (q := 105) rfl ?_
                    refine j_eqi (nI_add _ _) ?_
                    refine j_lload X 4 dX12_multiply_105 rfl (q := 107) rfl ?_
                    refine j_l2i X dX12_multiply_107 (q := 108) rfl ?_
                    refine k_iast (ws2 := [(a_this, .inr (12, mfs ad v_thrown v_connections (nI v_size) (nI v_ids) (nI v_dataAll) (nI v_putCount) (nI v_waiting) (nI v_readSize) v_power v_left v_since v_changes (nI v_rowSize))), (ad 73, .inl (ct 0, 32, .inl (upd t35_7.1 (k23_3 + 16) t35_7.2.toInt32))), (a_p1, .inl (ct 0, 16, .inl f_p1)), (a_p2, .inl (ct 0, 16, .inl f_p2))]) X 1 rfl (vp_in_nI (by omega) (by omega)) (nI_clamp (by omega)) dX12_multiply_108 rfl (q := 109) rfl ?_
                    refine j_iinc (v := nI (k23_3 + 1)) (lv' := [(3, .int (nI (k23_3 + 1))), (0, .ref a_this), (1, .ref a_p1), (2, .ref a_p2), (4, .long t35_7.2), (6, .int (nI 16))]) X 3 dX12_multiply_109 rfl (nI_inc _ 1) (by decide) rfl (q := 112) rfl ?_
                    refine j_goto (tgt := 23) X dX12_multiply_112 (by decide) ?_
                    refine j_lv (lv' := [(0, .ref a_this), (1, .ref a_p1), (2, .ref a_p2), (3, .int (nI (k23_3 + 1)))]) [1, 2, 3, 0] rfl ?_
                    have hb : (X12_multiply_l23 f_p1 f_p2) k23_3 t23_3 = upd t35_7.1 (k23_3 + 16) t35_7.2.toInt32 := (by subst e_y6; subst e_t35_7; rfl)
                    exact ih23_3 (k23_3 + 1) (upd t35_7.1 (k23_3 + 16) t35_7.2.toInt32) (by omega) (by rw [itr_s, ← e_t23_3]; exact hb.symm) 
                  · skip
                    have c8 : ¬ 16 ≤ 16 := fun h => c8 ((nI_leI (a := 16) (b := 16) (by omega) (by omega)).mpr h)
                    exfalso; omega
                | succ r35_7 ih35_7 =>
                  intro k35_7 t35_7 hk_t35_7 e_t35_7 
                  refine j_iload X 5 dX12_multiply_35 rfl (q := 37) rfl ?_
                  refine j_bipush (v := nI 16) X dX12_multiply_37 (by decide) (q := 39) rfl ?_
                  refine j_icmp_ge (tgt := 97) X dX12_multiply_39 (by decide) (q := 42) rfl (fun c9 => ?_) (fun c9 => ?_)
                  · skip
                    have c9 : 16 ≤ k35_7 := (nI_leI (a := 16) (b := k35_7) (by omega) (by omega)).mp c9
                    exfalso; omega
                  · skip
                    have c9 : ¬ 16 ≤ k35_7 := fun h => c9 ((nI_leI (a := 16) (b := k35_7) (by omega) (by omega)).mpr h)
                    refine j_lload X 4 dX12_multiply_42 rfl (q := 44) rfl ?_
                    refine j_aload_n X 0 dX12_multiply_44 rfl (q := 45) rfl ?_
                    refine j_get (f := 73) X 0 inT12 rfl rfl (by decide) mw_X12_multiply_0 rfl dX12_multiply_45 (q := 48) rfl ?_
                    refine j_iload_n X 3 dX12_multiply_48 rfl (q := 49) rfl ?_
                    refine j_iload X 5 dX12_multiply_49 rfl (q := 51) rfl ?_
                    refine j_iadd X dX12_multiply_51 (q := 52) rfl ?_
                    refine j_eqi (nI_add _ _) ?_
                    refine k_iald X 1 rfl (vp_in_nI (by omega) (by omega)) (nI_clamp (by omega)) dX12_multiply_52 (q := 53) rfl ?_
                    refine j_i2l X dX12_multiply_53 (q := 54) rfl ?_
                    refine j_ladd X dX12_multiply_54 (q := 55) rfl ?_
                    refine j_aload_n X 1 dX12_multiply_55 rfl (q := 56) rfl ?_
                    refine j_iload_n X 3 dX12_multiply_56 rfl (q := 57) rfl ?_
                    refine k_iald X 2 rfl (vp_in_nI (by omega) (by omega)) (nI_clamp (by omega)) dX12_multiply_57 (q := 58) rfl ?_
                    refine j_i2l X dX12_multiply_58 (q := 59) rfl ?_
                    refine j_aload_n X 2 dX12_multiply_59 rfl (q := 60) rfl ?_
                    refine j_iload X 5 dX12_multiply_60 rfl (q := 62) rfl ?_
                    refine k_iald X 3 rfl (vp_in_nI (by omega) (by omega)) (nI_clamp (by omega)) dX12_multiply_62 (q := 63) rfl ?_
                    refine j_i2l X dX12_multiply_63 (q := 64) rfl ?_
                    refine j_lmul X dX12_multiply_64 (q := 65) rfl ?_
                    refine j_ladd X dX12_multiply_65 (q := 66) rfl ?_
                    refine j_topl (fun y10 e_y10 => ?_)
                    refine j_lstore (lv' := [(4, .long y10), (0, .ref a_this), (1, .ref a_p1), (2, .ref a_p2), (3, .int (nI k23_3)), (6, .int (nI k35_7))]) X dX12_multiply_66 (by decide) rfl (q := 68) rfl ?_
                    refine j_aload_n X 1 dX12_multiply_68 rfl (q := 69) rfl ?_
                    refine j_get (f := 73) X 0 inT12 rfl rfl (by decide) mw_X12_multiply_0 rfl dX12_multiply_69 (q := 72) rfl ?_
                    refine j_iload_n X 4 dX12_multiply_72 rfl (q := 73) rfl ?_
                    refine j_iload X 5 dX12_multiply_73 rfl (q := 75) rfl ?_
                    refine j_iadd X dX12_multiply_75 (q := 76) rfl ?_
                    refine j_eqi (nI_add _ _) ?_
                    refine j_lload X 0 dX12_multiply_76 rfl (q := 78) rfl ?_
                    refine j_ldc2 X mw_X12_multiply_1 dX12_multiply_78 (q := 81) rfl ?_
                    refine j_land X dX12_multiply_81 (q := 82) rfl ?_
                    refine j_l2i X dX12_multiply_82 (q := 83) rfl ?_
                    refine j_topi (fun y11 e_y11 => ?_)
                    refine k_iast (ws2 := [(a_this, .inr (12, mfs ad v_thrown v_connections (nI v_size) (nI v_ids) (nI v_dataAll) (nI v_putCount) (nI v_waiting) (nI v_readSize) v_power v_left v_since v_changes (nI v_rowSize))), (ad 73, .inl (ct 0, 32, .inl (upd t35_7.1 (k23_3 + k35_7) y11))), (a_p1, .inl (ct 0, 16, .inl f_p1)), (a_p2, .inl (ct 0, 16, .inl f_p2))]) X 1 rfl (vp_in_nI (by omega) (by omega)) (nI_clamp (by omega)) dX12_multiply_83 rfl (q := 84) rfl ?_
                    refine j_lload X 0 dX12_multiply_84 rfl (q := 86) rfl ?_
                    refine j_bipush (v := nI 16) X dX12_multiply_86 (by decide) (q := 88) rfl ?_
                    refine j_lshr X dX12_multiply_88 (q := 89) rfl ?_
                    refine j_topl (fun y12 e_y12 => ?_)
                    refine j_lstore (lv' := [(4, .long y12), (0, .ref a_this), (1, .ref a_p1), (2, .ref a_p2), (3, .int (nI k23_3)), (6, .int (nI k35_7))]) X dX12_multiply_89 (by decide) rfl (q := 91) rfl ?_
                    refine j_iinc (v := nI (k35_7 + 1)) (lv' := [(6, .int (nI (k35_7 + 1))), (4, .long y12), (0, .ref a_this), (1, .ref a_p1), (2, .ref a_p2), (3, .int (nI k23_3))]) X 5 dX12_multiply_91 rfl (nI_inc _ 1) (by decide) rfl (q := 94) rfl ?_
                    refine j_goto (tgt := 35) X dX12_multiply_94 (by decide) ?_
                    refine j_lv (lv' := [(0, .ref a_this), (1, .ref a_p1), (2, .ref a_p2), (3, .int (nI k23_3)), (4, .long y12), (6, .int (nI (k35_7 + 1)))]) [2, 3, 4, 5, 1, 0] rfl ?_
                    have hb : (X12_multiply_l35 f_p1 f_p2 k23_3) k35_7 t35_7 = (upd t35_7.1 (k23_3 + k35_7) y11, y12) := (by subst e_y10; subst e_y11; subst e_y12; rfl)
                    exact ih35_7 (k35_7 + 1) ((upd t35_7.1 (k23_3 + k35_7) y11, y12)) (by omega) (by rw [itr_s, ← e_t35_7]; exact hb.symm) 
              exact LP35_7 16 0 ((t23_3, y6)) (by omega) (itr_0 _ _).symm 
        exact LP23_3 16 0 t2_1 (by omega) (itr_0 _ _).symm 
      · skip
        have c2 : ¬ 32 ≤ 32 := fun h => c2 ((nI_leI (a := 32) (b := 32) (by omega) (by omega)).mpr h)
        exfalso; omega
    | succ r2_1 ih2_1 =>
      intro k2_1 t2_1 hk_t2_1 e_t2_1 
      refine j_iload_n X 3 dX12_multiply_2 rfl (q := 3) rfl ?_
      refine j_bipush (v := nI 32) X dX12_multiply_3 (by decide) (q := 5) rfl ?_
      refine j_icmp_ge (tgt := 21) X dX12_multiply_5 (by decide) (q := 8) rfl (fun c13 => ?_) (fun c13 => ?_)
      · skip
        have c13 : 32 ≤ k2_1 := (nI_leI (a := 32) (b := k2_1) (by omega) (by omega)).mp c13
        exfalso; omega
      · skip
        have c13 : ¬ 32 ≤ k2_1 := fun h => c13 ((nI_leI (a := 32) (b := k2_1) (by omega) (by omega)).mpr h)
        refine j_aload_n X 0 dX12_multiply_8 rfl (q := 9) rfl ?_
        refine j_get (f := 73) X 0 inT12 rfl rfl (by decide) mw_X12_multiply_0 rfl dX12_multiply_9 (q := 12) rfl ?_
        refine j_iload_n X 3 dX12_multiply_12 rfl (q := 13) rfl ?_
        refine j_iconst (v := nI 0) X dX12_multiply_13 (by decide) (q := 14) rfl ?_
        refine k_iast (ws2 := [(a_this, .inr (12, mfs ad v_thrown v_connections (nI v_size) (nI v_ids) (nI v_dataAll) (nI v_putCount) (nI v_waiting) (nI v_readSize) v_power v_left v_since v_changes (nI v_rowSize))), (ad 73, .inl (ct 0, 32, .inl (upd t2_1 k2_1 (nI 0)))), (a_p1, .inl (ct 0, 16, .inl f_p1)), (a_p2, .inl (ct 0, 16, .inl f_p2))]) X 1 rfl (vp_in_nI (by omega) (by omega)) (nI_clamp (by omega)) dX12_multiply_14 rfl (q := 15) rfl ?_
        refine j_iinc (v := nI (k2_1 + 1)) (lv' := [(3, .int (nI (k2_1 + 1))), (0, .ref a_this), (1, .ref a_p1), (2, .ref a_p2)]) X 3 dX12_multiply_15 rfl (nI_inc _ 1) (by decide) rfl (q := 18) rfl ?_
        refine j_goto (tgt := 2) X dX12_multiply_18 (by decide) ?_
        refine j_lv (lv' := [(0, .ref a_this), (1, .ref a_p1), (2, .ref a_p2), (3, .int (nI (k2_1 + 1)))]) [1, 2, 3, 0] rfl ?_
        have hb : X12_multiply_l2 k2_1 t2_1 = upd t2_1 k2_1 (nI 0) := rfl
        exact ih2_1 (k2_1 + 1) (upd t2_1 k2_1 (nI 0)) (by omega) (by rw [itr_s, ← e_t2_1]; exact hb.symm) 
  exact LP2_1 32 0 f_product (by omega) (itr_0 _ _).symm 
theorem cal_X12_multiply : Cal yX12_multiply cX12_multiply 7 none 2 := ⟨tb_at 120 (by decide +kernel) (by decide +kernel), tb_at 1227 (by decide +kernel) (by decide +kernel), by decide +kernel, by decide +kernel, by decide +kernel⟩
theorem cwi_X12_multiply : Cond.instanceMethod yX12_multiply ∈ tb := tb_at 1226 (by decide +kernel) (by decide +kernel)
theorem cws_X12_multiply : Cond.selects yX12_multiply.cls yX12_multiply yX12_multiply ∈ tb := tb_at 47 (by decide +kernel) (by decide +kernel)
theorem mw_X12_multiply_s_0 : Cond.fieldLink "GuardedTreeModel" 274 "GuardedTreeModel" "product" "[I" ∈ tb := tb_at 1310 (by decide +kernel) (by decide +kernel)
theorem mw_X12_multiply_s_1 : Cond.constantLong "GuardedTreeModel" 345 65535 ∈ tb := tb_at 1228 (by decide +kernel) (by decide +kernel)
set_option maxHeartbeats 4000000 in
set_option maxRecDepth 100000 in
theorem c_X12_multiply_s (l : Launch) (D : va_G) (ct : Nat → ClassId) (ts : Nat → Nat) (a_this a_p1 : Nat) (ad : Nat → Nat) (v_thrown : Int32) (v_connections : Int32) (v_size : Nat) (v_ids : Nat) (v_dataAll : Nat) (v_putCount : Nat) (v_waiting : Nat) (v_readSize : Nat) (v_power : Int32) (v_left : Int32) (v_since : Int32) (v_changes : Int32) (v_rowSize : Nat) (f_product : Nat → Int32) (f_p1 : Nat → Int32)    (sz : Nat) : Met l yX12_multiply (Cond.code yX12_multiply cX12_multiply 7 none :: tb) { frames := 0, cells := 0, slots := 0, locals := 0 } (PcG D ct SXL ts [.ref a_this, .ref a_p1, .ref a_p1] [(a_this, .inr (12, mfs ad v_thrown v_connections (nI v_size) (nI v_ids) (nI v_dataAll) (nI v_putCount) (nI v_waiting) (nI v_readSize) v_power v_left v_since v_changes (nI v_rowSize))), (ad 73, .inl (ct 0, 32, .inl f_product)), (a_p1, .inl (ct 0, 16, .inl f_p1))] sz) (va_Qv (fun u : (Nat → Int32) => u = f_X12_multiply f_product f_p1 f_p1) (fun u => BG D ct (va_A [(a_this, .inr (12, mfs ad v_thrown v_connections (nI v_size) (nI v_ids) (nI v_dataAll) (nI v_putCount) (nI v_waiting) (nI v_readSize) v_power v_left v_since v_changes (nI v_rowSize))), (ad 73, .inl (ct 0, 32, .inl f_product)), (a_p1, .inl (ct 0, 16, .inl f_p1))] sz) [(a_this, .inr (12, mfs ad v_thrown v_connections (nI v_size) (nI v_ids) (nI v_dataAll) (nI v_putCount) (nI v_waiting) (nI v_readSize) v_power v_left v_since v_changes (nI v_rowSize))), (ad 73, .inl (ct 0, 32, .inl u)), (a_p1, .inl (ct 0, 16, .inl f_p1))]) (va_A [(a_this, .inr (12, mfs ad v_thrown v_connections (nI v_size) (nI v_ids) (nI v_dataAll) (nI v_putCount) (nI v_waiting) (nI v_readSize) v_power v_left v_since v_changes (nI v_rowSize))), (ad 73, .inl (ct 0, 32, .inl f_product)), (a_p1, .inl (ct 0, 16, .inl f_p1))] sz)) 0 0 (va_A [(a_this, .inr (12, mfs ad v_thrown v_connections (nI v_size) (nI v_ids) (nI v_dataAll) (nI v_putCount) (nI v_waiting) (nI v_readSize) v_power v_left v_since v_changes (nI v_rowSize))), (ad 73, .inl (ct 0, 32, .inl f_product)), (a_p1, .inl (ct 0, 16, .inl f_p1))] sz) := by
  refine metJ (QcF := fun A => va_Qv (fun u : (Nat → Int32) => u = f_X12_multiply f_product f_p1 f_p1) (fun u => BG D ct A [(a_this, .inr (12, mfs ad v_thrown v_connections (nI v_size) (nI v_ids) (nI v_dataAll) (nI v_putCount) (nI v_waiting) (nI v_readSize) v_power v_left v_since v_changes (nI v_rowSize))), (ad 73, .inl (ct 0, 32, .inl u)), (a_p1, .inl (ct 0, 16, .inl f_p1))]) A) (by decide) (Nat.le_of_ble_eq_true rfl) ?_
  intro p e s m below meth c A X hnm
  obtain ⟨Q, hQ⟩ : ∃ Q, Q = MQ below (va_Qv (fun u : (Nat → Int32) => u = f_X12_multiply f_product f_p1 f_p1) (fun u => BG D ct A [(a_this, .inr (12, mfs ad v_thrown v_connections (nI v_size) (nI v_ids) (nI v_dataAll) (nI v_putCount) (nI v_waiting) (nI v_readSize) v_power v_left v_since v_changes (nI v_rowSize))), (ad 73, .inl (ct 0, 32, .inl u)), (a_p1, .inl (ct 0, 16, .inl f_p1))]) A) [.ref a_this, .ref a_p1, .ref a_p1].toArray s 0 0 A := ⟨_, rfl⟩
  rw [← hQ]
  refine j_lve (lv' := [(0, .ref a_this), (1, .ref a_p1), (2, .ref a_p1)]) rfl ?_
  refine j_iconst (v := nI 0) X dX12_multiply_0 (by decide) (q := 1) rfl ?_
  refine j_istore_n (lv' := [(3, .int (nI 0)), (0, .ref a_this), (1, .ref a_p1), (2, .ref a_p1)]) X dX12_multiply_1 (by decide) rfl (q := 2) rfl ?_
  refine j_lv (lv' := [(0, .ref a_this), (1, .ref a_p1), (2, .ref a_p1), (3, .int (nI 0))]) [1, 2, 3, 0] rfl ?_
  have LP2_1 : ∀ (r2_1 k2_1 : Nat) (t2_1 : (Nat → Int32)), k2_1 + r2_1 = 32 → t2_1 = itr X12_multiply_l2 f_product k2_1 → J p l e { frames := 0, cells := 0, slots := 0, locals := 0 } s m [.ref a_this, .ref a_p1, .ref a_p1].toArray below meth c D A 7 Q 0 0 [(a_this, .inr (12, mfs ad v_thrown v_connections (nI v_size) (nI v_ids) (nI v_dataAll) (nI v_putCount) (nI v_waiting) (nI v_readSize) v_power v_left v_since v_changes (nI v_rowSize))), (ad 73, .inl (ct 0, 32, .inl t2_1)), (a_p1, .inl (ct 0, 16, .inl f_p1))] [(0, .ref a_this), (1, .ref a_p1), (2, .ref a_p1), (3, .int (nI k2_1))] [] 2 := by
    intro r2_1
    induction r2_1 with
    | zero =>
      intro k2_1 t2_1 hk_t2_1 e_t2_1 
      have hkk_t2_1 : 32 = k2_1 := by omega
      subst hkk_t2_1
      refine j_iload_n X 3 dX12_multiply_2 rfl (q := 3) rfl ?_
      refine j_bipush (v := nI 32) X dX12_multiply_3 (by decide) (q := 5) rfl ?_
      refine j_icmp_ge (tgt := 21) X dX12_multiply_5 (by decide) (q := 8) rfl (fun c2 => ?_) (fun c2 => ?_)
      · skip
        have c2 : 32 ≤ 32 := (nI_leI (a := 32) (b := 32) (by omega) (by omega)).mp c2
        refine j_iconst (v := nI 0) X dX12_multiply_21 (by decide) (q := 22) rfl ?_
        refine j_istore_n (lv' := [(3, .int (nI 0)), (0, .ref a_this), (1, .ref a_p1), (2, .ref a_p1)]) X dX12_multiply_22 (by decide) rfl (q := 23) rfl ?_
        refine j_lv (lv' := [(0, .ref a_this), (1, .ref a_p1), (2, .ref a_p1), (3, .int (nI 0))]) [1, 2, 3, 0] rfl ?_
        have LP23_3 : ∀ (r23_3 k23_3 : Nat) (t23_3 : (Nat → Int32)), k23_3 + r23_3 = 16 → t23_3 = itr (X12_multiply_l23 f_p1 f_p1) t2_1 k23_3 → J p l e { frames := 0, cells := 0, slots := 0, locals := 0 } s m [.ref a_this, .ref a_p1, .ref a_p1].toArray below meth c D A 7 Q 0 0 [(a_this, .inr (12, mfs ad v_thrown v_connections (nI v_size) (nI v_ids) (nI v_dataAll) (nI v_putCount) (nI v_waiting) (nI v_readSize) v_power v_left v_since v_changes (nI v_rowSize))), (ad 73, .inl (ct 0, 32, .inl t23_3)), (a_p1, .inl (ct 0, 16, .inl f_p1))] [(0, .ref a_this), (1, .ref a_p1), (2, .ref a_p1), (3, .int (nI k23_3))] [] 23 := by
          intro r23_3
          induction r23_3 with
          | zero =>
            intro k23_3 t23_3 hk_t23_3 e_t23_3 
            have hkk_t23_3 : 16 = k23_3 := by omega
            subst hkk_t23_3
            refine j_iload_n X 3 dX12_multiply_23 rfl (q := 24) rfl ?_
            refine j_bipush (v := nI 16) X dX12_multiply_24 (by decide) (q := 26) rfl ?_
            refine j_icmp_ge (tgt := 115) X dX12_multiply_26 (by decide) (q := 29) rfl (fun c4 => ?_) (fun c4 => ?_)
            · skip
              have c4 : 16 ≤ 16 := (nI_leI (a := 16) (b := 16) (by omega) (by omega)).mp c4
              rw [hQ]
              exact j_vret X t23_3 dX12_multiply_115 (by subst e_t2_1; subst e_t23_3; rfl) rfl
            · skip
              have c4 : ¬ 16 ≤ 16 := fun h => c4 ((nI_leI (a := 16) (b := 16) (by omega) (by omega)).mpr h)
              exfalso; omega
          | succ r23_3 ih23_3 =>
            intro k23_3 t23_3 hk_t23_3 e_t23_3 
            refine j_iload_n X 3 dX12_multiply_23 rfl (q := 24) rfl ?_
            refine j_bipush (v := nI 16) X dX12_multiply_24 (by decide) (q := 26) rfl ?_
            refine j_icmp_ge (tgt := 115) X dX12_multiply_26 (by decide) (q := 29) rfl (fun c5 => ?_) (fun c5 => ?_)
            · skip
              have c5 : 16 ≤ k23_3 := (nI_leI (a := 16) (b := k23_3) (by omega) (by omega)).mp c5
              exfalso; omega
            · skip
              have c5 : ¬ 16 ≤ k23_3 := fun h => c5 ((nI_leI (a := 16) (b := k23_3) (by omega) (by omega)).mpr h)
              refine j_lconst (v := 0) X dX12_multiply_29 (by decide) (q := 30) rfl ?_
              refine j_topl (fun y6 e_y6 => ?_)
              refine j_lstore (lv' := [(4, .long y6), (0, .ref a_this), (1, .ref a_p1), (2, .ref a_p1), (3, .int (nI k23_3))]) X dX12_multiply_30 (by decide) rfl (q := 32) rfl ?_
              refine j_iconst (v := nI 0) X dX12_multiply_32 (by decide) (q := 33) rfl ?_
              refine j_istore (lv' := [(6, .int (nI 0)), (4, .long y6), (0, .ref a_this), (1, .ref a_p1), (2, .ref a_p1), (3, .int (nI k23_3))]) X dX12_multiply_33 (by decide) rfl (q := 35) rfl ?_
              refine j_lv (lv' := [(0, .ref a_this), (1, .ref a_p1), (2, .ref a_p1), (3, .int (nI k23_3)), (4, .long y6), (6, .int (nI 0))]) [2, 3, 4, 5, 1, 0] rfl ?_
              have LP35_7 : ∀ (r35_7 k35_7 : Nat) (t35_7 : (Nat → Int32) × (Int64)), k35_7 + r35_7 = 16 → t35_7 = itr (X12_multiply_l35 f_p1 f_p1 k23_3) ((t23_3, y6)) k35_7 → J p l e { frames := 0, cells := 0, slots := 0, locals := 0 } s m [.ref a_this, .ref a_p1, .ref a_p1].toArray below meth c D A 7 Q 0 0 [(a_this, .inr (12, mfs ad v_thrown v_connections (nI v_size) (nI v_ids) (nI v_dataAll) (nI v_putCount) (nI v_waiting) (nI v_readSize) v_power v_left v_since v_changes (nI v_rowSize))), (ad 73, .inl (ct 0, 32, .inl t35_7.1)), (a_p1, .inl (ct 0, 16, .inl f_p1))] [(0, .ref a_this), (1, .ref a_p1), (2, .ref a_p1), (3, .int (nI k23_3)), (4, .long t35_7.2), (6, .int (nI k35_7))] [] 35 := by
                intro r35_7
                induction r35_7 with
                | zero =>
                  intro k35_7 t35_7 hk_t35_7 e_t35_7 
                  have hkk_t35_7 : 16 = k35_7 := by omega
                  subst hkk_t35_7
                  refine j_iload X 5 dX12_multiply_35 rfl (q := 37) rfl ?_
                  refine j_bipush (v := nI 16) X dX12_multiply_37 (by decide) (q := 39) rfl ?_
                  refine j_icmp_ge (tgt := 97) X dX12_multiply_39 (by decide) (q := 42) rfl (fun c8 => ?_) (fun c8 => ?_)
                  · skip
                    have c8 : 16 ≤ 16 := (nI_leI (a := 16) (b := 16) (by omega) (by omega)).mp c8
                    refine j_aload_n X 0 dX12_multiply_97 rfl (q := 98) rfl ?_
                    refine j_get (f := 73) X 0 inT12 rfl rfl (by decide) mw_X12_multiply_s_0 rfl dX12_multiply_98 (q := 101) rfl ?_
                    refine j_iload_n X 3 dX12_multiply_101 rfl (q := 102) rfl ?_
                    refine j_bipush (v := nI 16) X dX12_multiply_102 (by decide) (q := 104) rfl ?_
                    refine j_iadd X dX12_multiply_104 (q := 105) rfl ?_
                    refine j_eqi (nI_add _ _) ?_
                    refine j_lload X 4 dX12_multiply_105 rfl (q := 107) rfl ?_
                    refine j_l2i X dX12_multiply_107 (q := 108) rfl ?_
                    refine k_iast (ws2 := [(a_this, .inr (12, mfs ad v_thrown v_connections (nI v_size) (nI v_ids) (nI v_dataAll) (nI v_putCount) (nI v_waiting) (nI v_readSize) v_power v_left v_since v_changes (nI v_rowSize))), (ad 73, .inl (ct 0, 32, .inl (upd t35_7.1 (k23_3 + 16) t35_7.2.toInt32))), (a_p1, .inl (ct 0, 16, .inl f_p1))]) X 1 rfl (vp_in_nI (by omega) (by omega)) (nI_clamp (by omega)) dX12_multiply_108 rfl (q := 109) rfl ?_
                    refine j_iinc (v := nI (k23_3 + 1)) (lv' := [(3, .int (nI (k23_3 + 1))), (0, .ref a_this), (1, .ref a_p1), (2, .ref a_p1), (4, .long t35_7.2), (6, .int (nI 16))]) X 3 dX12_multiply_109 rfl (nI_inc _ 1) (by decide) rfl (q := 112) rfl ?_
                    refine j_goto (tgt := 23) X dX12_multiply_112 (by decide) ?_
                    refine j_lv (lv' := [(0, .ref a_this), (1, .ref a_p1), (2, .ref a_p1), (3, .int (nI (k23_3 + 1)))]) [1, 2, 3, 0] rfl ?_
                    have hb : (X12_multiply_l23 f_p1 f_p1) k23_3 t23_3 = upd t35_7.1 (k23_3 + 16) t35_7.2.toInt32 := (by subst e_y6; subst e_t35_7; rfl)
                    exact ih23_3 (k23_3 + 1) (upd t35_7.1 (k23_3 + 16) t35_7.2.toInt32) (by omega) (by rw [itr_s, ← e_t23_3]; exact hb.symm) 
                  · skip
                    have c8 : ¬ 16 ≤ 16 := fun h => c8 ((nI_leI (a := 16) (b := 16) (by omega) (by omega)).mpr h)
                    exfalso; omega
                | succ r35_7 ih35_7 =>
                  intro k35_7 t35_7 hk_t35_7 e_t35_7 
                  refine j_iload X 5 dX12_multiply_35 rfl (q := 37) rfl ?_
                  refine j_bipush (v := nI 16) X dX12_multiply_37 (by decide) (q := 39) rfl ?_
                  refine j_icmp_ge (tgt := 97) X dX12_multiply_39 (by decide) (q := 42) rfl (fun c9 => ?_) (fun c9 => ?_)
                  · skip
                    have c9 : 16 ≤ k35_7 := (nI_leI (a := 16) (b := k35_7) (by omega) (by omega)).mp c9
                    exfalso; omega
                  · skip
                    have c9 : ¬ 16 ≤ k35_7 := fun h => c9 ((nI_leI (a := 16) (b := k35_7) (by omega) (by omega)).mpr h)
                    refine j_lload X 4 dX12_multiply_42 rfl (q := 44) rfl ?_
                    refine j_aload_n X 0 dX12_multiply_44 rfl (q := 45) rfl ?_
                    refine j_get (f := 73) X 0 inT12 rfl rfl (by decide) mw_X12_multiply_s_0 rfl dX12_multiply_45 (q := 48) rfl ?_
                    refine j_iload_n X 3 dX12_multiply_48 rfl (q := 49) rfl ?_
                    refine j_iload X 5 dX12_multiply_49 rfl (q := 51) rfl ?_
                    refine j_iadd X dX12_multiply_51 (q := 52) rfl ?_
                    refine j_eqi (nI_add _ _) ?_
                    refine k_iald X 1 rfl (vp_in_nI (by omega) (by omega)) (nI_clamp (by omega)) dX12_multiply_52 (q := 53) rfl ?_
                    refine j_i2l X dX12_multiply_53 (q := 54) rfl ?_
                    refine j_ladd X dX12_multiply_54 (q := 55) rfl ?_
                    refine j_aload_n X 1 dX12_multiply_55 rfl (q := 56) rfl ?_
                    refine j_iload_n X 3 dX12_multiply_56 rfl (q := 57) rfl ?_
                    refine k_iald X 2 rfl (vp_in_nI (by omega) (by omega)) (nI_clamp (by omega)) dX12_multiply_57 (q := 58) rfl ?_
                    refine j_i2l X dX12_multiply_58 (q := 59) rfl ?_
                    refine j_aload_n X 2 dX12_multiply_59 rfl (q := 60) rfl ?_
                    refine j_iload X 5 dX12_multiply_60 rfl (q := 62) rfl ?_
                    refine k_iald X 2 rfl (vp_in_nI (by omega) (by omega)) (nI_clamp (by omega)) dX12_multiply_62 (q := 63) rfl ?_
                    refine j_i2l X dX12_multiply_63 (q := 64) rfl ?_
                    refine j_lmul X dX12_multiply_64 (q := 65) rfl ?_
                    refine j_ladd X dX12_multiply_65 (q := 66) rfl ?_
                    refine j_topl (fun y10 e_y10 => ?_)
                    refine j_lstore (lv' := [(4, .long y10), (0, .ref a_this), (1, .ref a_p1), (2, .ref a_p1), (3, .int (nI k23_3)), (6, .int (nI k35_7))]) X dX12_multiply_66 (by decide) rfl (q := 68) rfl ?_
                    refine j_aload_n X 1 dX12_multiply_68 rfl (q := 69) rfl ?_
                    refine j_get (f := 73) X 0 inT12 rfl rfl (by decide) mw_X12_multiply_s_0 rfl dX12_multiply_69 (q := 72) rfl ?_
                    refine j_iload_n X 4 dX12_multiply_72 rfl (q := 73) rfl ?_
                    refine j_iload X 5 dX12_multiply_73 rfl (q := 75) rfl ?_
                    refine j_iadd X dX12_multiply_75 (q := 76) rfl ?_
                    refine j_eqi (nI_add _ _) ?_
                    refine j_lload X 0 dX12_multiply_76 rfl (q := 78) rfl ?_
                    refine j_ldc2 X mw_X12_multiply_s_1 dX12_multiply_78 (q := 81) rfl ?_
                    refine j_land X dX12_multiply_81 (q := 82) rfl ?_
                    refine j_l2i X dX12_multiply_82 (q := 83) rfl ?_
                    refine j_topi (fun y11 e_y11 => ?_)
                    refine k_iast (ws2 := [(a_this, .inr (12, mfs ad v_thrown v_connections (nI v_size) (nI v_ids) (nI v_dataAll) (nI v_putCount) (nI v_waiting) (nI v_readSize) v_power v_left v_since v_changes (nI v_rowSize))), (ad 73, .inl (ct 0, 32, .inl (upd t35_7.1 (k23_3 + k35_7) y11))), (a_p1, .inl (ct 0, 16, .inl f_p1))]) X 1 rfl (vp_in_nI (by omega) (by omega)) (nI_clamp (by omega)) dX12_multiply_83 rfl (q := 84) rfl ?_
                    refine j_lload X 0 dX12_multiply_84 rfl (q := 86) rfl ?_
                    refine j_bipush (v := nI 16) X dX12_multiply_86 (by decide) (q := 88) rfl ?_
                    refine j_lshr X dX12_multiply_88 (q := 89) rfl ?_
                    refine j_topl (fun y12 e_y12 => ?_)
                    refine j_lstore (lv' := [(4, .long y12), (0, .ref a_this), (1, .ref a_p1), (2, .ref a_p1), (3, .int (nI k23_3)), (6, .int (nI k35_7))]) X dX12_multiply_89 (by decide) rfl (q := 91) rfl ?_
                    refine j_iinc (v := nI (k35_7 + 1)) (lv' := [(6, .int (nI (k35_7 + 1))), (4, .long y12), (0, .ref a_this), (1, .ref a_p1), (2, .ref a_p1), (3, .int (nI k23_3))]) X 5 dX12_multiply_91 rfl (nI_inc _ 1) (by decide) rfl (q := 94) rfl ?_
                    refine j_goto (tgt := 35) X dX12_multiply_94 (by decide) ?_
                    refine j_lv (lv' := [(0, .ref a_this), (1, .ref a_p1), (2, .ref a_p1), (3, .int (nI k23_3)), (4, .long y12), (6, .int (nI (k35_7 + 1)))]) [2, 3, 4, 5, 1, 0] rfl ?_
                    have hb : (X12_multiply_l35 f_p1 f_p1 k23_3) k35_7 t35_7 = (upd t35_7.1 (k23_3 + k35_7) y11, y12) := (by subst e_y10; subst e_y11; subst e_y12; rfl)
                    exact ih35_7 (k35_7 + 1) ((upd t35_7.1 (k23_3 + k35_7) y11, y12)) (by omega) (by rw [itr_s, ← e_t35_7]; exact hb.symm) 
              exact LP35_7 16 0 ((t23_3, y6)) (by omega) (itr_0 _ _).symm 
        exact LP23_3 16 0 t2_1 (by omega) (itr_0 _ _).symm 
      · skip
        have c2 : ¬ 32 ≤ 32 := fun h => c2 ((nI_leI (a := 32) (b := 32) (by omega) (by omega)).mpr h)
        exfalso; omega
    | succ r2_1 ih2_1 =>
      intro k2_1 t2_1 hk_t2_1 e_t2_1 
      refine j_iload_n X 3 dX12_multiply_2 rfl (q := 3) rfl ?_
      refine j_bipush (v := nI 32) X dX12_multiply_3 (by decide) (q := 5) rfl ?_
      refine j_icmp_ge (tgt := 21) X dX12_multiply_5 (by decide) (q := 8) rfl (fun c13 => ?_) (fun c13 => ?_)
      · skip
        have c13 : 32 ≤ k2_1 := (nI_leI (a := 32) (b := k2_1) (by omega) (by omega)).mp c13
        exfalso; omega
      · skip
        have c13 : ¬ 32 ≤ k2_1 := fun h => c13 ((nI_leI (a := 32) (b := k2_1) (by omega) (by omega)).mpr h)
        refine j_aload_n X 0 dX12_multiply_8 rfl (q := 9) rfl ?_
        refine j_get (f := 73) X 0 inT12 rfl rfl (by decide) mw_X12_multiply_s_0 rfl dX12_multiply_9 (q := 12) rfl ?_
        refine j_iload_n X 3 dX12_multiply_12 rfl (q := 13) rfl ?_
        refine j_iconst (v := nI 0) X dX12_multiply_13 (by decide) (q := 14) rfl ?_
        refine k_iast (ws2 := [(a_this, .inr (12, mfs ad v_thrown v_connections (nI v_size) (nI v_ids) (nI v_dataAll) (nI v_putCount) (nI v_waiting) (nI v_readSize) v_power v_left v_since v_changes (nI v_rowSize))), (ad 73, .inl (ct 0, 32, .inl (upd t2_1 k2_1 (nI 0)))), (a_p1, .inl (ct 0, 16, .inl f_p1))]) X 1 rfl (vp_in_nI (by omega) (by omega)) (nI_clamp (by omega)) dX12_multiply_14 rfl (q := 15) rfl ?_
        refine j_iinc (v := nI (k2_1 + 1)) (lv' := [(3, .int (nI (k2_1 + 1))), (0, .ref a_this), (1, .ref a_p1), (2, .ref a_p1)]) X 3 dX12_multiply_15 rfl (nI_inc _ 1) (by decide) rfl (q := 18) rfl ?_
        refine j_goto (tgt := 2) X dX12_multiply_18 (by decide) ?_
        refine j_lv (lv' := [(0, .ref a_this), (1, .ref a_p1), (2, .ref a_p1), (3, .int (nI (k2_1 + 1)))]) [1, 2, 3, 0] rfl ?_
        have hb : X12_multiply_l2 k2_1 t2_1 = upd t2_1 k2_1 (nI 0) := rfl
        exact ih2_1 (k2_1 + 1) (upd t2_1 k2_1 (nI 0)) (by omega) (by rw [itr_s, ← e_t2_1]; exact hb.symm) 
  exact LP2_1 32 0 f_product (by omega) (itr_0 _ _).symm 
theorem mw_X12_isLess_0 : Cond.fieldLink "GuardedTreeModel" 277 "GuardedTreeModel" "rest" "[I" ∈ tb := tb_at 1311 (by decide +kernel) (by decide +kernel)
theorem mw_X12_isLess_1 : Cond.fieldLink "GuardedTreeModel" 262 "GuardedTreeModel" "m" "[I" ∈ tb := tb_at 1306 (by decide +kernel) (by decide +kernel)
theorem dX12_isLess_0 : decode cX12_isLess 0 = .ok (.bipush 17, 2) := by decide +kernel
theorem dX12_isLess_2 : decode cX12_isLess 2 = .ok (.istore_n 2, 1) := by decide +kernel
theorem dX12_isLess_3 : decode cX12_isLess 3 = .ok (.iload_n 2, 1) := by decide +kernel
theorem dX12_isLess_4 : decode cX12_isLess 4 = .ok (.ifCond .lt 52, 3) := by decide +kernel
theorem dX12_isLess_7 : decode cX12_isLess 7 = .ok (.iload_n 2, 1) := by decide +kernel
theorem dX12_isLess_8 : decode cX12_isLess 8 = .ok (.bipush 16, 2) := by decide +kernel
theorem dX12_isLess_10 : decode cX12_isLess 10 = .ok (.if_icmp .ge 12, 3) := by decide +kernel
theorem dX12_isLess_13 : decode cX12_isLess 13 = .ok (.aload_n 0, 1) := by decide +kernel
theorem dX12_isLess_14 : decode cX12_isLess 14 = .ok (.getfield 262, 3) := by decide +kernel
theorem dX12_isLess_17 : decode cX12_isLess 17 = .ok (.iload_n 2, 1) := by decide +kernel
theorem dX12_isLess_18 : decode cX12_isLess 18 = .ok (.iaload, 1) := by decide +kernel
theorem dX12_isLess_19 : decode cX12_isLess 19 = .ok (.goto 4, 3) := by decide +kernel
theorem dX12_isLess_22 : decode cX12_isLess 22 = .ok (.iconst 0, 1) := by decide +kernel
theorem dX12_isLess_23 : decode cX12_isLess 23 = .ok (.istore_n 3, 1) := by decide +kernel
theorem dX12_isLess_24 : decode cX12_isLess 24 = .ok (.aload_n 0, 1) := by decide +kernel
theorem dX12_isLess_25 : decode cX12_isLess 25 = .ok (.getfield 277, 3) := by decide +kernel
theorem dX12_isLess_28 : decode cX12_isLess 28 = .ok (.iload_n 2, 1) := by decide +kernel
theorem dX12_isLess_29 : decode cX12_isLess 29 = .ok (.iaload, 1) := by decide +kernel
theorem dX12_isLess_30 : decode cX12_isLess 30 = .ok (.iload_n 3, 1) := by decide +kernel
theorem dX12_isLess_31 : decode cX12_isLess 31 = .ok (.if_icmp .eq 19, 3) := by decide +kernel
theorem dX12_isLess_34 : decode cX12_isLess 34 = .ok (.aload_n 0, 1) := by decide +kernel
theorem dX12_isLess_35 : decode cX12_isLess 35 = .ok (.getfield 277, 3) := by decide +kernel
theorem dX12_isLess_38 : decode cX12_isLess 38 = .ok (.iload_n 2, 1) := by decide +kernel
theorem dX12_isLess_39 : decode cX12_isLess 39 = .ok (.iaload, 1) := by decide +kernel
theorem dX12_isLess_40 : decode cX12_isLess 40 = .ok (.iload_n 3, 1) := by decide +kernel
theorem dX12_isLess_41 : decode cX12_isLess 41 = .ok (.if_icmp .ge 7, 3) := by decide +kernel
theorem dX12_isLess_44 : decode cX12_isLess 44 = .ok (.iconst 1, 1) := by decide +kernel
theorem dX12_isLess_45 : decode cX12_isLess 45 = .ok (.goto 4, 3) := by decide +kernel
theorem dX12_isLess_48 : decode cX12_isLess 48 = .ok (.iconst 0, 1) := by decide +kernel
theorem dX12_isLess_49 : decode cX12_isLess 49 = .ok (.ireturn, 1) := by decide +kernel
theorem dX12_isLess_50 : decode cX12_isLess 50 = .ok (.iinc 2 (-1), 3) := by decide +kernel
theorem dX12_isLess_53 : decode cX12_isLess 53 = .ok (.goto (-50), 3) := by decide +kernel
theorem dX12_isLess_56 : decode cX12_isLess 56 = .ok (.iconst 0, 1) := by decide +kernel
theorem dX12_isLess_57 : decode cX12_isLess 57 = .ok (.ireturn, 1) := by decide +kernel
noncomputable def X12_isLess_m10 (f_m : Nat → Int32) (r3_1 : Nat) : (Int32) :=
  if 16 ≤ r3_1 then
  (nI 0)
  else
  (f_m r3_1)
noncomputable def X12_isLess_l3 (f_rest : Nat → Int32) (f_m : Nat → Int32) (r3_1 : Nat) (t3_1 : Unit) : (Unit) ⊕ (Int32) :=
  let g10_4 := X12_isLess_m10 f_m r3_1
  if (f_rest r3_1) = g10_4 then
  (.inl (()))
  else
  (if g10_4 ≤ (f_rest r3_1) then
  (.inr (nI 0))
  else
  (.inr (nI 1)))
noncomputable def f_X12_isLess (f_rest : Nat → Int32) (f_m : Nat → Int32) : Int32 :=
  match itxd (X12_isLess_l3 f_rest f_m) 18 (()) with
  | .inl t3_1 => (nI 0)
  | .inr r_3 => r_3
set_option maxHeartbeats 4000000 in
set_option maxRecDepth 100000 in
theorem c_X12_isLess (l : Launch) (D : va_G) (ct : Nat → ClassId) (ts : Nat → Nat) (a_this : Nat) (ad : Nat → Nat) (v_thrown : Int32) (v_connections : Int32) (v_size : Nat) (v_ids : Nat) (v_dataAll : Nat) (v_putCount : Nat) (v_waiting : Nat) (v_readSize : Nat) (v_power : Int32) (v_left : Int32) (v_since : Int32) (v_changes : Int32) (v_rowSize : Nat) (f_rest : Nat → Int32) (f_m : Nat → Int32) (x1 : Int32)    (sz : Nat) : Met l yX12_isLess (Cond.code yX12_isLess cX12_isLess 4 (some .boolean) :: tb) { frames := 0, cells := 0, slots := 0, locals := 0 } (PcG D ct SXL ts [.ref a_this, .int x1] [(a_this, .inr (12, mfs ad v_thrown v_connections (nI v_size) (nI v_ids) (nI v_dataAll) (nI v_putCount) (nI v_waiting) (nI v_readSize) v_power v_left v_since v_changes (nI v_rowSize))), (ad 74, .inl (ct 0, 18, .inl f_rest)), (ad 69, .inl (ct 0, 16, .inl f_m))] sz) (va_Qi (fun (r : Int32) (u : Unit) => r = f_X12_isLess f_rest f_m) (fun u => BG D ct (va_A [(a_this, .inr (12, mfs ad v_thrown v_connections (nI v_size) (nI v_ids) (nI v_dataAll) (nI v_putCount) (nI v_waiting) (nI v_readSize) v_power v_left v_since v_changes (nI v_rowSize))), (ad 74, .inl (ct 0, 18, .inl f_rest)), (ad 69, .inl (ct 0, 16, .inl f_m))] sz) [(a_this, .inr (12, mfs ad v_thrown v_connections (nI v_size) (nI v_ids) (nI v_dataAll) (nI v_putCount) (nI v_waiting) (nI v_readSize) v_power v_left v_since v_changes (nI v_rowSize))), (ad 74, .inl (ct 0, 18, .inl f_rest)), (ad 69, .inl (ct 0, 16, .inl f_m))]) (va_A [(a_this, .inr (12, mfs ad v_thrown v_connections (nI v_size) (nI v_ids) (nI v_dataAll) (nI v_putCount) (nI v_waiting) (nI v_readSize) v_power v_left v_since v_changes (nI v_rowSize))), (ad 74, .inl (ct 0, 18, .inl f_rest)), (ad 69, .inl (ct 0, 16, .inl f_m))] sz)) 0 0 (va_A [(a_this, .inr (12, mfs ad v_thrown v_connections (nI v_size) (nI v_ids) (nI v_dataAll) (nI v_putCount) (nI v_waiting) (nI v_readSize) v_power v_left v_since v_changes (nI v_rowSize))), (ad 74, .inl (ct 0, 18, .inl f_rest)), (ad 69, .inl (ct 0, 16, .inl f_m))] sz) := by
  refine metJ (QcF := fun A => va_Qi (fun (r : Int32) (u : Unit) => r = f_X12_isLess f_rest f_m) (fun u => BG D ct A [(a_this, .inr (12, mfs ad v_thrown v_connections (nI v_size) (nI v_ids) (nI v_dataAll) (nI v_putCount) (nI v_waiting) (nI v_readSize) v_power v_left v_since v_changes (nI v_rowSize))), (ad 74, .inl (ct 0, 18, .inl f_rest)), (ad 69, .inl (ct 0, 16, .inl f_m))]) A) (by decide) (Nat.le_of_ble_eq_true rfl) ?_
  intro p e s m below meth c A X hnm
  obtain ⟨Q, hQ⟩ : ∃ Q, Q = MQ below (va_Qi (fun (r : Int32) (u : Unit) => r = f_X12_isLess f_rest f_m) (fun u => BG D ct A [(a_this, .inr (12, mfs ad v_thrown v_connections (nI v_size) (nI v_ids) (nI v_dataAll) (nI v_putCount) (nI v_waiting) (nI v_readSize) v_power v_left v_since v_changes (nI v_rowSize))), (ad 74, .inl (ct 0, 18, .inl f_rest)), (ad 69, .inl (ct 0, 16, .inl f_m))]) A) [.ref a_this, .int x1].toArray s 0 0 A := ⟨_, rfl⟩
  rw [← hQ]
  refine j_lve (lv' := [(0, .ref a_this), (1, .int x1)]) rfl ?_
  refine j_bipush (v := nI 17) X dX12_isLess_0 (by decide) (q := 2) rfl ?_
  refine j_istore_n (lv' := [(2, .int (nI 17)), (0, .ref a_this), (1, .int x1)]) X dX12_isLess_2 (by decide) rfl (q := 3) rfl ?_
  refine j_lv (lv' := [(0, .ref a_this), (1, .int x1), (2, .int (nI 17))]) [1, 2, 0] rfl ?_
  have LP3_1 : ∀ (r3_1 : Nat) (t3_1 : Unit), r3_1 ≤ 18 → itxd (X12_isLess_l3 f_rest f_m) 18 (()) = itxd (X12_isLess_l3 f_rest f_m) r3_1 t3_1 → J p l e { frames := 0, cells := 0, slots := 0, locals := 0 } s m [.ref a_this, .int x1].toArray below meth c D A 4 Q 0 0 [(a_this, .inr (12, mfs ad v_thrown v_connections (nI v_size) (nI v_ids) (nI v_dataAll) (nI v_putCount) (nI v_waiting) (nI v_readSize) v_power v_left v_since v_changes (nI v_rowSize))), (ad 74, .inl (ct 0, 18, .inl f_rest)), (ad 69, .inl (ct 0, 16, .inl f_m))] [(0, .ref a_this), (1, .int x1), (2, .int (dn r3_1))] [] 3 := by
    intro r3_1
    induction r3_1 with
    | zero =>
      intro t3_1 hk_t3_1 e_t3_1 
      have hX_t3_1 := e_t3_1.trans (itxd_0 _ _)
      refine j_iload_n X 2 dX12_isLess_3 rfl (q := 4) rfl ?_
      refine j_if_lt (tgt := 56) X dX12_isLess_4 (by decide) (q := 7) rfl (fun c2 => ?_) (fun c2 => ?_)
      · skip
        refine j_iconst (v := nI 0) X dX12_isLess_56 (by decide) (q := 57) rfl ?_
        rw [hQ]
        exact j_zret X (()) (by decide) dX12_isLess_57 (by first | rfl | (simp only [f_X12_isLess, hX_t3_1]; done) | (simp only [f_X12_isLess, hX_t3_1]; rfl)) rfl
      · skip
        exact absurd (show dn 0 < 0 by decide) c2
    | succ r3_1 ih3_1 =>
      intro t3_1 hk_t3_1 e_t3_1 
      rw [dn_s]
      refine j_iload_n X 2 dX12_isLess_3 rfl (q := 4) rfl ?_
      refine j_if_lt (tgt := 56) X dX12_isLess_4 (by decide) (q := 7) rfl (fun c3 => ?_) (fun c3 => ?_)
      · skip
        have c3 : r3_1 < 0 := (nI_ltI (a := r3_1) (b := 0) (by omega) (by omega)).mp c3
        exfalso; omega
      · skip
        have c3 : ¬ r3_1 < 0 := fun h => c3 ((nI_ltI (a := r3_1) (b := 0) (by omega) (by omega)).mpr h)
        refine j_iload_n X 2 dX12_isLess_7 rfl (q := 8) rfl ?_
        refine j_bipush (v := nI 16) X dX12_isLess_8 (by decide) (q := 10) rfl ?_
        have KJ10_4 : ∀ g10_4 : (Int32), g10_4 = X12_isLess_m10 f_m r3_1 → J p l e { frames := 0, cells := 0, slots := 0, locals := 0 } s m [.ref a_this, .int x1].toArray below meth c D A 4 Q 0 0 [(a_this, .inr (12, mfs ad v_thrown v_connections (nI v_size) (nI v_ids) (nI v_dataAll) (nI v_putCount) (nI v_waiting) (nI v_readSize) v_power v_left v_since v_changes (nI v_rowSize))), (ad 74, .inl (ct 0, 18, .inl f_rest)), (ad 69, .inl (ct 0, 16, .inl f_m))] [(0, .ref a_this), (1, .int x1), (2, .int (nI r3_1))] [.int g10_4] 23 := by
          intro g10_4 e_g10_4
          refine j_istore_n (lv' := [(3, .int g10_4), (0, .ref a_this), (1, .int x1), (2, .int (nI r3_1))]) X dX12_isLess_23 (by decide) rfl (q := 24) rfl ?_
          refine j_aload_n X 1 dX12_isLess_24 rfl (q := 25) rfl ?_
          refine j_get (f := 74) X 0 inT12 rfl rfl (by decide) mw_X12_isLess_0 rfl dX12_isLess_25 (q := 28) rfl ?_
          refine j_iload_n X 3 dX12_isLess_28 rfl (q := 29) rfl ?_
          refine k_iald X 1 rfl (vp_in_nI (by omega) (by omega)) (nI_clamp (by omega)) dX12_isLess_29 (q := 30) rfl ?_
          refine j_iload_n X 0 dX12_isLess_30 rfl (q := 31) rfl ?_
          refine j_icmp_eq (tgt := 50) X dX12_isLess_31 (by decide) (q := 34) rfl (fun c6 => ?_) (fun c6 => ?_)
          · skip
            refine j_iinc (v := dn r3_1) (lv' := [(2, .int (dn r3_1)), (3, .int g10_4), (0, .ref a_this), (1, .int x1)]) X 3 dX12_isLess_50 rfl (dn_dec _) (by decide) rfl (q := 53) rfl ?_
            refine j_goto (tgt := 3) X dX12_isLess_53 (by decide) ?_
            refine j_lv (lv' := [(0, .ref a_this), (1, .int x1), (2, .int (dn r3_1))]) [2, 3, 0] rfl ?_
            have hb : (X12_isLess_l3 f_rest f_m) r3_1 t3_1 = .inl (()) := (by subst e_g10_4; first | rfl | (simp only [X12_isLess_l3, if_pos c6]; done) | (simp only [X12_isLess_l3, if_pos c6]; rfl))
            exact ih3_1 (()) (by omega) (e_t3_1.trans (itxd_in hb)) 
          · skip
            refine j_aload_n X 1 dX12_isLess_34 rfl (q := 35) rfl ?_
            refine j_get (f := 74) X 0 inT12 rfl rfl (by decide) mw_X12_isLess_0 rfl dX12_isLess_35 (q := 38) rfl ?_
            refine j_iload_n X 3 dX12_isLess_38 rfl (q := 39) rfl ?_
            refine k_iald X 1 rfl (vp_in_nI (by omega) (by omega)) (nI_clamp (by omega)) dX12_isLess_39 (q := 40) rfl ?_
            refine j_iload_n X 0 dX12_isLess_40 rfl (q := 41) rfl ?_
            refine j_icmp_ge (tgt := 48) X dX12_isLess_41 (by decide) (q := 44) rfl (fun c7 => ?_) (fun c7 => ?_)
            · skip
              refine j_iconst (v := nI 0) X dX12_isLess_48 (by decide) (q := 49) rfl ?_
              have hX_8b : (X12_isLess_l3 f_rest f_m) r3_1 t3_1 = .inr (nI 0) := (by subst e_g10_4; first | rfl | (simp only [X12_isLess_l3, if_neg c6, if_pos c7]; done) | (simp only [X12_isLess_l3, if_neg c6, if_pos c7]; rfl))
              have hX_8 := e_t3_1.trans (itxd_out hX_8b)
              rw [hQ]
              exact j_zret X (()) (by decide) dX12_isLess_49 (by first | rfl | (simp only [f_X12_isLess, hX_8]; done) | (simp only [f_X12_isLess, hX_8]; rfl)) rfl
            · skip
              refine j_iconst (v := nI 1) X dX12_isLess_44 (by decide) (q := 45) rfl ?_
              refine j_goto (tgt := 49) X dX12_isLess_45 (by decide) ?_
              have hX_9b : (X12_isLess_l3 f_rest f_m) r3_1 t3_1 = .inr (nI 1) := (by subst e_g10_4; first | rfl | (simp only [X12_isLess_l3, if_neg c6, if_neg c7]; done) | (simp only [X12_isLess_l3, if_neg c6, if_neg c7]; rfl))
              have hX_9 := e_t3_1.trans (itxd_out hX_9b)
              rw [hQ]
              exact j_zret X (()) (by decide) dX12_isLess_49 (by first | rfl | (simp only [f_X12_isLess, hX_9]; done) | (simp only [f_X12_isLess, hX_9]; rfl)) rfl
        refine j_icmp_ge (tgt := 22) X dX12_isLess_10 (by decide) (q := 13) rfl (fun c5 => ?_) (fun c5 => ?_)
        · skip
          have c5 : 16 ≤ r3_1 := (nI_leI (a := 16) (b := r3_1) (by omega) (by omega)).mp c5
          refine j_iconst (v := nI 0) X dX12_isLess_22 (by decide) (q := 23) rfl ?_
          refine j_lv (lv' := [(0, .ref a_this), (1, .int x1), (2, .int (nI r3_1))]) [0, 1, 2] rfl ?_
          exact KJ10_4 (nI 0) (by first | rfl | (simp only [X12_isLess_m10, if_pos c5]; done) | (simp only [X12_isLess_m10, if_pos c5]; rfl))
        · skip
          have c5 : ¬ 16 ≤ r3_1 := fun h => c5 ((nI_leI (a := 16) (b := r3_1) (by omega) (by omega)).mpr h)
          refine j_aload_n X 0 dX12_isLess_13 rfl (q := 14) rfl ?_
          refine j_get (f := 69) X 0 inT12 rfl rfl (by decide) mw_X12_isLess_1 rfl dX12_isLess_14 (q := 17) rfl ?_
          refine j_iload_n X 2 dX12_isLess_17 rfl (q := 18) rfl ?_
          refine k_iald X 2 rfl (vp_in_nI (by omega) (by omega)) (nI_clamp (by omega)) dX12_isLess_18 (q := 19) rfl ?_
          refine j_goto (tgt := 23) X dX12_isLess_19 (by decide) ?_
          refine j_lv (lv' := [(0, .ref a_this), (1, .int x1), (2, .int (nI r3_1))]) [0, 1, 2] rfl ?_
          exact KJ10_4 (f_m r3_1) (by first | rfl | (simp only [X12_isLess_m10, if_neg c5]; done) | (simp only [X12_isLess_m10, if_neg c5]; rfl))
  exact LP3_1 18 (()) (by omega) rfl 
theorem cal_X12_isLess : Cal yX12_isLess cX12_isLess 4 (some .boolean) 1 := ⟨tb_at 120 (by decide +kernel) (by decide +kernel), tb_at 1527 (by decide +kernel) (by decide +kernel), by decide +kernel, by decide +kernel, by decide +kernel⟩
theorem cwi_X12_isLess : Cond.instanceMethod yX12_isLess ∈ tb := tb_at 1526 (by decide +kernel) (by decide +kernel)
theorem cws_X12_isLess : Cond.selects yX12_isLess.cls yX12_isLess yX12_isLess ∈ tb := tb_at 58 (by decide +kernel) (by decide +kernel)
