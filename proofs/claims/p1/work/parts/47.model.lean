theorem mw_X12_credit_0 : Cond.fieldLink "GuardedTreeModel" 293 "GuardedTreeModel" "thrown" "I" ∈ tb := tb_at 1237 (by decide +kernel) (by decide +kernel)
theorem mw_X12_credit_1 : Cond.fieldLink "GuardedTreeModel" 7 "GuardedTreeModel" "state" "[I" ∈ tb := tb_at 1239 (by decide +kernel) (by decide +kernel)
theorem mw_X12_credit_2 : Cond.fieldLink "GuardedTreeModel" 13 "GuardedTreeModel" "credit" "[I" ∈ tb := tb_at 1240 (by decide +kernel) (by decide +kernel)
theorem mw_X12_credit_3 : Cond.fieldLink "GuardedTreeModel" 107 "GuardedTreeModel" "power" "Z" ∈ tb := tb_at 1276 (by decide +kernel) (by decide +kernel)
theorem dX12_credit_0 : decode cX12_credit 0 = .ok (.aload_n 0, 1) := by decide +kernel
theorem dX12_credit_1 : decode cX12_credit 1 = .ok (.iload_n 1, 1) := by decide +kernel
theorem dX12_credit_2 : decode cX12_credit 2 = .ok (.ifCond .lt 8, 3) := by decide +kernel
theorem dX12_credit_5 : decode cX12_credit 5 = .ok (.iload_n 1, 1) := by decide +kernel
theorem dX12_credit_6 : decode cX12_credit 6 = .ok (.iconst 1, 1) := by decide +kernel
theorem dX12_credit_7 : decode cX12_credit 7 = .ok (.if_icmp .le 7, 3) := by decide +kernel
theorem dX12_credit_10 : decode cX12_credit 10 = .ok (.iconst 1, 1) := by decide +kernel
theorem dX12_credit_11 : decode cX12_credit 11 = .ok (.goto 4, 3) := by decide +kernel
theorem dX12_credit_14 : decode cX12_credit 14 = .ok (.iconst 0, 1) := by decide +kernel
theorem dX12_credit_15 : decode cX12_credit 15 = .ok (.putfield 293, 3) := by decide +kernel
theorem dX12_credit_18 : decode cX12_credit 18 = .ok (.aload_n 0, 1) := by decide +kernel
theorem dX12_credit_19 : decode cX12_credit 19 = .ok (.getfield 293, 3) := by decide +kernel
theorem dX12_credit_22 : decode cX12_credit 22 = .ok (.ifCond .gt 25, 3) := by decide +kernel
theorem dX12_credit_25 : decode cX12_credit 25 = .ok (.aload_n 0, 1) := by decide +kernel
theorem dX12_credit_26 : decode cX12_credit 26 = .ok (.getfield 7, 3) := by decide +kernel
theorem dX12_credit_29 : decode cX12_credit 29 = .ok (.iload_n 1, 1) := by decide +kernel
theorem dX12_credit_30 : decode cX12_credit 30 = .ok (.iaload, 1) := by decide +kernel
theorem dX12_credit_31 : decode cX12_credit 31 = .ok (.iconst 2, 1) := by decide +kernel
theorem dX12_credit_32 : decode cX12_credit 32 = .ok (.if_icmp .ne 15, 3) := by decide +kernel
theorem dX12_credit_35 : decode cX12_credit 35 = .ok (.iload_n 1, 1) := by decide +kernel
theorem dX12_credit_36 : decode cX12_credit 36 = .ok (.iconst 1, 1) := by decide +kernel
theorem dX12_credit_37 : decode cX12_credit 37 = .ok (.if_icmp .ne 14, 3) := by decide +kernel
theorem dX12_credit_40 : decode cX12_credit 40 = .ok (.aload_n 0, 1) := by decide +kernel
theorem dX12_credit_41 : decode cX12_credit 41 = .ok (.getfield 107, 3) := by decide +kernel
theorem dX12_credit_44 : decode cX12_credit 44 = .ok (.ifCond .ne 7, 3) := by decide +kernel
theorem dX12_credit_47 : decode cX12_credit 47 = .ok (.iconst 0, 1) := by decide +kernel
theorem dX12_credit_48 : decode cX12_credit 48 = .ok (.goto 9, 3) := by decide +kernel
theorem dX12_credit_51 : decode cX12_credit 51 = .ok (.aload_n 0, 1) := by decide +kernel
theorem dX12_credit_52 : decode cX12_credit 52 = .ok (.getfield 13, 3) := by decide +kernel
theorem dX12_credit_55 : decode cX12_credit 55 = .ok (.iload_n 1, 1) := by decide +kernel
theorem dX12_credit_56 : decode cX12_credit 56 = .ok (.iaload, 1) := by decide +kernel
theorem dX12_credit_57 : decode cX12_credit 57 = .ok (.ireturn, 1) := by decide +kernel
noncomputable def f_X12_credit (v_power : Int32) (f_state : Nat → Int32) (f_credit : Nat → Int32) (x1 : Int32) : Int32 × (Int32) :=
  if x1 < 0 then
  ((nI 0, nI 1))
  else
  (if x1 ≤ (nI 1) then
  (if (f_state x1.toNatClampNeg) = (nI 2) then
  (if x1 = (nI 1) then
  (if v_power = 0 then
  ((nI 0, nI 0))
  else
  ((f_credit x1.toNatClampNeg, nI 0)))
  else
  ((f_credit x1.toNatClampNeg, nI 0)))
  else
  ((nI 0, nI 0)))
  else
  ((nI 0, nI 1)))
set_option maxHeartbeats 4000000 in
set_option maxRecDepth 100000 in
theorem c_X12_credit (l : Launch) (D : va_G) (ct : Nat → ClassId) (ts : Nat → Nat) (a_this : Nat) (ad : Nat → Nat) (v_thrown : Int32) (v_connections : Int32) (v_size : Nat) (v_ids : Nat) (v_dataAll : Nat) (v_putCount : Nat) (v_waiting : Nat) (v_readSize : Nat) (v_power : Int32) (v_left : Int32) (v_since : Int32) (v_changes : Int32) (v_rowSize : Nat) (f_state : Nat → Int32) (f_credit : Nat → Int32) (x1 : Int32)    (sz : Nat) : Met l yX12_credit (Cond.code yX12_credit cX12_credit 2 (some .int) :: tb) { frames := 0, cells := 0, slots := 0, locals := 0 } (PcG D ct SXL ts [.ref a_this, .int x1] [(a_this, .inr (12, mfs ad v_thrown v_connections (nI v_size) (nI v_ids) (nI v_dataAll) (nI v_putCount) (nI v_waiting) (nI v_readSize) v_power v_left v_since v_changes (nI v_rowSize))), (ad 2, .inl (ct 0, 2, .inl f_state)), (ad 3, .inl (ct 0, 2, .inl f_credit))] sz) (va_Qi (fun (r : Int32) (u : (Int32)) => (r, u) = f_X12_credit v_power f_state f_credit x1) (fun u => BG D ct (va_A [(a_this, .inr (12, mfs ad v_thrown v_connections (nI v_size) (nI v_ids) (nI v_dataAll) (nI v_putCount) (nI v_waiting) (nI v_readSize) v_power v_left v_since v_changes (nI v_rowSize))), (ad 2, .inl (ct 0, 2, .inl f_state)), (ad 3, .inl (ct 0, 2, .inl f_credit))] sz) [(a_this, .inr (12, mfs ad u v_connections (nI v_size) (nI v_ids) (nI v_dataAll) (nI v_putCount) (nI v_waiting) (nI v_readSize) v_power v_left v_since v_changes (nI v_rowSize))), (ad 2, .inl (ct 0, 2, .inl f_state)), (ad 3, .inl (ct 0, 2, .inl f_credit))]) (va_A [(a_this, .inr (12, mfs ad v_thrown v_connections (nI v_size) (nI v_ids) (nI v_dataAll) (nI v_putCount) (nI v_waiting) (nI v_readSize) v_power v_left v_since v_changes (nI v_rowSize))), (ad 2, .inl (ct 0, 2, .inl f_state)), (ad 3, .inl (ct 0, 2, .inl f_credit))] sz)) 0 0 (va_A [(a_this, .inr (12, mfs ad v_thrown v_connections (nI v_size) (nI v_ids) (nI v_dataAll) (nI v_putCount) (nI v_waiting) (nI v_readSize) v_power v_left v_since v_changes (nI v_rowSize))), (ad 2, .inl (ct 0, 2, .inl f_state)), (ad 3, .inl (ct 0, 2, .inl f_credit))] sz) := by
  refine metJ (l := l) (y := yX12_credit) (cc := cX12_credit) (maxL := 2) (ret := (some .int)) (rm := { frames := 0, cells := 0, slots := 0, locals := 0 }) (D := D) (ct := ct) (L := SXL) (ts := ts) (av := [.ref a_this, .int x1]) (ws := [(a_this, .inr (12, mfs ad v_thrown v_connections (nI v_size) (nI v_ids) (nI v_dataAll) (nI v_putCount) (nI v_waiting) (nI v_readSize) v_power v_left v_since v_changes (nI v_rowSize))), (ad 2, .inl (ct 0, 2, .inl f_state)), (ad 3, .inl (ct 0, 2, .inl f_credit))]) (sz := sz) (mc := 0) (ms := 0) (QcF := fun A => va_Qi (fun (r : Int32) (u : (Int32)) => (r, u) = f_X12_credit v_power f_state f_credit x1) (fun u => BG D ct A [(a_this, .inr (12, mfs ad u v_connections (nI v_size) (nI v_ids) (nI v_dataAll) (nI v_putCount) (nI v_waiting) (nI v_readSize) v_power v_left v_since v_changes (nI v_rowSize))), (ad 2, .inl (ct 0, 2, .inl f_state)), (ad 3, .inl (ct 0, 2, .inl f_credit))]) A) (by decide) (Nat.le_of_ble_eq_true rfl) ?_
  intro p e s m below meth c A X hnm
  obtain ⟨Q, hQ⟩ : ∃ Q, Q = MQ below (va_Qi (fun (r : Int32) (u : (Int32)) => (r, u) = f_X12_credit v_power f_state f_credit x1) (fun u => BG D ct A [(a_this, .inr (12, mfs ad u v_connections (nI v_size) (nI v_ids) (nI v_dataAll) (nI v_putCount) (nI v_waiting) (nI v_readSize) v_power v_left v_since v_changes (nI v_rowSize))), (ad 2, .inl (ct 0, 2, .inl f_state)), (ad 3, .inl (ct 0, 2, .inl f_credit))]) A) [.ref a_this, .int x1].toArray s 0 0 A := ⟨_, rfl⟩
  rw [← hQ]
  refine j_lve (lv' := [(0, .ref a_this), (1, .int x1)]) rfl ?_
  refine j_aload_n X 0 dX12_credit_0 rfl (q := 1) rfl ?_
  refine j_iload_n X 1 dX12_credit_1 rfl (q := 2) rfl ?_
  refine j_if_lt (tgt := 10) X dX12_credit_2 (by decide) (q := 5) rfl (fun c1 => ?_) (fun c1 => ?_)
  · skip
    refine j_iconst (v := nI 1) X dX12_credit_10 (by decide) (q := 11) rfl ?_
    refine j_goto (tgt := 15) X dX12_credit_11 (by decide) ?_
    refine j_put (f := 0) (ws2 := [(a_this, .inr (12, mfs ad (nI 1) v_connections (nI v_size) (nI v_ids) (nI v_dataAll) (nI v_putCount) (nI v_waiting) (nI v_readSize) v_power v_left v_since v_changes (nI v_rowSize))), (ad 2, .inl (ct 0, 2, .inl f_state)), (ad 3, .inl (ct 0, 2, .inl f_credit))]) (ty := .int) X 0 inT12 tyX12_ok nmX12 rfl rfl (by decide) mw_X12_credit_0 rfl rfl rfl rfl (Nat.le_of_ble_eq_true rfl) dX12_credit_15 rfl (q := 18) rfl ?_
    refine j_aload_n X 0 dX12_credit_18 rfl (q := 19) rfl ?_
    refine j_get (f := 0) X 0 inT12 rfl rfl (by decide) mw_X12_credit_0 rfl dX12_credit_19 (q := 22) rfl ?_
    refine j_if_gt (tgt := 47) X dX12_credit_22 (by decide) (q := 25) rfl (fun c2 => ?_) (fun c2 => ?_)
    · skip
      have c2 : 0 < 1 := (nI_ltI (a := 0) (b := 1) (by omega) (by omega)).mp c2
      refine j_iconst (v := nI 0) X dX12_credit_47 (by decide) (q := 48) rfl ?_
      refine j_goto (tgt := 57) X dX12_credit_48 (by decide) ?_
      rw [hQ]
      exact j_iret X (nI 1) dX12_credit_57 (by first | rfl | (simp only [f_X12_credit, if_pos c1]; done) | (simp only [f_X12_credit, if_pos c1]; rfl)) rfl
    · skip
      have c2 : ¬ 0 < 1 := fun h => c2 ((nI_ltI (a := 0) (b := 1) (by omega) (by omega)).mpr h)
      exfalso; omega
  · skip
    refine j_iload_n X 1 dX12_credit_5 rfl (q := 6) rfl ?_
    refine j_iconst (v := nI 1) X dX12_credit_6 (by decide) (q := 7) rfl ?_
    refine j_icmp_le (tgt := 14) X dX12_credit_7 (by decide) (q := 10) rfl (fun c3 => ?_) (fun c3 => ?_)
    · skip
      refine j_iconst (v := nI 0) X dX12_credit_14 (by decide) (q := 15) rfl ?_
      refine j_put (f := 0) (ws2 := [(a_this, .inr (12, mfs ad (nI 0) v_connections (nI v_size) (nI v_ids) (nI v_dataAll) (nI v_putCount) (nI v_waiting) (nI v_readSize) v_power v_left v_since v_changes (nI v_rowSize))), (ad 2, .inl (ct 0, 2, .inl f_state)), (ad 3, .inl (ct 0, 2, .inl f_credit))]) (ty := .int) X 0 inT12 tyX12_ok nmX12 rfl rfl (by decide) mw_X12_credit_0 rfl rfl rfl rfl (Nat.le_of_ble_eq_true rfl) dX12_credit_15 rfl (q := 18) rfl ?_
      refine j_aload_n X 0 dX12_credit_18 rfl (q := 19) rfl ?_
      refine j_get (f := 0) X 0 inT12 rfl rfl (by decide) mw_X12_credit_0 rfl dX12_credit_19 (q := 22) rfl ?_
      refine j_if_gt (tgt := 47) X dX12_credit_22 (by decide) (q := 25) rfl (fun c4 => ?_) (fun c4 => ?_)
      · skip
        have c4 : 0 < 0 := (nI_ltI (a := 0) (b := 0) (by omega) (by omega)).mp c4
        exfalso; omega
      · skip
        have c4 : ¬ 0 < 0 := fun h => c4 ((nI_ltI (a := 0) (b := 0) (by omega) (by omega)).mpr h)
        refine j_aload_n X 0 dX12_credit_25 rfl (q := 26) rfl ?_
        refine j_get (f := 2) X 0 inT12 rfl rfl (by decide) mw_X12_credit_1 rfl dX12_credit_26 (q := 29) rfl ?_
        refine j_iload_n X 1 dX12_credit_29 rfl (q := 30) rfl ?_
        refine k_iald X 1 rfl (vp_dir (by assumption) (by assumption)) rfl dX12_credit_30 (q := 31) rfl ?_
        refine j_iconst (v := nI 2) X dX12_credit_31 (by decide) (q := 32) rfl ?_
        refine j_icmp_ne (tgt := 47) X dX12_credit_32 (by decide) (q := 35) rfl (fun c5 => ?_) (fun c5 => ?_)
        · skip
          refine j_iconst (v := nI 0) X dX12_credit_47 (by decide) (q := 48) rfl ?_
          refine j_goto (tgt := 57) X dX12_credit_48 (by decide) ?_
          rw [hQ]
          exact j_iret X (nI 0) dX12_credit_57 (by first | rfl | (simp only [f_X12_credit, if_neg c1, if_pos c3, if_neg c5]; done) | (simp only [f_X12_credit, if_neg c1, if_pos c3, if_neg c5]; rfl)) rfl
        · skip
          refine j_iload_n X 1 dX12_credit_35 rfl (q := 36) rfl ?_
          refine j_iconst (v := nI 1) X dX12_credit_36 (by decide) (q := 37) rfl ?_
          refine j_icmp_ne (tgt := 51) X dX12_credit_37 (by decide) (q := 40) rfl (fun c6 => ?_) (fun c6 => ?_)
          · skip
            refine j_aload_n X 0 dX12_credit_51 rfl (q := 52) rfl ?_
            refine j_get (f := 3) X 0 inT12 rfl rfl (by decide) mw_X12_credit_2 rfl dX12_credit_52 (q := 55) rfl ?_
            refine j_iload_n X 1 dX12_credit_55 rfl (q := 56) rfl ?_
            refine k_iald X 2 rfl (vp_dir (by assumption) (by assumption)) rfl dX12_credit_56 (q := 57) rfl ?_
            rw [hQ]
            exact j_iret X (nI 0) dX12_credit_57 (by first | rfl | (simp only [f_X12_credit, if_neg c1, if_pos c3, if_pos c5, if_neg c6]; done) | (simp only [f_X12_credit, if_neg c1, if_pos c3, if_pos c5, if_neg c6]; rfl)) rfl
          · skip
            refine j_aload_n X 0 dX12_credit_40 rfl (q := 41) rfl ?_
            refine j_get (f := 39) X 0 inT12 rfl rfl (by decide) mw_X12_credit_3 rfl dX12_credit_41 (q := 44) rfl ?_
            refine j_if_ne (tgt := 51) X dX12_credit_44 (by decide) (q := 47) rfl (fun c7 => ?_) (fun c7 => ?_)
            · skip
              refine j_aload_n X 0 dX12_credit_51 rfl (q := 52) rfl ?_
              refine j_get (f := 3) X 0 inT12 rfl rfl (by decide) mw_X12_credit_2 rfl dX12_credit_52 (q := 55) rfl ?_
              refine j_iload_n X 1 dX12_credit_55 rfl (q := 56) rfl ?_
              refine k_iald X 2 rfl (vp_dir (by assumption) (by assumption)) rfl dX12_credit_56 (q := 57) rfl ?_
              rw [hQ]
              exact j_iret X (nI 0) dX12_credit_57 (by first | rfl | (simp only [f_X12_credit, if_neg c1, if_pos c3, if_pos c5, if_pos c6, if_neg c7]; done) | (simp only [f_X12_credit, if_neg c1, if_pos c3, if_pos c5, if_pos c6, if_neg c7]; rfl)) rfl
            · skip
              refine j_iconst (v := nI 0) X dX12_credit_47 (by decide) (q := 48) rfl ?_
              refine j_goto (tgt := 57) X dX12_credit_48 (by decide) ?_
              rw [hQ]
              exact j_iret X (nI 0) dX12_credit_57 (by first | rfl | (simp only [f_X12_credit, if_neg c1, if_pos c3, if_pos c5, if_pos c6, if_pos c7]; done) | (simp only [f_X12_credit, if_neg c1, if_pos c3, if_pos c5, if_pos c6, if_pos c7]; rfl)) rfl
    · skip
      refine j_iconst (v := nI 1) X dX12_credit_10 (by decide) (q := 11) rfl ?_
      refine j_goto (tgt := 15) X dX12_credit_11 (by decide) ?_
      refine j_put (f := 0) (ws2 := [(a_this, .inr (12, mfs ad (nI 1) v_connections (nI v_size) (nI v_ids) (nI v_dataAll) (nI v_putCount) (nI v_waiting) (nI v_readSize) v_power v_left v_since v_changes (nI v_rowSize))), (ad 2, .inl (ct 0, 2, .inl f_state)), (ad 3, .inl (ct 0, 2, .inl f_credit))]) (ty := .int) X 0 inT12 tyX12_ok nmX12 rfl rfl (by decide) mw_X12_credit_0 rfl rfl rfl rfl (Nat.le_of_ble_eq_true rfl) dX12_credit_15 rfl (q := 18) rfl ?_
      refine j_aload_n X 0 dX12_credit_18 rfl (q := 19) rfl ?_
      refine j_get (f := 0) X 0 inT12 rfl rfl (by decide) mw_X12_credit_0 rfl dX12_credit_19 (q := 22) rfl ?_
      refine j_if_gt (tgt := 47) X dX12_credit_22 (by decide) (q := 25) rfl (fun c8 => ?_) (fun c8 => ?_)
      · skip
        have c8 : 0 < 1 := (nI_ltI (a := 0) (b := 1) (by omega) (by omega)).mp c8
        refine j_iconst (v := nI 0) X dX12_credit_47 (by decide) (q := 48) rfl ?_
        refine j_goto (tgt := 57) X dX12_credit_48 (by decide) ?_
        rw [hQ]
        exact j_iret X (nI 1) dX12_credit_57 (by first | rfl | (simp only [f_X12_credit, if_neg c1, if_neg c3]; done) | (simp only [f_X12_credit, if_neg c1, if_neg c3]; rfl)) rfl
      · skip
        have c8 : ¬ 0 < 1 := fun h => c8 ((nI_ltI (a := 0) (b := 1) (by omega) (by omega)).mpr h)
        exfalso; omega
theorem cal_X12_credit : Cal yX12_credit cX12_credit 2 (some .int) 1 := ⟨tb_at 120 (by decide +kernel) (by decide +kernel), tb_at 1615 (by decide +kernel) (by decide +kernel), by decide +kernel, by decide +kernel, by decide +kernel⟩
theorem cwi_X12_credit : Cond.instanceMethod yX12_credit ∈ tb := tb_at 1613 (by decide +kernel) (by decide +kernel)
theorem cws_X12_credit : Cond.selects yX12_credit.cls yX12_credit yX12_credit ∈ tb := tb_at 1614 (by decide +kernel) (by decide +kernel)
theorem nz_eq {x : Int32} {n : Nat} (h : x = nI n) (hn : n < 2 ^ 31) : x = nI x.toNatClampNeg ∧ x.toNatClampNeg = n := by
  subst h
  rw [nI_clamp hn]
  exact ⟨rfl, rfl⟩
