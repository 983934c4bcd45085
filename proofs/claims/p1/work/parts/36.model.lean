theorem vp_id2 {x : Int32} {n N : Nat} (h1 : ¬ x < nI 1) (h2 : x ≤ nI n) (hn : n < N) (hN : N < 2 ^ 30) : vp_in x N := by
  rw [vp_in_iff]
  rw [Int32.lt_iff_toInt_lt, nI_toInt (by decide)] at h1
  rw [Int32.le_iff_toInt_le, nI_toInt (by omega)] at h2
  omega
theorem vp_dir {x : Int32} (h1 : ¬ x < 0) (h2 : x ≤ nI 1) : vp_in x 2 := by
  rw [vp_in_iff]
  rw [Int32.lt_iff_toInt_lt] at h1
  rw [Int32.le_iff_toInt_le, nI_toInt (by decide)] at h2
  have e : (0 : Int32).toInt = 0 := rfl
  omega
theorem vp_dir2 {x : Int32} (h1 : ¬ x < 0) (h2 : ¬ nI 1 < x) : vp_in x 2 := by
  refine vp_dir h1 ?_
  rw [Int32.lt_iff_toInt_lt] at h2
  rw [Int32.le_iff_toInt_le]
  omega
theorem mw_X12_lose_0 : Cond.fieldLink "GuardedTreeModel" 387 "GuardedTreeModel" "ids" "I" ∈ tb := tb_at 1254 (by decide +kernel) (by decide +kernel)
theorem mw_X12_lose_1 : Cond.fieldLink "GuardedTreeModel" 54 "GuardedTreeModel" "statuses" "[I" ∈ tb := tb_at 1255 (by decide +kernel) (by decide +kernel)
theorem dX12_lose_0 : decode cX12_lose 0 = .ok (.iconst 1, 1) := by decide +kernel
theorem dX12_lose_1 : decode cX12_lose 1 = .ok (.istore_n 1, 1) := by decide +kernel
theorem dX12_lose_2 : decode cX12_lose 2 = .ok (.iload_n 1, 1) := by decide +kernel
theorem dX12_lose_3 : decode cX12_lose 3 = .ok (.aload_n 0, 1) := by decide +kernel
theorem dX12_lose_4 : decode cX12_lose 4 = .ok (.getfield 387, 3) := by decide +kernel
theorem dX12_lose_7 : decode cX12_lose 7 = .ok (.if_icmp .gt 37, 3) := by decide +kernel
theorem dX12_lose_10 : decode cX12_lose 10 = .ok (.aload_n 0, 1) := by decide +kernel
theorem dX12_lose_11 : decode cX12_lose 11 = .ok (.getfield 54, 3) := by decide +kernel
theorem dX12_lose_14 : decode cX12_lose 14 = .ok (.iload_n 1, 1) := by decide +kernel
theorem dX12_lose_15 : decode cX12_lose 15 = .ok (.aload_n 0, 1) := by decide +kernel
theorem dX12_lose_16 : decode cX12_lose 16 = .ok (.getfield 54, 3) := by decide +kernel
theorem dX12_lose_19 : decode cX12_lose 19 = .ok (.iload_n 1, 1) := by decide +kernel
theorem dX12_lose_20 : decode cX12_lose 20 = .ok (.iaload, 1) := by decide +kernel
theorem dX12_lose_21 : decode cX12_lose 21 = .ok (.bipush (-100), 2) := by decide +kernel
theorem dX12_lose_23 : decode cX12_lose 23 = .ok (.if_icmp .ne 8, 3) := by decide +kernel
theorem dX12_lose_26 : decode cX12_lose 26 = .ok (.bipush (-101), 2) := by decide +kernel
theorem dX12_lose_28 : decode cX12_lose 28 = .ok (.goto 9, 3) := by decide +kernel
theorem dX12_lose_31 : decode cX12_lose 31 = .ok (.aload_n 0, 1) := by decide +kernel
theorem dX12_lose_32 : decode cX12_lose 32 = .ok (.getfield 54, 3) := by decide +kernel
theorem dX12_lose_35 : decode cX12_lose 35 = .ok (.iload_n 1, 1) := by decide +kernel
theorem dX12_lose_36 : decode cX12_lose 36 = .ok (.iaload, 1) := by decide +kernel
theorem dX12_lose_37 : decode cX12_lose 37 = .ok (.iastore, 1) := by decide +kernel
theorem dX12_lose_38 : decode cX12_lose 38 = .ok (.iinc 1 1, 3) := by decide +kernel
theorem dX12_lose_41 : decode cX12_lose 41 = .ok (.goto (-39), 3) := by decide +kernel
theorem dX12_lose_44 : decode cX12_lose 44 = .ok (.return_, 1) := by decide +kernel
noncomputable def X12_lose_m23 (t2_1 : (Nat → Int32)) (k2_1 : Nat) : (Int32) :=
  if (t2_1 (1 + k2_1)) = ((-100)) then
  ((-101))
  else
  (t2_1 (1 + k2_1))
noncomputable def X12_lose_l2  (k2_1 : Nat) (t2_1 : (Nat → Int32)) : (Nat → Int32) :=
  let g23_4 := X12_lose_m23 t2_1 k2_1
  upd t2_1 (1 + k2_1) g23_4
noncomputable def f_X12_lose (v_ids : Nat) (f_statuses : Nat → Int32) : (Nat → Int32) :=
  let t2_1 := itr X12_lose_l2 f_statuses v_ids
  t2_1
set_option maxHeartbeats 4000000 in
set_option maxRecDepth 100000 in
theorem c_X12_lose (l : Launch) (D : va_G) (ct : Nat → ClassId) (ts : Nat → Nat) (a_this : Nat) (ad : Nat → Nat) (v_thrown : Int32) (v_connections : Int32) (v_size : Nat) (v_ids : Nat) (v_dataAll : Nat) (v_putCount : Nat) (v_waiting : Nat) (v_readSize : Nat) (v_power : Int32) (v_left : Int32) (v_since : Int32) (v_changes : Int32) (v_rowSize : Nat) (f_statuses : Nat → Int32)  (h_i : v_ids < 4200)  (sz : Nat) : Met l yX12_lose (Cond.code yX12_lose cX12_lose 2 none :: tb) { frames := 0, cells := 0, slots := 0, locals := 0 } (PcG D ct SXL ts [.ref a_this] [(a_this, .inr (12, mfs ad v_thrown v_connections (nI v_size) (nI v_ids) (nI v_dataAll) (nI v_putCount) (nI v_waiting) (nI v_readSize) v_power v_left v_since v_changes (nI v_rowSize))), (ad 18, .inl (ct 0, 4200, .inl f_statuses))] sz) (va_Qv (fun u : (Nat → Int32) => u = f_X12_lose v_ids f_statuses) (fun u => BG D ct (va_A [(a_this, .inr (12, mfs ad v_thrown v_connections (nI v_size) (nI v_ids) (nI v_dataAll) (nI v_putCount) (nI v_waiting) (nI v_readSize) v_power v_left v_since v_changes (nI v_rowSize))), (ad 18, .inl (ct 0, 4200, .inl f_statuses))] sz) [(a_this, .inr (12, mfs ad v_thrown v_connections (nI v_size) (nI v_ids) (nI v_dataAll) (nI v_putCount) (nI v_waiting) (nI v_readSize) v_power v_left v_since v_changes (nI v_rowSize))), (ad 18, .inl (ct 0, 4200, .inl u))]) (va_A [(a_this, .inr (12, mfs ad v_thrown v_connections (nI v_size) (nI v_ids) (nI v_dataAll) (nI v_putCount) (nI v_waiting) (nI v_readSize) v_power v_left v_since v_changes (nI v_rowSize))), (ad 18, .inl (ct 0, 4200, .inl f_statuses))] sz)) 0 0 (va_A [(a_this, .inr (12, mfs ad v_thrown v_connections (nI v_size) (nI v_ids) (nI v_dataAll) (nI v_putCount) (nI v_waiting) (nI v_readSize) v_power v_left v_since v_changes (nI v_rowSize))), (ad 18, .inl (ct 0, 4200, .inl f_statuses))] sz) := by
  refine metJ (l := l) (y := yX12_lose) (cc := cX12_lose) (maxL := 2) (ret := none) (rm := { frames := 0, cells := 0, slots := 0, locals := 0 }) (D := D) (ct := ct) (L := SXL) (ts := ts) (av := [.ref a_this]) (ws := [(a_this, .inr (12, mfs ad v_thrown v_connections (nI v_size) (nI v_ids) (nI v_dataAll) (nI v_putCount) (nI v_waiting) (nI v_readSize) v_power v_left v_since v_changes (nI v_rowSize))), (ad 18, .inl (ct 0, 4200, .inl f_statuses))]) (sz := sz) (mc := 0) (ms := 0) (QcF := fun A => va_Qv (fun u : (Nat → Int32) => u = f_X12_lose v_ids f_statuses) (fun u => BG D ct A [(a_this, .inr (12, mfs ad v_thrown v_connections (nI v_size) (nI v_ids) (nI v_dataAll) (nI v_putCount) (nI v_waiting) (nI v_readSize) v_power v_left v_since v_changes (nI v_rowSize))), (ad 18, .inl (ct 0, 4200, .inl u))]) A) (by decide) (Nat.le_of_ble_eq_true rfl) ?_
  intro p e s m below meth c A X hnm
  obtain ⟨Q, hQ⟩ : ∃ Q, Q = MQ below (va_Qv (fun u : (Nat → Int32) => u = f_X12_lose v_ids f_statuses) (fun u => BG D ct A [(a_this, .inr (12, mfs ad v_thrown v_connections (nI v_size) (nI v_ids) (nI v_dataAll) (nI v_putCount) (nI v_waiting) (nI v_readSize) v_power v_left v_since v_changes (nI v_rowSize))), (ad 18, .inl (ct 0, 4200, .inl u))]) A) [.ref a_this].toArray s 0 0 A := ⟨_, rfl⟩
  rw [← hQ]
  refine j_lve (lv' := [(0, .ref a_this)]) rfl ?_
  refine j_iconst (v := nI 1) X dX12_lose_0 (by decide) (q := 1) rfl ?_
  refine j_istore_n (lv' := [(1, .int (nI 1)), (0, .ref a_this)]) X dX12_lose_1 (by decide) rfl (q := 2) rfl ?_
  refine j_lv (lv' := [(0, .ref a_this), (1, .int (nI 1))]) [1, 0] rfl ?_
  have LP2_1 : ∀ (r2_1 k2_1 : Nat) (t2_1 : (Nat → Int32)), k2_1 + r2_1 = v_ids → t2_1 = itr X12_lose_l2 f_statuses k2_1 → J p l e { frames := 0, cells := 0, slots := 0, locals := 0 } s m [.ref a_this].toArray below meth c D A 2 Q 0 0 [(a_this, .inr (12, mfs ad v_thrown v_connections (nI v_size) (nI v_ids) (nI v_dataAll) (nI v_putCount) (nI v_waiting) (nI v_readSize) v_power v_left v_since v_changes (nI v_rowSize))), (ad 18, .inl (ct 0, 4200, .inl t2_1))] [(0, .ref a_this), (1, .int (nI (1 + k2_1)))] [] 2 := by
    intro r2_1
    induction r2_1 with
    | zero =>
      intro k2_1 t2_1 hk_t2_1 e_t2_1 
      have hkk_t2_1 : v_ids = k2_1 := by omega
      subst hkk_t2_1
      refine j_iload_n X 1 dX12_lose_2 rfl (q := 3) rfl ?_
      refine j_aload_n X 0 dX12_lose_3 rfl (q := 4) rfl ?_
      refine j_get (f := 17) X 0 inT12 rfl rfl (by decide) mw_X12_lose_0 rfl dX12_lose_4 (q := 7) rfl ?_
      refine j_icmp_gt (tgt := 44) X dX12_lose_7 (by decide) (q := 10) rfl (fun c2 => ?_) (fun c2 => ?_)
      · skip
        have c2 : v_ids < 1 + v_ids := (nI_ltI (a := v_ids) (b := 1 + v_ids) (by omega) (by omega)).mp c2
        rw [hQ]
        exact j_vret X t2_1 dX12_lose_44 (by subst e_t2_1; rfl) rfl
      · skip
        have c2 : ¬ v_ids < 1 + v_ids := fun h => c2 ((nI_ltI (a := v_ids) (b := 1 + v_ids) (by omega) (by omega)).mpr h)
        exfalso; omega
    | succ r2_1 ih2_1 =>
      intro k2_1 t2_1 hk_t2_1 e_t2_1 
      refine j_iload_n X 1 dX12_lose_2 rfl (q := 3) rfl ?_
      refine j_aload_n X 0 dX12_lose_3 rfl (q := 4) rfl ?_
      refine j_get (f := 17) X 0 inT12 rfl rfl (by decide) mw_X12_lose_0 rfl dX12_lose_4 (q := 7) rfl ?_
      refine j_icmp_gt (tgt := 44) X dX12_lose_7 (by decide) (q := 10) rfl (fun c3 => ?_) (fun c3 => ?_)
      · skip
        have c3 : v_ids < 1 + k2_1 := (nI_ltI (a := v_ids) (b := 1 + k2_1) (by omega) (by omega)).mp c3
        exfalso; omega
      · skip
        have c3 : ¬ v_ids < 1 + k2_1 := fun h => c3 ((nI_ltI (a := v_ids) (b := 1 + k2_1) (by omega) (by omega)).mpr h)
        refine j_aload_n X 0 dX12_lose_10 rfl (q := 11) rfl ?_
        refine j_get (f := 18) X 0 inT12 rfl rfl (by decide) mw_X12_lose_1 rfl dX12_lose_11 (q := 14) rfl ?_
        refine j_iload_n X 1 dX12_lose_14 rfl (q := 15) rfl ?_
        refine j_aload_n X 0 dX12_lose_15 rfl (q := 16) rfl ?_
        refine j_get (f := 18) X 0 inT12 rfl rfl (by decide) mw_X12_lose_1 rfl dX12_lose_16 (q := 19) rfl ?_
        refine j_iload_n X 1 dX12_lose_19 rfl (q := 20) rfl ?_
        refine k_iald X 1 rfl (vp_in_nI (by omega) (by omega)) (nI_clamp (by omega)) dX12_lose_20 (q := 21) rfl ?_
        refine j_bipush (v := -100) X dX12_lose_21 (by decide) (q := 23) rfl ?_
        have KJ23_4 : ∀ g23_4 : (Int32), g23_4 = X12_lose_m23 t2_1 k2_1 → J p l e { frames := 0, cells := 0, slots := 0, locals := 0 } s m [.ref a_this].toArray below meth c D A 2 Q 0 0 [(a_this, .inr (12, mfs ad v_thrown v_connections (nI v_size) (nI v_ids) (nI v_dataAll) (nI v_putCount) (nI v_waiting) (nI v_readSize) v_power v_left v_since v_changes (nI v_rowSize))), (ad 18, .inl (ct 0, 4200, .inl t2_1))] [(0, .ref a_this), (1, .int (nI (1 + k2_1)))] [.int g23_4, .int (nI (1 + k2_1)), .ref (ad 18)] 37 := by
          intro g23_4 e_g23_4
          refine k_iast (ws2 := [(a_this, .inr (12, mfs ad v_thrown v_connections (nI v_size) (nI v_ids) (nI v_dataAll) (nI v_putCount) (nI v_waiting) (nI v_readSize) v_power v_left v_since v_changes (nI v_rowSize))), (ad 18, .inl (ct 0, 4200, .inl (upd t2_1 (1 + k2_1) g23_4)))]) X 1 rfl (vp_in_nI (by omega) (by omega)) (nI_clamp (by omega)) dX12_lose_37 rfl (q := 38) rfl ?_
          refine j_iinc (v := nI (1 + k2_1 + 1)) (lv' := [(1, .int (nI (1 + k2_1 + 1))), (0, .ref a_this)]) X 1 dX12_lose_38 rfl (nI_inc _ 1) (by decide) rfl (q := 41) rfl ?_
          refine j_goto (tgt := 2) X dX12_lose_41 (by decide) ?_
          refine j_lv (lv' := [(0, .ref a_this), (1, .int (nI (1 + k2_1 + 1)))]) [1, 0] rfl ?_
          have hb : X12_lose_l2 k2_1 t2_1 = upd t2_1 (1 + k2_1) g23_4 := (by subst e_g23_4; rfl)
          exact ih2_1 (k2_1 + 1) (upd t2_1 (1 + k2_1) g23_4) (by omega) (by rw [itr_s, ← e_t2_1]; exact hb.symm) 
        refine j_icmp_ne (tgt := 31) X dX12_lose_23 (by decide) (q := 26) rfl (fun c5 => ?_) (fun c5 => ?_)
        · skip
          refine j_aload_n X 0 dX12_lose_31 rfl (q := 32) rfl ?_
          refine j_get (f := 18) X 0 inT12 rfl rfl (by decide) mw_X12_lose_1 rfl dX12_lose_32 (q := 35) rfl ?_
          refine j_iload_n X 1 dX12_lose_35 rfl (q := 36) rfl ?_
          refine k_iald X 1 rfl (vp_in_nI (by omega) (by omega)) (nI_clamp (by omega)) dX12_lose_36 (q := 37) rfl ?_
          refine j_lv (lv' := [(0, .ref a_this), (1, .int (nI (1 + k2_1)))]) [0, 1] rfl ?_
          exact KJ23_4 (t2_1 (1 + k2_1)) (by first | rfl | (simp only [X12_lose_m23, if_neg c5]; done) | (simp only [X12_lose_m23, if_neg c5]; rfl))
        · skip
          refine j_bipush (v := -101) X dX12_lose_26 (by decide) (q := 28) rfl ?_
          refine j_goto (tgt := 37) X dX12_lose_28 (by decide) ?_
          refine j_lv (lv' := [(0, .ref a_this), (1, .int (nI (1 + k2_1)))]) [0, 1] rfl ?_
          exact KJ23_4 ((-101)) (by first | rfl | (simp only [X12_lose_m23, if_pos c5]; done) | (simp only [X12_lose_m23, if_pos c5]; rfl))
  exact LP2_1 v_ids 0 f_statuses (by omega) (itr_0 _ _).symm 
theorem cal_X12_lose : Cal yX12_lose cX12_lose 2 none 0 := ⟨tb_at 120 (by decide +kernel) (by decide +kernel), tb_at 1485 (by decide +kernel) (by decide +kernel), by decide +kernel, by decide +kernel, by decide +kernel⟩
theorem cwi_X12_lose : Cond.instanceMethod yX12_lose ∈ tb := tb_at 1484 (by decide +kernel) (by decide +kernel)
theorem cws_X12_lose : Cond.selects yX12_lose.cls yX12_lose yX12_lose ∈ tb := tb_at 49 (by decide +kernel) (by decide +kernel)
theorem mw_X12_status_0 : Cond.fieldLink "GuardedTreeModel" 293 "GuardedTreeModel" "thrown" "I" ∈ tb := tb_at 1237 (by decide +kernel) (by decide +kernel)
theorem mw_X12_status_1 : Cond.fieldLink "GuardedTreeModel" 387 "GuardedTreeModel" "ids" "I" ∈ tb := tb_at 1254 (by decide +kernel) (by decide +kernel)
theorem mw_X12_status_2 : Cond.fieldLink "GuardedTreeModel" 54 "GuardedTreeModel" "statuses" "[I" ∈ tb := tb_at 1255 (by decide +kernel) (by decide +kernel)
theorem dX12_status_0 : decode cX12_status 0 = .ok (.aload_n 0, 1) := by decide +kernel
theorem dX12_status_1 : decode cX12_status 1 = .ok (.iconst 0, 1) := by decide +kernel
theorem dX12_status_2 : decode cX12_status 2 = .ok (.putfield 293, 3) := by decide +kernel
theorem dX12_status_5 : decode cX12_status 5 = .ok (.iload_n 1, 1) := by decide +kernel
theorem dX12_status_6 : decode cX12_status 6 = .ok (.iconst 1, 1) := by decide +kernel
theorem dX12_status_7 : decode cX12_status 7 = .ok (.if_icmp .lt 11, 3) := by decide +kernel
theorem dX12_status_10 : decode cX12_status 10 = .ok (.iload_n 1, 1) := by decide +kernel
theorem dX12_status_11 : decode cX12_status 11 = .ok (.aload_n 0, 1) := by decide +kernel
theorem dX12_status_12 : decode cX12_status 12 = .ok (.getfield 387, 3) := by decide +kernel
theorem dX12_status_15 : decode cX12_status 15 = .ok (.if_icmp .le 8, 3) := by decide +kernel
theorem dX12_status_18 : decode cX12_status 18 = .ok (.bipush (-102), 2) := by decide +kernel
theorem dX12_status_20 : decode cX12_status 20 = .ok (.goto 9, 3) := by decide +kernel
theorem dX12_status_23 : decode cX12_status 23 = .ok (.aload_n 0, 1) := by decide +kernel
theorem dX12_status_24 : decode cX12_status 24 = .ok (.getfield 54, 3) := by decide +kernel
theorem dX12_status_27 : decode cX12_status 27 = .ok (.iload_n 1, 1) := by decide +kernel
theorem dX12_status_28 : decode cX12_status 28 = .ok (.iaload, 1) := by decide +kernel
theorem dX12_status_29 : decode cX12_status 29 = .ok (.ireturn, 1) := by decide +kernel
noncomputable def f_X12_status (v_ids : Nat) (f_statuses : Nat → Int32) (x1 : Int32) : Int32 × (Int32) :=
  if x1 < (nI 1) then
  (((-102), nI 0))
  else
  (if x1 ≤ (nI v_ids) then
  ((f_statuses x1.toNatClampNeg, nI 0))
  else
  (((-102), nI 0)))
set_option maxHeartbeats 4000000 in
set_option maxRecDepth 100000 in
theorem c_X12_status (l : Launch) (D : va_G) (ct : Nat → ClassId) (ts : Nat → Nat) (a_this : Nat) (ad : Nat → Nat) (v_thrown : Int32) (v_connections : Int32) (v_size : Nat) (v_ids : Nat) (v_dataAll : Nat) (v_putCount : Nat) (v_waiting : Nat) (v_readSize : Nat) (v_power : Int32) (v_left : Int32) (v_since : Int32) (v_changes : Int32) (v_rowSize : Nat) (f_statuses : Nat → Int32) (x1 : Int32)  (h_i : v_ids < 4200)  (sz : Nat) : Met l yX12_status (Cond.code yX12_status cX12_status 2 (some .int) :: tb) { frames := 0, cells := 0, slots := 0, locals := 0 } (PcG D ct SXL ts [.ref a_this, .int x1] [(a_this, .inr (12, mfs ad v_thrown v_connections (nI v_size) (nI v_ids) (nI v_dataAll) (nI v_putCount) (nI v_waiting) (nI v_readSize) v_power v_left v_since v_changes (nI v_rowSize))), (ad 18, .inl (ct 0, 4200, .inl f_statuses))] sz) (va_Qi (fun (r : Int32) (u : (Int32)) => (r, u) = f_X12_status v_ids f_statuses x1) (fun u => BG D ct (va_A [(a_this, .inr (12, mfs ad v_thrown v_connections (nI v_size) (nI v_ids) (nI v_dataAll) (nI v_putCount) (nI v_waiting) (nI v_readSize) v_power v_left v_since v_changes (nI v_rowSize))), (ad 18, .inl (ct 0, 4200, .inl f_statuses))] sz) [(a_this, .inr (12, mfs ad u v_connections (nI v_size) (nI v_ids) (nI v_dataAll) (nI v_putCount) (nI v_waiting) (nI v_readSize) v_power v_left v_since v_changes (nI v_rowSize))), (ad 18, .inl (ct 0, 4200, .inl f_statuses))]) (va_A [(a_this, .inr (12, mfs ad v_thrown v_connections (nI v_size) (nI v_ids) (nI v_dataAll) (nI v_putCount) (nI v_waiting) (nI v_readSize) v_power v_left v_since v_changes (nI v_rowSize))), (ad 18, .inl (ct 0, 4200, .inl f_statuses))] sz)) 0 0 (va_A [(a_this, .inr (12, mfs ad v_thrown v_connections (nI v_size) (nI v_ids) (nI v_dataAll) (nI v_putCount) (nI v_waiting) (nI v_readSize) v_power v_left v_since v_changes (nI v_rowSize))), (ad 18, .inl (ct 0, 4200, .inl f_statuses))] sz) := by
  refine metJ (l := l) (y := yX12_status) (cc := cX12_status) (maxL := 2) (ret := (some .int)) (rm := { frames := 0, cells := 0, slots := 0, locals := 0 }) (D := D) (ct := ct) (L := SXL) (ts := ts) (av := [.ref a_this, .int x1]) (ws := [(a_this, .inr (12, mfs ad v_thrown v_connections (nI v_size) (nI v_ids) (nI v_dataAll) (nI v_putCount) (nI v_waiting) (nI v_readSize) v_power v_left v_since v_changes (nI v_rowSize))), (ad 18, .inl (ct 0, 4200, .inl f_statuses))]) (sz := sz) (mc := 0) (ms := 0) (QcF := fun A => va_Qi (fun (r : Int32) (u : (Int32)) => (r, u) = f_X12_status v_ids f_statuses x1) (fun u => BG D ct A [(a_this, .inr (12, mfs ad u v_connections (nI v_size) (nI v_ids) (nI v_dataAll) (nI v_putCount) (nI v_waiting) (nI v_readSize) v_power v_left v_since v_changes (nI v_rowSize))), (ad 18, .inl (ct 0, 4200, .inl f_statuses))]) A) (by decide) (Nat.le_of_ble_eq_true rfl) ?_
  intro p e s m below meth c A X hnm
  obtain ⟨Q, hQ⟩ : ∃ Q, Q = MQ below (va_Qi (fun (r : Int32) (u : (Int32)) => (r, u) = f_X12_status v_ids f_statuses x1) (fun u => BG D ct A [(a_this, .inr (12, mfs ad u v_connections (nI v_size) (nI v_ids) (nI v_dataAll) (nI v_putCount) (nI v_waiting) (nI v_readSize) v_power v_left v_since v_changes (nI v_rowSize))), (ad 18, .inl (ct 0, 4200, .inl f_statuses))]) A) [.ref a_this, .int x1].toArray s 0 0 A := ⟨_, rfl⟩
  rw [← hQ]
  refine j_lve (lv' := [(0, .ref a_this), (1, .int x1)]) rfl ?_
  refine j_aload_n X 0 dX12_status_0 rfl (q := 1) rfl ?_
  refine j_iconst (v := nI 0) X dX12_status_1 (by decide) (q := 2) rfl ?_
  refine j_put (f := 0) (ws2 := [(a_this, .inr (12, mfs ad (nI 0) v_connections (nI v_size) (nI v_ids) (nI v_dataAll) (nI v_putCount) (nI v_waiting) (nI v_readSize) v_power v_left v_since v_changes (nI v_rowSize))), (ad 18, .inl (ct 0, 4200, .inl f_statuses))]) (ty := .int) X 0 inT12 tyX12_ok nmX12 rfl rfl (by decide) mw_X12_status_0 rfl rfl rfl rfl (Nat.le_of_ble_eq_true rfl) dX12_status_2 rfl (q := 5) rfl ?_
  refine j_iload_n X 1 dX12_status_5 rfl (q := 6) rfl ?_
  refine j_iconst (v := nI 1) X dX12_status_6 (by decide) (q := 7) rfl ?_
  refine j_icmp_lt (tgt := 18) X dX12_status_7 (by decide) (q := 10) rfl (fun c1 => ?_) (fun c1 => ?_)
  · skip
    refine j_bipush (v := -102) X dX12_status_18 (by decide) (q := 20) rfl ?_
    refine j_goto (tgt := 29) X dX12_status_20 (by decide) ?_
    rw [hQ]
    exact j_iret X (nI 0) dX12_status_29 (by first | rfl | (simp only [f_X12_status, if_pos c1]; done) | (simp only [f_X12_status, if_pos c1]; rfl)) rfl
  · skip
    refine j_iload_n X 1 dX12_status_10 rfl (q := 11) rfl ?_
    refine j_aload_n X 0 dX12_status_11 rfl (q := 12) rfl ?_
    refine j_get (f := 17) X 0 inT12 rfl rfl (by decide) mw_X12_status_1 rfl dX12_status_12 (q := 15) rfl ?_
    refine j_icmp_le (tgt := 23) X dX12_status_15 (by decide) (q := 18) rfl (fun c2 => ?_) (fun c2 => ?_)
    · skip
      refine j_aload_n X 0 dX12_status_23 rfl (q := 24) rfl ?_
      refine j_get (f := 18) X 0 inT12 rfl rfl (by decide) mw_X12_status_2 rfl dX12_status_24 (q := 27) rfl ?_
      refine j_iload_n X 1 dX12_status_27 rfl (q := 28) rfl ?_
      refine k_iald X 1 rfl (vp_id2 (by assumption) (by assumption) (by omega) (by decide)) rfl dX12_status_28 (q := 29) rfl ?_
      rw [hQ]
      exact j_iret X (nI 0) dX12_status_29 (by first | rfl | (simp only [f_X12_status, if_neg c1, if_pos c2]; done) | (simp only [f_X12_status, if_neg c1, if_pos c2]; rfl)) rfl
    · skip
      refine j_bipush (v := -102) X dX12_status_18 (by decide) (q := 20) rfl ?_
      refine j_goto (tgt := 29) X dX12_status_20 (by decide) ?_
      rw [hQ]
      exact j_iret X (nI 0) dX12_status_29 (by first | rfl | (simp only [f_X12_status, if_neg c1, if_neg c2]; done) | (simp only [f_X12_status, if_neg c1, if_neg c2]; rfl)) rfl
theorem cal_X12_status : Cal yX12_status cX12_status 2 (some .int) 1 := ⟨tb_at 120 (by decide +kernel) (by decide +kernel), tb_at 1607 (by decide +kernel) (by decide +kernel), by decide +kernel, by decide +kernel, by decide +kernel⟩
theorem cwi_X12_status : Cond.instanceMethod yX12_status ∈ tb := tb_at 1605 (by decide +kernel) (by decide +kernel)
theorem cws_X12_status : Cond.selects yX12_status.cls yX12_status yX12_status ∈ tb := tb_at 1606 (by decide +kernel) (by decide +kernel)
theorem mw_X12_way_0 : Cond.fieldLink "GuardedTreeModel" 293 "GuardedTreeModel" "thrown" "I" ∈ tb := tb_at 1237 (by decide +kernel) (by decide +kernel)
theorem mw_X12_way_1 : Cond.fieldLink "GuardedTreeModel" 29 "GuardedTreeModel" "waySize" "[I" ∈ tb := tb_at 1245 (by decide +kernel) (by decide +kernel)
theorem dX12_way_0 : decode cX12_way 0 = .ok (.aload_n 0, 1) := by decide +kernel
theorem dX12_way_1 : decode cX12_way 1 = .ok (.iload_n 1, 1) := by decide +kernel
theorem dX12_way_2 : decode cX12_way 2 = .ok (.ifCond .lt 8, 3) := by decide +kernel
theorem dX12_way_5 : decode cX12_way 5 = .ok (.iload_n 1, 1) := by decide +kernel
theorem dX12_way_6 : decode cX12_way 6 = .ok (.iconst 1, 1) := by decide +kernel
theorem dX12_way_7 : decode cX12_way 7 = .ok (.if_icmp .le 7, 3) := by decide +kernel
theorem dX12_way_10 : decode cX12_way 10 = .ok (.iconst 1, 1) := by decide +kernel
theorem dX12_way_11 : decode cX12_way 11 = .ok (.goto 4, 3) := by decide +kernel
theorem dX12_way_14 : decode cX12_way 14 = .ok (.iconst 0, 1) := by decide +kernel
theorem dX12_way_15 : decode cX12_way 15 = .ok (.putfield 293, 3) := by decide +kernel
theorem dX12_way_18 : decode cX12_way 18 = .ok (.aload_n 0, 1) := by decide +kernel
theorem dX12_way_19 : decode cX12_way 19 = .ok (.getfield 293, 3) := by decide +kernel
theorem dX12_way_22 : decode cX12_way 22 = .ok (.ifCond .le 7, 3) := by decide +kernel
theorem dX12_way_25 : decode cX12_way 25 = .ok (.iconst 0, 1) := by decide +kernel
theorem dX12_way_26 : decode cX12_way 26 = .ok (.goto 9, 3) := by decide +kernel
theorem dX12_way_29 : decode cX12_way 29 = .ok (.aload_n 0, 1) := by decide +kernel
theorem dX12_way_30 : decode cX12_way 30 = .ok (.getfield 29, 3) := by decide +kernel
theorem dX12_way_33 : decode cX12_way 33 = .ok (.iload_n 1, 1) := by decide +kernel
theorem dX12_way_34 : decode cX12_way 34 = .ok (.iaload, 1) := by decide +kernel
theorem dX12_way_35 : decode cX12_way 35 = .ok (.ireturn, 1) := by decide +kernel
noncomputable def f_X12_way (f_waySize : Nat → Int32) (x1 : Int32) : Int32 × (Int32) :=
  if x1 < 0 then
  ((nI 0, nI 1))
  else
  (if x1 ≤ (nI 1) then
  ((f_waySize x1.toNatClampNeg, nI 0))
  else
  ((nI 0, nI 1)))
set_option maxHeartbeats 4000000 in
set_option maxRecDepth 100000 in
theorem c_X12_way (l : Launch) (D : va_G) (ct : Nat → ClassId) (ts : Nat → Nat) (a_this : Nat) (ad : Nat → Nat) (v_thrown : Int32) (v_connections : Int32) (v_size : Nat) (v_ids : Nat) (v_dataAll : Nat) (v_putCount : Nat) (v_waiting : Nat) (v_readSize : Nat) (v_power : Int32) (v_left : Int32) (v_since : Int32) (v_changes : Int32) (v_rowSize : Nat) (f_waySize : Nat → Int32) (x1 : Int32)    (sz : Nat) : Met l yX12_way (Cond.code yX12_way cX12_way 2 (some .int) :: tb) { frames := 0, cells := 0, slots := 0, locals := 0 } (PcG D ct SXL ts [.ref a_this, .int x1] [(a_this, .inr (12, mfs ad v_thrown v_connections (nI v_size) (nI v_ids) (nI v_dataAll) (nI v_putCount) (nI v_waiting) (nI v_readSize) v_power v_left v_since v_changes (nI v_rowSize))), (ad 8, .inl (ct 0, 2, .inl f_waySize))] sz) (va_Qi (fun (r : Int32) (u : (Int32)) => (r, u) = f_X12_way f_waySize x1) (fun u => BG D ct (va_A [(a_this, .inr (12, mfs ad v_thrown v_connections (nI v_size) (nI v_ids) (nI v_dataAll) (nI v_putCount) (nI v_waiting) (nI v_readSize) v_power v_left v_since v_changes (nI v_rowSize))), (ad 8, .inl (ct 0, 2, .inl f_waySize))] sz) [(a_this, .inr (12, mfs ad u v_connections (nI v_size) (nI v_ids) (nI v_dataAll) (nI v_putCount) (nI v_waiting) (nI v_readSize) v_power v_left v_since v_changes (nI v_rowSize))), (ad 8, .inl (ct 0, 2, .inl f_waySize))]) (va_A [(a_this, .inr (12, mfs ad v_thrown v_connections (nI v_size) (nI v_ids) (nI v_dataAll) (nI v_putCount) (nI v_waiting) (nI v_readSize) v_power v_left v_since v_changes (nI v_rowSize))), (ad 8, .inl (ct 0, 2, .inl f_waySize))] sz)) 0 0 (va_A [(a_this, .inr (12, mfs ad v_thrown v_connections (nI v_size) (nI v_ids) (nI v_dataAll) (nI v_putCount) (nI v_waiting) (nI v_readSize) v_power v_left v_since v_changes (nI v_rowSize))), (ad 8, .inl (ct 0, 2, .inl f_waySize))] sz) := by
  refine metJ (l := l) (y := yX12_way) (cc := cX12_way) (maxL := 2) (ret := (some .int)) (rm := { frames := 0, cells := 0, slots := 0, locals := 0 }) (D := D) (ct := ct) (L := SXL) (ts := ts) (av := [.ref a_this, .int x1]) (ws := [(a_this, .inr (12, mfs ad v_thrown v_connections (nI v_size) (nI v_ids) (nI v_dataAll) (nI v_putCount) (nI v_waiting) (nI v_readSize) v_power v_left v_since v_changes (nI v_rowSize))), (ad 8, .inl (ct 0, 2, .inl f_waySize))]) (sz := sz) (mc := 0) (ms := 0) (QcF := fun A => va_Qi (fun (r : Int32) (u : (Int32)) => (r, u) = f_X12_way f_waySize x1) (fun u => BG D ct A [(a_this, .inr (12, mfs ad u v_connections (nI v_size) (nI v_ids) (nI v_dataAll) (nI v_putCount) (nI v_waiting) (nI v_readSize) v_power v_left v_since v_changes (nI v_rowSize))), (ad 8, .inl (ct 0, 2, .inl f_waySize))]) A) (by decide) (Nat.le_of_ble_eq_true rfl) ?_
  intro p e s m below meth c A X hnm
  obtain ⟨Q, hQ⟩ : ∃ Q, Q = MQ below (va_Qi (fun (r : Int32) (u : (Int32)) => (r, u) = f_X12_way f_waySize x1) (fun u => BG D ct A [(a_this, .inr (12, mfs ad u v_connections (nI v_size) (nI v_ids) (nI v_dataAll) (nI v_putCount) (nI v_waiting) (nI v_readSize) v_power v_left v_since v_changes (nI v_rowSize))), (ad 8, .inl (ct 0, 2, .inl f_waySize))]) A) [.ref a_this, .int x1].toArray s 0 0 A := ⟨_, rfl⟩
  rw [← hQ]
  refine j_lve (lv' := [(0, .ref a_this), (1, .int x1)]) rfl ?_
  refine j_aload_n X 0 dX12_way_0 rfl (q := 1) rfl ?_
  refine j_iload_n X 1 dX12_way_1 rfl (q := 2) rfl ?_
  refine j_if_lt (tgt := 10) X dX12_way_2 (by decide) (q := 5) rfl (fun c1 => ?_) (fun c1 => ?_)
  · skip
    refine j_iconst (v := nI 1) X dX12_way_10 (by decide) (q := 11) rfl ?_
    refine j_goto (tgt := 15) X dX12_way_11 (by decide) ?_
    refine j_put (f := 0) (ws2 := [(a_this, .inr (12, mfs ad (nI 1) v_connections (nI v_size) (nI v_ids) (nI v_dataAll) (nI v_putCount) (nI v_waiting) (nI v_readSize) v_power v_left v_since v_changes (nI v_rowSize))), (ad 8, .inl (ct 0, 2, .inl f_waySize))]) (ty := .int) X 0 inT12 tyX12_ok nmX12 rfl rfl (by decide) mw_X12_way_0 rfl rfl rfl rfl (Nat.le_of_ble_eq_true rfl) dX12_way_15 rfl (q := 18) rfl ?_
    refine j_aload_n X 0 dX12_way_18 rfl (q := 19) rfl ?_
    refine j_get (f := 0) X 0 inT12 rfl rfl (by decide) mw_X12_way_0 rfl dX12_way_19 (q := 22) rfl ?_
    refine j_if_le (tgt := 29) X dX12_way_22 (by decide) (q := 25) rfl (fun c2 => ?_) (fun c2 => ?_)
    · skip
      have c2 : 1 ≤ 0 := (nI_leI (a := 1) (b := 0) (by omega) (by omega)).mp c2
      exfalso; omega
    · skip
      have c2 : ¬ 1 ≤ 0 := fun h => c2 ((nI_leI (a := 1) (b := 0) (by omega) (by omega)).mpr h)
      refine j_iconst (v := nI 0) X dX12_way_25 (by decide) (q := 26) rfl ?_
      refine j_goto (tgt := 35) X dX12_way_26 (by decide) ?_
      rw [hQ]
      exact j_iret X (nI 1) dX12_way_35 (by first | rfl | (simp only [f_X12_way, if_pos c1]; done) | (simp only [f_X12_way, if_pos c1]; rfl)) rfl
  · skip
    refine j_iload_n X 1 dX12_way_5 rfl (q := 6) rfl ?_
    refine j_iconst (v := nI 1) X dX12_way_6 (by decide) (q := 7) rfl ?_
    refine j_icmp_le (tgt := 14) X dX12_way_7 (by decide) (q := 10) rfl (fun c3 => ?_) (fun c3 => ?_)
    · skip
      refine j_iconst (v := nI 0) X dX12_way_14 (by decide) (q := 15) rfl ?_
      refine j_put (f := 0) (ws2 := [(a_this, .inr (12, mfs ad (nI 0) v_connections (nI v_size) (nI v_ids) (nI v_dataAll) (nI v_putCount) (nI v_waiting) (nI v_readSize) v_power v_left v_since v_changes (nI v_rowSize))), (ad 8, .inl (ct 0, 2, .inl f_waySize))]) (ty := .int) X 0 inT12 tyX12_ok nmX12 rfl rfl (by decide) mw_X12_way_0 rfl rfl rfl rfl (Nat.le_of_ble_eq_true rfl) dX12_way_15 rfl (q := 18) rfl ?_
      refine j_aload_n X 0 dX12_way_18 rfl (q := 19) rfl ?_
      refine j_get (f := 0) X 0 inT12 rfl rfl (by decide) mw_X12_way_0 rfl dX12_way_19 (q := 22) rfl ?_
      refine j_if_le (tgt := 29) X dX12_way_22 (by decide) (q := 25) rfl (fun c4 => ?_) (fun c4 => ?_)
      · skip
        have c4 : 0 ≤ 0 := (nI_leI (a := 0) (b := 0) (by omega) (by omega)).mp c4
        refine j_aload_n X 0 dX12_way_29 rfl (q := 30) rfl ?_
        refine j_get (f := 8) X 0 inT12 rfl rfl (by decide) mw_X12_way_1 rfl dX12_way_30 (q := 33) rfl ?_
        refine j_iload_n X 1 dX12_way_33 rfl (q := 34) rfl ?_
        refine k_iald X 1 rfl (vp_dir (by assumption) (by assumption)) rfl dX12_way_34 (q := 35) rfl ?_
        rw [hQ]
        exact j_iret X (nI 0) dX12_way_35 (by first | rfl | (simp only [f_X12_way, if_neg c1, if_pos c3]; done) | (simp only [f_X12_way, if_neg c1, if_pos c3]; rfl)) rfl
      · skip
        have c4 : ¬ 0 ≤ 0 := fun h => c4 ((nI_leI (a := 0) (b := 0) (by omega) (by omega)).mpr h)
        exfalso; omega
    · skip
      refine j_iconst (v := nI 1) X dX12_way_10 (by decide) (q := 11) rfl ?_
      refine j_goto (tgt := 15) X dX12_way_11 (by decide) ?_
      refine j_put (f := 0) (ws2 := [(a_this, .inr (12, mfs ad (nI 1) v_connections (nI v_size) (nI v_ids) (nI v_dataAll) (nI v_putCount) (nI v_waiting) (nI v_readSize) v_power v_left v_since v_changes (nI v_rowSize))), (ad 8, .inl (ct 0, 2, .inl f_waySize))]) (ty := .int) X 0 inT12 tyX12_ok nmX12 rfl rfl (by decide) mw_X12_way_0 rfl rfl rfl rfl (Nat.le_of_ble_eq_true rfl) dX12_way_15 rfl (q := 18) rfl ?_
      refine j_aload_n X 0 dX12_way_18 rfl (q := 19) rfl ?_
      refine j_get (f := 0) X 0 inT12 rfl rfl (by decide) mw_X12_way_0 rfl dX12_way_19 (q := 22) rfl ?_
      refine j_if_le (tgt := 29) X dX12_way_22 (by decide) (q := 25) rfl (fun c5 => ?_) (fun c5 => ?_)
      · skip
        have c5 : 1 ≤ 0 := (nI_leI (a := 1) (b := 0) (by omega) (by omega)).mp c5
        exfalso; omega
      · skip
        have c5 : ¬ 1 ≤ 0 := fun h => c5 ((nI_leI (a := 1) (b := 0) (by omega) (by omega)).mpr h)
        refine j_iconst (v := nI 0) X dX12_way_25 (by decide) (q := 26) rfl ?_
        refine j_goto (tgt := 35) X dX12_way_26 (by decide) ?_
        rw [hQ]
        exact j_iret X (nI 1) dX12_way_35 (by first | rfl | (simp only [f_X12_way, if_neg c1, if_neg c3]; done) | (simp only [f_X12_way, if_neg c1, if_neg c3]; rfl)) rfl
theorem cal_X12_way : Cal yX12_way cX12_way 2 (some .int) 1 := ⟨tb_at 120 (by decide +kernel) (by decide +kernel), tb_at 1619 (by decide +kernel) (by decide +kernel), by decide +kernel, by decide +kernel, by decide +kernel⟩
theorem cwi_X12_way : Cond.instanceMethod yX12_way ∈ tb := tb_at 1617 (by decide +kernel) (by decide +kernel)
theorem cws_X12_way : Cond.selects yX12_way.cls yX12_way yX12_way ∈ tb := tb_at 1618 (by decide +kernel) (by decide +kernel)
theorem mw_X12_isNoOctet_0 : Cond.fieldLink "GuardedTreeModel" 293 "GuardedTreeModel" "thrown" "I" ∈ tb := tb_at 1237 (by decide +kernel) (by decide +kernel)
theorem mw_X12_isNoOctet_1 : Cond.fieldLink "GuardedTreeModel" 29 "GuardedTreeModel" "waySize" "[I" ∈ tb := tb_at 1245 (by decide +kernel) (by decide +kernel)
theorem dX12_isNoOctet_0 : decode cX12_isNoOctet 0 = .ok (.aload_n 0, 1) := by decide +kernel
theorem dX12_isNoOctet_1 : decode cX12_isNoOctet 1 = .ok (.iload_n 1, 1) := by decide +kernel
theorem dX12_isNoOctet_2 : decode cX12_isNoOctet 2 = .ok (.ifCond .lt 22, 3) := by decide +kernel
theorem dX12_isNoOctet_5 : decode cX12_isNoOctet 5 = .ok (.iload_n 1, 1) := by decide +kernel
theorem dX12_isNoOctet_6 : decode cX12_isNoOctet 6 = .ok (.iconst 1, 1) := by decide +kernel
theorem dX12_isNoOctet_7 : decode cX12_isNoOctet 7 = .ok (.if_icmp .gt 17, 3) := by decide +kernel
theorem dX12_isNoOctet_10 : decode cX12_isNoOctet 10 = .ok (.iload_n 2, 1) := by decide +kernel
theorem dX12_isNoOctet_11 : decode cX12_isNoOctet 11 = .ok (.ifCond .lt 13, 3) := by decide +kernel
theorem dX12_isNoOctet_14 : decode cX12_isNoOctet 14 = .ok (.iload_n 2, 1) := by decide +kernel
theorem dX12_isNoOctet_15 : decode cX12_isNoOctet 15 = .ok (.aload_n 0, 1) := by decide +kernel
theorem dX12_isNoOctet_16 : decode cX12_isNoOctet 16 = .ok (.getfield 29, 3) := by decide +kernel
theorem dX12_isNoOctet_19 : decode cX12_isNoOctet 19 = .ok (.iload_n 1, 1) := by decide +kernel
theorem dX12_isNoOctet_20 : decode cX12_isNoOctet 20 = .ok (.iaload, 1) := by decide +kernel
theorem dX12_isNoOctet_21 : decode cX12_isNoOctet 21 = .ok (.if_icmp .lt 7, 3) := by decide +kernel
theorem dX12_isNoOctet_24 : decode cX12_isNoOctet 24 = .ok (.iconst 1, 1) := by decide +kernel
theorem dX12_isNoOctet_25 : decode cX12_isNoOctet 25 = .ok (.goto 4, 3) := by decide +kernel
theorem dX12_isNoOctet_28 : decode cX12_isNoOctet 28 = .ok (.iconst 0, 1) := by decide +kernel
theorem dX12_isNoOctet_29 : decode cX12_isNoOctet 29 = .ok (.putfield 293, 3) := by decide +kernel
theorem dX12_isNoOctet_32 : decode cX12_isNoOctet 32 = .ok (.aload_n 0, 1) := by decide +kernel
theorem dX12_isNoOctet_33 : decode cX12_isNoOctet 33 = .ok (.getfield 293, 3) := by decide +kernel
theorem dX12_isNoOctet_36 : decode cX12_isNoOctet 36 = .ok (.ifCond .le 7, 3) := by decide +kernel
theorem dX12_isNoOctet_39 : decode cX12_isNoOctet 39 = .ok (.iconst 1, 1) := by decide +kernel
theorem dX12_isNoOctet_40 : decode cX12_isNoOctet 40 = .ok (.goto 4, 3) := by decide +kernel
theorem dX12_isNoOctet_43 : decode cX12_isNoOctet 43 = .ok (.iconst 0, 1) := by decide +kernel
theorem dX12_isNoOctet_44 : decode cX12_isNoOctet 44 = .ok (.ireturn, 1) := by decide +kernel
noncomputable def X12_isNoOctet_m2 (x1 : Int32) (x2 : Int32) (f_waySize : Nat → Int32) : (Int32) :=
  if x1 < 0 then
  (nI 1)
  else
  (if (nI 1) < x1 then
  (nI 1)
  else
  (if x2 < 0 then
  (nI 1)
  else
  (if x2 < (f_waySize x1.toNatClampNeg) then
  (nI 0)
  else
  (nI 1))))
noncomputable def f_X12_isNoOctet (f_waySize : Nat → Int32) (x1 : Int32) (x2 : Int32) : Int32 × (Int32) :=
  let g2_1 := X12_isNoOctet_m2 x1 x2 f_waySize
  if g2_1 ≤ 0 then
  ((nI 0, g2_1))
  else
  ((nI 1, g2_1))
set_option maxHeartbeats 4000000 in
set_option maxRecDepth 100000 in
theorem c_X12_isNoOctet (l : Launch) (D : va_G) (ct : Nat → ClassId) (ts : Nat → Nat) (a_this : Nat) (ad : Nat → Nat) (v_thrown : Int32) (v_connections : Int32) (v_size : Nat) (v_ids : Nat) (v_dataAll : Nat) (v_putCount : Nat) (v_waiting : Nat) (v_readSize : Nat) (v_power : Int32) (v_left : Int32) (v_since : Int32) (v_changes : Int32) (v_rowSize : Nat) (f_waySize : Nat → Int32) (x1 : Int32) (x2 : Int32)    (sz : Nat) : Met l yX12_isNoOctet (Cond.code yX12_isNoOctet cX12_isNoOctet 3 (some .boolean) :: tb) { frames := 0, cells := 0, slots := 0, locals := 0 } (PcG D ct SXL ts [.ref a_this, .int x1, .int x2] [(a_this, .inr (12, mfs ad v_thrown v_connections (nI v_size) (nI v_ids) (nI v_dataAll) (nI v_putCount) (nI v_waiting) (nI v_readSize) v_power v_left v_since v_changes (nI v_rowSize))), (ad 8, .inl (ct 0, 2, .inl f_waySize))] sz) (va_Qi (fun (r : Int32) (u : (Int32)) => (r, u) = f_X12_isNoOctet f_waySize x1 x2) (fun u => BG D ct (va_A [(a_this, .inr (12, mfs ad v_thrown v_connections (nI v_size) (nI v_ids) (nI v_dataAll) (nI v_putCount) (nI v_waiting) (nI v_readSize) v_power v_left v_since v_changes (nI v_rowSize))), (ad 8, .inl (ct 0, 2, .inl f_waySize))] sz) [(a_this, .inr (12, mfs ad u v_connections (nI v_size) (nI v_ids) (nI v_dataAll) (nI v_putCount) (nI v_waiting) (nI v_readSize) v_power v_left v_since v_changes (nI v_rowSize))), (ad 8, .inl (ct 0, 2, .inl f_waySize))]) (va_A [(a_this, .inr (12, mfs ad v_thrown v_connections (nI v_size) (nI v_ids) (nI v_dataAll) (nI v_putCount) (nI v_waiting) (nI v_readSize) v_power v_left v_since v_changes (nI v_rowSize))), (ad 8, .inl (ct 0, 2, .inl f_waySize))] sz)) 0 0 (va_A [(a_this, .inr (12, mfs ad v_thrown v_connections (nI v_size) (nI v_ids) (nI v_dataAll) (nI v_putCount) (nI v_waiting) (nI v_readSize) v_power v_left v_since v_changes (nI v_rowSize))), (ad 8, .inl (ct 0, 2, .inl f_waySize))] sz) := by
  refine metJ (l := l) (y := yX12_isNoOctet) (cc := cX12_isNoOctet) (maxL := 3) (ret := (some .boolean)) (rm := { frames := 0, cells := 0, slots := 0, locals := 0 }) (D := D) (ct := ct) (L := SXL) (ts := ts) (av := [.ref a_this, .int x1, .int x2]) (ws := [(a_this, .inr (12, mfs ad v_thrown v_connections (nI v_size) (nI v_ids) (nI v_dataAll) (nI v_putCount) (nI v_waiting) (nI v_readSize) v_power v_left v_since v_changes (nI v_rowSize))), (ad 8, .inl (ct 0, 2, .inl f_waySize))]) (sz := sz) (mc := 0) (ms := 0) (QcF := fun A => va_Qi (fun (r : Int32) (u : (Int32)) => (r, u) = f_X12_isNoOctet f_waySize x1 x2) (fun u => BG D ct A [(a_this, .inr (12, mfs ad u v_connections (nI v_size) (nI v_ids) (nI v_dataAll) (nI v_putCount) (nI v_waiting) (nI v_readSize) v_power v_left v_since v_changes (nI v_rowSize))), (ad 8, .inl (ct 0, 2, .inl f_waySize))]) A) (by decide) (Nat.le_of_ble_eq_true rfl) ?_
  intro p e s m below meth c A X hnm
  obtain ⟨Q, hQ⟩ : ∃ Q, Q = MQ below (va_Qi (fun (r : Int32) (u : (Int32)) => (r, u) = f_X12_isNoOctet f_waySize x1 x2) (fun u => BG D ct A [(a_this, .inr (12, mfs ad u v_connections (nI v_size) (nI v_ids) (nI v_dataAll) (nI v_putCount) (nI v_waiting) (nI v_readSize) v_power v_left v_since v_changes (nI v_rowSize))), (ad 8, .inl (ct 0, 2, .inl f_waySize))]) A) [.ref a_this, .int x1, .int x2].toArray s 0 0 A := ⟨_, rfl⟩
  rw [← hQ]
  refine j_lve (lv' := [(0, .ref a_this), (1, .int x1), (2, .int x2)]) rfl ?_
  refine j_aload_n X 0 dX12_isNoOctet_0 rfl (q := 1) rfl ?_
  refine j_iload_n X 1 dX12_isNoOctet_1 rfl (q := 2) rfl ?_
  have KJ2_1 : ∀ g2_1 : (Int32), g2_1 = X12_isNoOctet_m2 x1 x2 f_waySize → J p l e { frames := 0, cells := 0, slots := 0, locals := 0 } s m [.ref a_this, .int x1, .int x2].toArray below meth c D A 3 Q 0 0 [(a_this, .inr (12, mfs ad v_thrown v_connections (nI v_size) (nI v_ids) (nI v_dataAll) (nI v_putCount) (nI v_waiting) (nI v_readSize) v_power v_left v_since v_changes (nI v_rowSize))), (ad 8, .inl (ct 0, 2, .inl f_waySize))] [(0, .ref a_this), (1, .int x1), (2, .int x2)] [.int g2_1, .ref a_this] 29 := by
    intro g2_1 e_g2_1
    refine j_put (f := 0) (ws2 := [(a_this, .inr (12, mfs ad g2_1 v_connections (nI v_size) (nI v_ids) (nI v_dataAll) (nI v_putCount) (nI v_waiting) (nI v_readSize) v_power v_left v_since v_changes (nI v_rowSize))), (ad 8, .inl (ct 0, 2, .inl f_waySize))]) (ty := .int) X 0 inT12 tyX12_ok nmX12 rfl rfl (by decide) mw_X12_isNoOctet_0 rfl rfl rfl rfl (Nat.le_of_ble_eq_true rfl) dX12_isNoOctet_29 rfl (q := 32) rfl ?_
    refine j_aload_n X 0 dX12_isNoOctet_32 rfl (q := 33) rfl ?_
    refine j_get (f := 0) X 0 inT12 rfl rfl (by decide) mw_X12_isNoOctet_0 rfl dX12_isNoOctet_33 (q := 36) rfl ?_
    refine j_if_le (tgt := 43) X dX12_isNoOctet_36 (by decide) (q := 39) rfl (fun c6 => ?_) (fun c6 => ?_)
    · skip
      refine j_iconst (v := nI 0) X dX12_isNoOctet_43 (by decide) (q := 44) rfl ?_
      rw [hQ]
      exact j_zret X g2_1 (by decide) dX12_isNoOctet_44 (by subst e_g2_1; first | rfl | (simp only [f_X12_isNoOctet, if_pos c6]; done) | (simp only [f_X12_isNoOctet, if_pos c6]; rfl)) rfl
    · skip
      refine j_iconst (v := nI 1) X dX12_isNoOctet_39 (by decide) (q := 40) rfl ?_
      refine j_goto (tgt := 44) X dX12_isNoOctet_40 (by decide) ?_
      rw [hQ]
      exact j_zret X g2_1 (by decide) dX12_isNoOctet_44 (by subst e_g2_1; first | rfl | (simp only [f_X12_isNoOctet, if_neg c6]; done) | (simp only [f_X12_isNoOctet, if_neg c6]; rfl)) rfl
  refine j_if_lt (tgt := 24) X dX12_isNoOctet_2 (by decide) (q := 5) rfl (fun c2 => ?_) (fun c2 => ?_)
  · skip
    refine j_iconst (v := nI 1) X dX12_isNoOctet_24 (by decide) (q := 25) rfl ?_
    refine j_goto (tgt := 29) X dX12_isNoOctet_25 (by decide) ?_
    refine j_lv (lv' := [(0, .ref a_this), (1, .int x1), (2, .int x2)]) [0, 1, 2] rfl ?_
    exact KJ2_1 (nI 1) (by first | rfl | (simp only [X12_isNoOctet_m2, if_pos c2]; done) | (simp only [X12_isNoOctet_m2, if_pos c2]; rfl))
  · skip
    refine j_iload_n X 1 dX12_isNoOctet_5 rfl (q := 6) rfl ?_
    refine j_iconst (v := nI 1) X dX12_isNoOctet_6 (by decide) (q := 7) rfl ?_
    refine j_icmp_gt (tgt := 24) X dX12_isNoOctet_7 (by decide) (q := 10) rfl (fun c3 => ?_) (fun c3 => ?_)
    · skip
      refine j_iconst (v := nI 1) X dX12_isNoOctet_24 (by decide) (q := 25) rfl ?_
      refine j_goto (tgt := 29) X dX12_isNoOctet_25 (by decide) ?_
      refine j_lv (lv' := [(0, .ref a_this), (1, .int x1), (2, .int x2)]) [0, 1, 2] rfl ?_
      exact KJ2_1 (nI 1) (by first | rfl | (simp only [X12_isNoOctet_m2, if_neg c2, if_pos c3]; done) | (simp only [X12_isNoOctet_m2, if_neg c2, if_pos c3]; rfl))
    · skip
      refine j_iload_n X 2 dX12_isNoOctet_10 rfl (q := 11) rfl ?_
      refine j_if_lt (tgt := 24) X dX12_isNoOctet_11 (by decide) (q := 14) rfl (fun c4 => ?_) (fun c4 => ?_)
      · skip
        refine j_iconst (v := nI 1) X dX12_isNoOctet_24 (by decide) (q := 25) rfl ?_
        refine j_goto (tgt := 29) X dX12_isNoOctet_25 (by decide) ?_
        refine j_lv (lv' := [(0, .ref a_this), (1, .int x1), (2, .int x2)]) [0, 1, 2] rfl ?_
        exact KJ2_1 (nI 1) (by first | rfl | (simp only [X12_isNoOctet_m2, if_neg c2, if_neg c3, if_pos c4]; done) | (simp only [X12_isNoOctet_m2, if_neg c2, if_neg c3, if_pos c4]; rfl))
      · skip
        refine j_iload_n X 2 dX12_isNoOctet_14 rfl (q := 15) rfl ?_
        refine j_aload_n X 0 dX12_isNoOctet_15 rfl (q := 16) rfl ?_
        refine j_get (f := 8) X 0 inT12 rfl rfl (by decide) mw_X12_isNoOctet_1 rfl dX12_isNoOctet_16 (q := 19) rfl ?_
        refine j_iload_n X 1 dX12_isNoOctet_19 rfl (q := 20) rfl ?_
        refine k_iald X 1 rfl (vp_dir2 (by assumption) (by assumption)) rfl dX12_isNoOctet_20 (q := 21) rfl ?_
        refine j_icmp_lt (tgt := 28) X dX12_isNoOctet_21 (by decide) (q := 24) rfl (fun c5 => ?_) (fun c5 => ?_)
        · skip
          refine j_iconst (v := nI 0) X dX12_isNoOctet_28 (by decide) (q := 29) rfl ?_
          refine j_lv (lv' := [(0, .ref a_this), (1, .int x1), (2, .int x2)]) [0, 1, 2] rfl ?_
          exact KJ2_1 (nI 0) (by first | rfl | (simp only [X12_isNoOctet_m2, if_neg c2, if_neg c3, if_neg c4, if_pos c5]; done) | (simp only [X12_isNoOctet_m2, if_neg c2, if_neg c3, if_neg c4, if_pos c5]; rfl))
        · skip
          refine j_iconst (v := nI 1) X dX12_isNoOctet_24 (by decide) (q := 25) rfl ?_
          refine j_goto (tgt := 29) X dX12_isNoOctet_25 (by decide) ?_
          refine j_lv (lv' := [(0, .ref a_this), (1, .int x1), (2, .int x2)]) [0, 1, 2] rfl ?_
          exact KJ2_1 (nI 1) (by first | rfl | (simp only [X12_isNoOctet_m2, if_neg c2, if_neg c3, if_neg c4, if_neg c5]; done) | (simp only [X12_isNoOctet_m2, if_neg c2, if_neg c3, if_neg c4, if_neg c5]; rfl))
theorem cal_X12_isNoOctet : Cal yX12_isNoOctet cX12_isNoOctet 3 (some .boolean) 2 := ⟨tb_at 120 (by decide +kernel) (by decide +kernel), tb_at 1627 (by decide +kernel) (by decide +kernel), by decide +kernel, by decide +kernel, by decide +kernel⟩
theorem cwi_X12_isNoOctet : Cond.instanceMethod yX12_isNoOctet ∈ tb := tb_at 1626 (by decide +kernel) (by decide +kernel)
theorem cws_X12_isNoOctet : Cond.selects yX12_isNoOctet.cls yX12_isNoOctet yX12_isNoOctet ∈ tb := tb_at 73 (by decide +kernel) (by decide +kernel)
theorem mw_X12_endAll_0 : Cond.fieldLink "GuardedTreeModel" 29 "GuardedTreeModel" "waySize" "[I" ∈ tb := tb_at 1245 (by decide +kernel) (by decide +kernel)
theorem mw_X12_endAll_1 : Cond.fieldLink "GuardedTreeModel" 7 "GuardedTreeModel" "state" "[I" ∈ tb := tb_at 1239 (by decide +kernel) (by decide +kernel)
theorem mw_X12_endAll_2 : Cond.fieldLink "GuardedTreeModel" 23 "GuardedTreeModel" "cameSize" "[I" ∈ tb := tb_at 1243 (by decide +kernel) (by decide +kernel)
theorem mw_X12_endAll_3 : Cond.methodLink "GuardedTreeModel" 390 yX12_lose ∈ tb := tb_at 1482 (by decide +kernel) (by decide +kernel)
theorem mw_X12_endAll_4 : Cond.methodLink "GuardedTreeModel" 393 yX12_forgetServer ∈ tb := tb_at 1486 (by decide +kernel) (by decide +kernel)
theorem dX12_endAll_0 : decode cX12_endAll 0 = .ok (.aload_n 0, 1) := by decide +kernel
theorem dX12_endAll_1 : decode cX12_endAll 1 = .ok (.invokevirtual 390, 3) := by decide +kernel
theorem dX12_endAll_4 : decode cX12_endAll 4 = .ok (.aload_n 0, 1) := by decide +kernel
theorem dX12_endAll_5 : decode cX12_endAll 5 = .ok (.getfield 29, 3) := by decide +kernel
theorem dX12_endAll_8 : decode cX12_endAll 8 = .ok (.iconst 0, 1) := by decide +kernel
theorem dX12_endAll_9 : decode cX12_endAll 9 = .ok (.iconst 0, 1) := by decide +kernel
theorem dX12_endAll_10 : decode cX12_endAll 10 = .ok (.iastore, 1) := by decide +kernel
theorem dX12_endAll_11 : decode cX12_endAll 11 = .ok (.aload_n 0, 1) := by decide +kernel
theorem dX12_endAll_12 : decode cX12_endAll 12 = .ok (.getfield 29, 3) := by decide +kernel
theorem dX12_endAll_15 : decode cX12_endAll 15 = .ok (.iconst 1, 1) := by decide +kernel
theorem dX12_endAll_16 : decode cX12_endAll 16 = .ok (.iconst 0, 1) := by decide +kernel
theorem dX12_endAll_17 : decode cX12_endAll 17 = .ok (.iastore, 1) := by decide +kernel
theorem dX12_endAll_18 : decode cX12_endAll 18 = .ok (.aload_n 0, 1) := by decide +kernel
theorem dX12_endAll_19 : decode cX12_endAll 19 = .ok (.getfield 7, 3) := by decide +kernel
theorem dX12_endAll_22 : decode cX12_endAll 22 = .ok (.iconst 0, 1) := by decide +kernel
theorem dX12_endAll_23 : decode cX12_endAll 23 = .ok (.iconst 0, 1) := by decide +kernel
theorem dX12_endAll_24 : decode cX12_endAll 24 = .ok (.iastore, 1) := by decide +kernel
theorem dX12_endAll_25 : decode cX12_endAll 25 = .ok (.aload_n 0, 1) := by decide +kernel
theorem dX12_endAll_26 : decode cX12_endAll 26 = .ok (.getfield 7, 3) := by decide +kernel
theorem dX12_endAll_29 : decode cX12_endAll 29 = .ok (.iconst 1, 1) := by decide +kernel
theorem dX12_endAll_30 : decode cX12_endAll 30 = .ok (.iconst 0, 1) := by decide +kernel
theorem dX12_endAll_31 : decode cX12_endAll 31 = .ok (.iastore, 1) := by decide +kernel
theorem dX12_endAll_32 : decode cX12_endAll 32 = .ok (.aload_n 0, 1) := by decide +kernel
theorem dX12_endAll_33 : decode cX12_endAll 33 = .ok (.invokevirtual 393, 3) := by decide +kernel
theorem dX12_endAll_36 : decode cX12_endAll 36 = .ok (.aload_n 0, 1) := by decide +kernel
theorem dX12_endAll_37 : decode cX12_endAll 37 = .ok (.getfield 23, 3) := by decide +kernel
theorem dX12_endAll_40 : decode cX12_endAll 40 = .ok (.iconst 0, 1) := by decide +kernel
theorem dX12_endAll_41 : decode cX12_endAll 41 = .ok (.iconst 0, 1) := by decide +kernel
theorem dX12_endAll_42 : decode cX12_endAll 42 = .ok (.iastore, 1) := by decide +kernel
theorem dX12_endAll_43 : decode cX12_endAll 43 = .ok (.return_, 1) := by decide +kernel
noncomputable def f_X12_endAll (v_ids : Nat) (f_statuses : Nat → Int32) (f_waySize : Nat → Int32) (f_state : Nat → Int32) (f_cameSize : Nat → Int32) : (Nat) × (Nat → Int32) × (Nat → Int32) × (Nat → Int32) × (Nat → Int32) :=
  let u1 := f_X12_lose v_ids f_statuses
  let u3 := f_X12_forgetServer f_cameSize
  (u3.1, upd u3.2 0 (nI 0), upd (upd f_state 0 (nI 0)) 1 (nI 0), u1, upd (upd f_waySize 0 (nI 0)) 1 (nI 0))
set_option maxHeartbeats 4000000 in
set_option maxRecDepth 100000 in
theorem c_X12_endAll (l : Launch) (D : va_G) (ct : Nat → ClassId) (ts : Nat → Nat) (a_this : Nat) (ad : Nat → Nat) (v_thrown : Int32) (v_connections : Int32) (v_size : Nat) (v_ids : Nat) (v_dataAll : Nat) (v_putCount : Nat) (v_waiting : Nat) (v_readSize : Nat) (v_power : Int32) (v_left : Int32) (v_since : Int32) (v_changes : Int32) (v_rowSize : Nat) (f_statuses : Nat → Int32) (f_waySize : Nat → Int32) (f_state : Nat → Int32) (f_cameSize : Nat → Int32)  (h_i : v_ids < 4200)  (sz : Nat) : Met l yX12_endAll (Cond.code yX12_endAll cX12_endAll 1 none :: tb) { frames := 1, cells := 0, slots := 0, locals := 21 } (PcG D ct SXL ts [.ref a_this] [(a_this, .inr (12, mfs ad v_thrown v_connections (nI v_size) (nI v_ids) (nI v_dataAll) (nI v_putCount) (nI v_waiting) (nI v_readSize) v_power v_left v_since v_changes (nI v_rowSize))), (ad 18, .inl (ct 0, 4200, .inl f_statuses)), (ad 8, .inl (ct 0, 2, .inl f_waySize)), (ad 2, .inl (ct 0, 2, .inl f_state)), (ad 6, .inl (ct 0, 2, .inl f_cameSize))] sz) (va_Qv (fun u : (Nat) × (Nat → Int32) × (Nat → Int32) × (Nat → Int32) × (Nat → Int32) => u = f_X12_endAll v_ids f_statuses f_waySize f_state f_cameSize) (fun u => BG D ct (va_A [(a_this, .inr (12, mfs ad v_thrown v_connections (nI v_size) (nI v_ids) (nI v_dataAll) (nI v_putCount) (nI v_waiting) (nI v_readSize) v_power v_left v_since v_changes (nI v_rowSize))), (ad 18, .inl (ct 0, 4200, .inl f_statuses)), (ad 8, .inl (ct 0, 2, .inl f_waySize)), (ad 2, .inl (ct 0, 2, .inl f_state)), (ad 6, .inl (ct 0, 2, .inl f_cameSize))] sz) [(a_this, .inr (12, mfs ad v_thrown v_connections (nI v_size) (nI v_ids) (nI v_dataAll) (nI v_putCount) (nI u.1) (nI v_readSize) v_power v_left v_since v_changes (nI v_rowSize))), (ad 18, .inl (ct 0, 4200, .inl u.2.2.2.1)), (ad 8, .inl (ct 0, 2, .inl u.2.2.2.2)), (ad 2, .inl (ct 0, 2, .inl u.2.2.1)), (ad 6, .inl (ct 0, 2, .inl u.2.1))]) (va_A [(a_this, .inr (12, mfs ad v_thrown v_connections (nI v_size) (nI v_ids) (nI v_dataAll) (nI v_putCount) (nI v_waiting) (nI v_readSize) v_power v_left v_since v_changes (nI v_rowSize))), (ad 18, .inl (ct 0, 4200, .inl f_statuses)), (ad 8, .inl (ct 0, 2, .inl f_waySize)), (ad 2, .inl (ct 0, 2, .inl f_state)), (ad 6, .inl (ct 0, 2, .inl f_cameSize))] sz)) 0 0 (va_A [(a_this, .inr (12, mfs ad v_thrown v_connections (nI v_size) (nI v_ids) (nI v_dataAll) (nI v_putCount) (nI v_waiting) (nI v_readSize) v_power v_left v_since v_changes (nI v_rowSize))), (ad 18, .inl (ct 0, 4200, .inl f_statuses)), (ad 8, .inl (ct 0, 2, .inl f_waySize)), (ad 2, .inl (ct 0, 2, .inl f_state)), (ad 6, .inl (ct 0, 2, .inl f_cameSize))] sz) := by
  refine metJ (l := l) (y := yX12_endAll) (cc := cX12_endAll) (maxL := 1) (ret := none) (rm := { frames := 1, cells := 0, slots := 0, locals := 21 }) (D := D) (ct := ct) (L := SXL) (ts := ts) (av := [.ref a_this]) (ws := [(a_this, .inr (12, mfs ad v_thrown v_connections (nI v_size) (nI v_ids) (nI v_dataAll) (nI v_putCount) (nI v_waiting) (nI v_readSize) v_power v_left v_since v_changes (nI v_rowSize))), (ad 18, .inl (ct 0, 4200, .inl f_statuses)), (ad 8, .inl (ct 0, 2, .inl f_waySize)), (ad 2, .inl (ct 0, 2, .inl f_state)), (ad 6, .inl (ct 0, 2, .inl f_cameSize))]) (sz := sz) (mc := 0) (ms := 0) (QcF := fun A => va_Qv (fun u : (Nat) × (Nat → Int32) × (Nat → Int32) × (Nat → Int32) × (Nat → Int32) => u = f_X12_endAll v_ids f_statuses f_waySize f_state f_cameSize) (fun u => BG D ct A [(a_this, .inr (12, mfs ad v_thrown v_connections (nI v_size) (nI v_ids) (nI v_dataAll) (nI v_putCount) (nI u.1) (nI v_readSize) v_power v_left v_since v_changes (nI v_rowSize))), (ad 18, .inl (ct 0, 4200, .inl u.2.2.2.1)), (ad 8, .inl (ct 0, 2, .inl u.2.2.2.2)), (ad 2, .inl (ct 0, 2, .inl u.2.2.1)), (ad 6, .inl (ct 0, 2, .inl u.2.1))]) A) (by decide) (Nat.le_of_ble_eq_true rfl) ?_
  intro p e s m below meth c A X hnm
  obtain ⟨Q, hQ⟩ : ∃ Q, Q = MQ below (va_Qv (fun u : (Nat) × (Nat → Int32) × (Nat → Int32) × (Nat → Int32) × (Nat → Int32) => u = f_X12_endAll v_ids f_statuses f_waySize f_state f_cameSize) (fun u => BG D ct A [(a_this, .inr (12, mfs ad v_thrown v_connections (nI v_size) (nI v_ids) (nI v_dataAll) (nI v_putCount) (nI u.1) (nI v_readSize) v_power v_left v_since v_changes (nI v_rowSize))), (ad 18, .inl (ct 0, 4200, .inl u.2.2.2.1)), (ad 8, .inl (ct 0, 2, .inl u.2.2.2.2)), (ad 2, .inl (ct 0, 2, .inl u.2.2.1)), (ad 6, .inl (ct 0, 2, .inl u.2.1))]) A) [.ref a_this].toArray s 0 0 A := ⟨_, rfl⟩
  rw [← hQ]
  refine j_lve (lv' := [(0, .ref a_this)]) rfl ?_
  refine j_aload_n X 0 dX12_endAll_0 rfl (q := 1) rfl ?_
  refine j_callVv (As := []) (rest := []) (wn := (fun u1 => [(a_this, .inr (12, mfs ad v_thrown v_connections (nI v_size) (nI v_ids) (nI v_dataAll) (nI v_putCount) (nI v_waiting) (nI v_readSize) v_power v_left v_since v_changes (nI v_rowSize))), (ad 18, .inl (ct 0, 4200, .inl u1)), (ad 8, .inl (ct 0, 2, .inl f_waySize)), (ad 2, .inl (ct 0, 2, .inl f_state)), (ad 6, .inl (ct 0, 2, .inl f_cameSize))])) (wr := [(ad 8, .inl (ct 0, 2, .inl f_waySize)), (ad 2, .inl (ct 0, 2, .inl f_state)), (ad 6, .inl (ct 0, 2, .inl f_cameSize))]) X (fun sz => c_X12_lose l D ct ts a_this ad v_thrown v_connections v_size v_ids v_dataAll v_putCount v_waiting v_readSize v_power v_left v_since v_changes v_rowSize f_statuses (by first | omega | assumption) sz) cal_X12_lose 0 rfl rfl mw_X12_endAll_3 cwi_X12_lose cws_X12_lose rfl ⟨by decide, by decide⟩ rfl rfl (Nat.le_of_ble_eq_true rfl) ⟨by decide, by decide⟩ [0, 1] [2, 3, 4] [3, 4, 0, 1, 2] rfl (by decide) rfl (by decide) (by decide) (fun _ => rfl) (by decide) dX12_endAll_1 (q := 4) rfl (fun u1 hu1 => ?_)
  refine j_aload_n X 0 dX12_endAll_4 rfl (q := 5) rfl ?_
  refine j_get (f := 8) X 0 inT12 rfl rfl (by decide) mw_X12_endAll_0 rfl dX12_endAll_5 (q := 8) rfl ?_
  refine j_iconst (v := nI 0) X dX12_endAll_8 (by decide) (q := 9) rfl ?_
  refine j_iconst (v := nI 0) X dX12_endAll_9 (by decide) (q := 10) rfl ?_
  refine k_iast (ws2 := [(a_this, .inr (12, mfs ad v_thrown v_connections (nI v_size) (nI v_ids) (nI v_dataAll) (nI v_putCount) (nI v_waiting) (nI v_readSize) v_power v_left v_since v_changes (nI v_rowSize))), (ad 18, .inl (ct 0, 4200, .inl u1)), (ad 8, .inl (ct 0, 2, .inl (upd f_waySize 0 (nI 0)))), (ad 2, .inl (ct 0, 2, .inl f_state)), (ad 6, .inl (ct 0, 2, .inl f_cameSize))]) X 2 rfl (vp_in_nI (by omega) (by omega)) (nI_clamp (by omega)) dX12_endAll_10 rfl (q := 11) rfl ?_
  refine j_aload_n X 0 dX12_endAll_11 rfl (q := 12) rfl ?_
  refine j_get (f := 8) X 0 inT12 rfl rfl (by decide) mw_X12_endAll_0 rfl dX12_endAll_12 (q := 15) rfl ?_
  refine j_iconst (v := nI 1) X dX12_endAll_15 (by decide) (q := 16) rfl ?_
  refine j_iconst (v := nI 0) X dX12_endAll_16 (by decide) (q := 17) rfl ?_
  refine k_iast (ws2 := [(a_this, .inr (12, mfs ad v_thrown v_connections (nI v_size) (nI v_ids) (nI v_dataAll) (nI v_putCount) (nI v_waiting) (nI v_readSize) v_power v_left v_since v_changes (nI v_rowSize))), (ad 18, .inl (ct 0, 4200, .inl u1)), (ad 8, .inl (ct 0, 2, .inl (upd (upd f_waySize 0 (nI 0)) 1 (nI 0)))), (ad 2, .inl (ct 0, 2, .inl f_state)), (ad 6, .inl (ct 0, 2, .inl f_cameSize))]) X 2 rfl (vp_in_nI (by omega) (by omega)) (nI_clamp (by omega)) dX12_endAll_17 rfl (q := 18) rfl ?_
  refine j_aload_n X 0 dX12_endAll_18 rfl (q := 19) rfl ?_
  refine j_get (f := 2) X 0 inT12 rfl rfl (by decide) mw_X12_endAll_1 rfl dX12_endAll_19 (q := 22) rfl ?_
  refine j_iconst (v := nI 0) X dX12_endAll_22 (by decide) (q := 23) rfl ?_
  refine j_iconst (v := nI 0) X dX12_endAll_23 (by decide) (q := 24) rfl ?_
  refine k_iast (ws2 := [(a_this, .inr (12, mfs ad v_thrown v_connections (nI v_size) (nI v_ids) (nI v_dataAll) (nI v_putCount) (nI v_waiting) (nI v_readSize) v_power v_left v_since v_changes (nI v_rowSize))), (ad 18, .inl (ct 0, 4200, .inl u1)), (ad 8, .inl (ct 0, 2, .inl (upd (upd f_waySize 0 (nI 0)) 1 (nI 0)))), (ad 2, .inl (ct 0, 2, .inl (upd f_state 0 (nI 0)))), (ad 6, .inl (ct 0, 2, .inl f_cameSize))]) X 3 rfl (vp_in_nI (by omega) (by omega)) (nI_clamp (by omega)) dX12_endAll_24 rfl (q := 25) rfl ?_
  refine j_aload_n X 0 dX12_endAll_25 rfl (q := 26) rfl ?_
  refine j_get (f := 2) X 0 inT12 rfl rfl (by decide) mw_X12_endAll_1 rfl dX12_endAll_26 (q := 29) rfl ?_
  refine j_iconst (v := nI 1) X dX12_endAll_29 (by decide) (q := 30) rfl ?_
  refine j_iconst (v := nI 0) X dX12_endAll_30 (by decide) (q := 31) rfl ?_
  refine k_iast (ws2 := [(a_this, .inr (12, mfs ad v_thrown v_connections (nI v_size) (nI v_ids) (nI v_dataAll) (nI v_putCount) (nI v_waiting) (nI v_readSize) v_power v_left v_since v_changes (nI v_rowSize))), (ad 18, .inl (ct 0, 4200, .inl u1)), (ad 8, .inl (ct 0, 2, .inl (upd (upd f_waySize 0 (nI 0)) 1 (nI 0)))), (ad 2, .inl (ct 0, 2, .inl (upd (upd f_state 0 (nI 0)) 1 (nI 0)))), (ad 6, .inl (ct 0, 2, .inl f_cameSize))]) X 3 rfl (vp_in_nI (by omega) (by omega)) (nI_clamp (by omega)) dX12_endAll_31 rfl (q := 32) rfl ?_
  refine j_aload_n X 0 dX12_endAll_32 rfl (q := 33) rfl ?_
  refine j_callVv (As := []) (rest := []) (wn := (fun u3 => [(a_this, .inr (12, mfs ad v_thrown v_connections (nI v_size) (nI v_ids) (nI v_dataAll) (nI v_putCount) (nI u3.1) (nI v_readSize) v_power v_left v_since v_changes (nI v_rowSize))), (ad 18, .inl (ct 0, 4200, .inl u1)), (ad 8, .inl (ct 0, 2, .inl (upd (upd f_waySize 0 (nI 0)) 1 (nI 0)))), (ad 2, .inl (ct 0, 2, .inl (upd (upd f_state 0 (nI 0)) 1 (nI 0)))), (ad 6, .inl (ct 0, 2, .inl u3.2))])) (wr := [(ad 18, .inl (ct 0, 4200, .inl u1)), (ad 8, .inl (ct 0, 2, .inl (upd (upd f_waySize 0 (nI 0)) 1 (nI 0)))), (ad 2, .inl (ct 0, 2, .inl (upd (upd f_state 0 (nI 0)) 1 (nI 0))))]) X (fun sz => c_X12_forgetServer l D ct ts a_this ad v_thrown v_connections v_size v_ids v_dataAll v_putCount v_waiting v_readSize v_power v_left v_since v_changes v_rowSize f_cameSize  sz) cal_X12_forgetServer 0 rfl rfl mw_X12_endAll_4 cwi_X12_forgetServer cws_X12_forgetServer rfl ⟨by decide, by decide⟩ rfl rfl (Nat.le_of_ble_eq_true rfl) ⟨by decide, by decide⟩ [0, 4] [1, 2, 3] [3, 0, 1, 2, 4] rfl (by decide) rfl (by decide) (by decide) (fun _ => rfl) (by decide) dX12_endAll_33 (q := 36) rfl (fun u3 hu3 => ?_)
  refine j_aload_n X 0 dX12_endAll_36 rfl (q := 37) rfl ?_
  refine j_get (f := 6) X 0 inT12 rfl rfl (by decide) mw_X12_endAll_2 rfl dX12_endAll_37 (q := 40) rfl ?_
  refine j_iconst (v := nI 0) X dX12_endAll_40 (by decide) (q := 41) rfl ?_
  refine j_iconst (v := nI 0) X dX12_endAll_41 (by decide) (q := 42) rfl ?_
  refine k_iast (ws2 := [(a_this, .inr (12, mfs ad v_thrown v_connections (nI v_size) (nI v_ids) (nI v_dataAll) (nI v_putCount) (nI u3.1) (nI v_readSize) v_power v_left v_since v_changes (nI v_rowSize))), (ad 18, .inl (ct 0, 4200, .inl u1)), (ad 8, .inl (ct 0, 2, .inl (upd (upd f_waySize 0 (nI 0)) 1 (nI 0)))), (ad 2, .inl (ct 0, 2, .inl (upd (upd f_state 0 (nI 0)) 1 (nI 0)))), (ad 6, .inl (ct 0, 2, .inl (upd u3.2 0 (nI 0))))]) X 4 rfl (vp_in_nI (by omega) (by omega)) (nI_clamp (by omega)) dX12_endAll_42 rfl (q := 43) rfl ?_
  rw [hQ]
  exact j_vret X ((u3.1, upd u3.2 0 (nI 0), upd (upd f_state 0 (nI 0)) 1 (nI 0), u1, upd (upd f_waySize 0 (nI 0)) 1 (nI 0))) dX12_endAll_43 (by subst hu1; subst hu3; rfl) rfl
theorem cal_X12_endAll : Cal yX12_endAll cX12_endAll 1 none 0 := ⟨tb_at 120 (by decide +kernel) (by decide +kernel), tb_at 1481 (by decide +kernel) (by decide +kernel), by decide +kernel, by decide +kernel, by decide +kernel⟩
theorem cwi_X12_endAll : Cond.instanceMethod yX12_endAll ∈ tb := tb_at 1480 (by decide +kernel) (by decide +kernel)
theorem cws_X12_endAll : Cond.selects yX12_endAll.cls yX12_endAll yX12_endAll ∈ tb := tb_at 48 (by decide +kernel) (by decide +kernel)
