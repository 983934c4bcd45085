theorem noct {f : Nat → Int32} {x1 x2 : Int32} (hf : ∀ j, j < 2 → ∃ m : Nat, m ≤ 9999 ∧ f j = nI m) (h : (f_X12_isNoOctet f x1 x2).1 = 0) : vp_in (nI 10000 * x1 + x2) 20000 := by
  have h2 : X12_isNoOctet_m2 x1 x2 f ≤ 0 := by
    by_cases q : X12_isNoOctet_m2 x1 x2 f ≤ 0
    · exact q
    · simp only [f_X12_isNoOctet, if_neg q] at h
      exact absurd h (by decide)
  unfold X12_isNoOctet_m2 at h2
  split at h2
  · exact absurd h2 (by decide)
  · rename_i a1
    split at h2
    · exact absurd h2 (by decide)
    · rename_i a2
      split at h2
      · exact absurd h2 (by decide)
      · rename_i a3
        split at h2
        · rename_i a4
          obtain ⟨a, ha, rfl⟩ := vp_in_of (vp_dir2 a1 a2) (by decide)
          rw [nI_clamp (by omega)] at a4
          obtain ⟨m, hm, e⟩ := hf a ha
          rw [e] at a4
          obtain ⟨b, hb, rfl⟩ := nI_of a3
          have hb2 := (nI_ltI hb (by omega)).mp a4
          rw [pk_mul, nI_add]
          exact vp_in_nI (by omega) (by decide)
        · exact absurd h2 (by decide)
theorem mw_X12_octet_0 : Cond.fieldLink "GuardedTreeModel" 26 "GuardedTreeModel" "way" "[B" ∈ tb := tb_at 1244 (by decide +kernel) (by decide +kernel)
theorem mw_X12_octet_1 : Cond.methodLink "GuardedTreeModel" 502 yX12_isNoOctet ∈ tb := tb_at 1624 (by decide +kernel) (by decide +kernel)
theorem dX12_octet_0 : decode cX12_octet 0 = .ok (.aload_n 0, 1) := by decide +kernel
theorem dX12_octet_1 : decode cX12_octet 1 = .ok (.iload_n 1, 1) := by decide +kernel
theorem dX12_octet_2 : decode cX12_octet 2 = .ok (.iload_n 2, 1) := by decide +kernel
theorem dX12_octet_3 : decode cX12_octet 3 = .ok (.invokevirtual 502, 3) := by decide +kernel
theorem dX12_octet_6 : decode cX12_octet 6 = .ok (.ifCond .eq 7, 3) := by decide +kernel
theorem dX12_octet_9 : decode cX12_octet 9 = .ok (.iconst 0, 1) := by decide +kernel
theorem dX12_octet_10 : decode cX12_octet 10 = .ok (.goto 19, 3) := by decide +kernel
theorem dX12_octet_13 : decode cX12_octet 13 = .ok (.aload_n 0, 1) := by decide +kernel
theorem dX12_octet_14 : decode cX12_octet 14 = .ok (.getfield 26, 3) := by decide +kernel
theorem dX12_octet_17 : decode cX12_octet 17 = .ok (.sipush 10000, 3) := by decide +kernel
theorem dX12_octet_20 : decode cX12_octet 20 = .ok (.iload_n 1, 1) := by decide +kernel
theorem dX12_octet_21 : decode cX12_octet 21 = .ok (.imul, 1) := by decide +kernel
theorem dX12_octet_22 : decode cX12_octet 22 = .ok (.iload_n 2, 1) := by decide +kernel
theorem dX12_octet_23 : decode cX12_octet 23 = .ok (.iadd, 1) := by decide +kernel
theorem dX12_octet_24 : decode cX12_octet 24 = .ok (.baload, 1) := by decide +kernel
theorem dX12_octet_25 : decode cX12_octet 25 = .ok (.sipush 255, 3) := by decide +kernel
theorem dX12_octet_28 : decode cX12_octet 28 = .ok (.iand, 1) := by decide +kernel
theorem dX12_octet_29 : decode cX12_octet 29 = .ok (.ireturn, 1) := by decide +kernel
noncomputable def f_X12_octet (f_waySize : Nat → Int32) (f_way : Nat → Int32) (x1 : Int32) (x2 : Int32) : Int32 × (Int32) :=
  let w3 := f_X12_isNoOctet f_waySize x1 x2
  if w3.1 = 0 then
  (((f_way ((((nI 10000) * x1) + x2).toNatClampNeg)) &&& (nI 255), w3.2))
  else
  ((nI 0, w3.2))
set_option maxHeartbeats 4000000 in
set_option maxRecDepth 100000 in
theorem c_X12_octet (l : Launch) (D : va_G) (ct : Nat → ClassId) (ts : Nat → Nat) (a_this : Nat) (ad : Nat → Nat) (v_thrown : Int32) (v_connections : Int32) (v_size : Nat) (v_ids : Nat) (v_dataAll : Nat) (v_putCount : Nat) (v_waiting : Nat) (v_readSize : Nat) (v_power : Int32) (v_left : Int32) (v_since : Int32) (v_changes : Int32) (v_rowSize : Nat) (f_waySize : Nat → Int32) (f_way : Nat → Int32) (x1 : Int32) (x2 : Int32)  (hway : ∀ j, j < 2 → ∃ m : Nat, m ≤ 9999 ∧ f_waySize j = nI m)  (sz : Nat) : Met l yX12_octet (Cond.code yX12_octet cX12_octet 3 (some .int) :: tb) { frames := 1, cells := 0, slots := 0, locals := 22 } (PcG D ct SXL ts [.ref a_this, .int x1, .int x2] [(a_this, .inr (12, mfs ad v_thrown v_connections (nI v_size) (nI v_ids) (nI v_dataAll) (nI v_putCount) (nI v_waiting) (nI v_readSize) v_power v_left v_since v_changes (nI v_rowSize))), (ad 8, .inl (ct 0, 2, .inl f_waySize)), (ad 7, .inl (ct 1, 20000, .inl f_way))] sz) (va_Qi (fun (r : Int32) (u : (Int32)) => (r, u) = f_X12_octet f_waySize f_way x1 x2) (fun u => BG D ct (va_A [(a_this, .inr (12, mfs ad v_thrown v_connections (nI v_size) (nI v_ids) (nI v_dataAll) (nI v_putCount) (nI v_waiting) (nI v_readSize) v_power v_left v_since v_changes (nI v_rowSize))), (ad 8, .inl (ct 0, 2, .inl f_waySize)), (ad 7, .inl (ct 1, 20000, .inl f_way))] sz) [(a_this, .inr (12, mfs ad u v_connections (nI v_size) (nI v_ids) (nI v_dataAll) (nI v_putCount) (nI v_waiting) (nI v_readSize) v_power v_left v_since v_changes (nI v_rowSize))), (ad 8, .inl (ct 0, 2, .inl f_waySize)), (ad 7, .inl (ct 1, 20000, .inl f_way))]) (va_A [(a_this, .inr (12, mfs ad v_thrown v_connections (nI v_size) (nI v_ids) (nI v_dataAll) (nI v_putCount) (nI v_waiting) (nI v_readSize) v_power v_left v_since v_changes (nI v_rowSize))), (ad 8, .inl (ct 0, 2, .inl f_waySize)), (ad 7, .inl (ct 1, 20000, .inl f_way))] sz)) 0 0 (va_A [(a_this, .inr (12, mfs ad v_thrown v_connections (nI v_size) (nI v_ids) (nI v_dataAll) (nI v_putCount) (nI v_waiting) (nI v_readSize) v_power v_left v_since v_changes (nI v_rowSize))), (ad 8, .inl (ct 0, 2, .inl f_waySize)), (ad 7, .inl (ct 1, 20000, .inl f_way))] sz) := by
  refine metJ (l := l) (y := yX12_octet) (cc := cX12_octet) (maxL := 3) (ret := (some .int)) (rm := { frames := 1, cells := 0, slots := 0, locals := 22 }) (D := D) (ct := ct) (L := SXL) (ts := ts) (av := [.ref a_this, .int x1, .int x2]) (ws := [(a_this, .inr (12, mfs ad v_thrown v_connections (nI v_size) (nI v_ids) (nI v_dataAll) (nI v_putCount) (nI v_waiting) (nI v_readSize) v_power v_left v_since v_changes (nI v_rowSize))), (ad 8, .inl (ct 0, 2, .inl f_waySize)), (ad 7, .inl (ct 1, 20000, .inl f_way))]) (sz := sz) (mc := 0) (ms := 0) (QcF := fun A => va_Qi (fun (r : Int32) (u : (Int32)) => (r, u) = f_X12_octet f_waySize f_way x1 x2) (fun u => BG D ct A [(a_this, .inr (12, mfs ad u v_connections (nI v_size) (nI v_ids) (nI v_dataAll) (nI v_putCount) (nI v_waiting) (nI v_readSize) v_power v_left v_since v_changes (nI v_rowSize))), (ad 8, .inl (ct 0, 2, .inl f_waySize)), (ad 7, .inl (ct 1, 20000, .inl f_way))]) A) (by decide) (Nat.le_of_ble_eq_true rfl) ?_
  intro p e s m below meth c A X hnm
  obtain ⟨Q, hQ⟩ : ∃ Q, Q = MQ below (va_Qi (fun (r : Int32) (u : (Int32)) => (r, u) = f_X12_octet f_waySize f_way x1 x2) (fun u => BG D ct A [(a_this, .inr (12, mfs ad u v_connections (nI v_size) (nI v_ids) (nI v_dataAll) (nI v_putCount) (nI v_waiting) (nI v_readSize) v_power v_left v_since v_changes (nI v_rowSize))), (ad 8, .inl (ct 0, 2, .inl f_waySize)), (ad 7, .inl (ct 1, 20000, .inl f_way))]) A) [.ref a_this, .int x1, .int x2].toArray s 0 0 A := ⟨_, rfl⟩
  rw [← hQ]
  refine j_lve (lv' := [(0, .ref a_this), (1, .int x1), (2, .int x2)]) rfl ?_
  refine j_aload_n X 0 dX12_octet_0 rfl (q := 1) rfl ?_
  refine j_iload_n X 1 dX12_octet_1 rfl (q := 2) rfl ?_
  refine j_iload_n X 2 dX12_octet_2 rfl (q := 3) rfl ?_
  refine j_callVi (As := [.int x1, .int x2]) (rest := []) (wn := (fun u1 => [(a_this, .inr (12, mfs ad u1 v_connections (nI v_size) (nI v_ids) (nI v_dataAll) (nI v_putCount) (nI v_waiting) (nI v_readSize) v_power v_left v_since v_changes (nI v_rowSize))), (ad 8, .inl (ct 0, 2, .inl f_waySize)), (ad 7, .inl (ct 1, 20000, .inl f_way))])) (wr := [(ad 7, .inl (ct 1, 20000, .inl f_way))]) X (fun sz => c_X12_isNoOctet l D ct ts a_this ad v_thrown v_connections v_size v_ids v_dataAll v_putCount v_waiting v_readSize v_power v_left v_since v_changes v_rowSize f_waySize x1 x2  sz) cal_X12_isNoOctet 0 rfl rfl mw_X12_octet_1 cwi_X12_isNoOctet cws_X12_isNoOctet rfl ⟨by decide, by decide⟩ rfl rfl (Nat.le_of_ble_eq_true rfl) ⟨by decide, by decide⟩ [0, 1] [2] [1, 2, 0] rfl (by decide) rfl (by decide) (by decide) (fun _ => rfl) (by decide) dX12_octet_3 (q := 6) rfl (fun r2 u1 hu1 => ?_)
  obtain ⟨w3, e_w3, rfl, rfl⟩ : ∃ w, w = f_X12_isNoOctet f_waySize x1 x2 ∧ r2 = w.1 ∧ u1 = w.2 := ⟨_, rfl, congrArg Prod.fst hu1, congrArg Prod.snd hu1⟩
  refine j_if_eq (tgt := 13) X dX12_octet_6 (by decide) (q := 9) rfl (fun c4 => ?_) (fun c4 => ?_)
  · skip
    refine j_aload_n X 0 dX12_octet_13 rfl (q := 14) rfl ?_
    refine j_get (f := 7) X 0 inT12 rfl rfl (by decide) mw_X12_octet_0 rfl dX12_octet_14 (q := 17) rfl ?_
    refine j_sipush (v := nI 10000) X dX12_octet_17 (by decide) (q := 20) rfl ?_
    refine j_iload_n X 1 dX12_octet_20 rfl (q := 21) rfl ?_
    refine j_imul X dX12_octet_21 (q := 22) rfl ?_
    refine j_iload_n X 2 dX12_octet_22 rfl (q := 23) rfl ?_
    refine j_iadd X dX12_octet_23 (q := 24) rfl ?_
    refine k_bald X 2 rfl (noct hway (by rw [← e_w3]; assumption)) rfl dX12_octet_24 (q := 25) rfl ?_
    refine j_sipush (v := nI 255) X dX12_octet_25 (by decide) (q := 28) rfl ?_
    refine j_iand X dX12_octet_28 (q := 29) rfl ?_
    rw [hQ]
    exact j_iret X w3.2 dX12_octet_29 (by subst e_w3; first | rfl | (simp only [f_X12_octet, if_pos c4]; done) | (simp only [f_X12_octet, if_pos c4]; rfl)) rfl
  · skip
    refine j_iconst (v := nI 0) X dX12_octet_9 (by decide) (q := 10) rfl ?_
    refine j_goto (tgt := 29) X dX12_octet_10 (by decide) ?_
    rw [hQ]
    exact j_iret X w3.2 dX12_octet_29 (by subst e_w3; first | rfl | (simp only [f_X12_octet, if_neg c4]; done) | (simp only [f_X12_octet, if_neg c4]; rfl)) rfl
theorem cal_X12_octet : Cal yX12_octet cX12_octet 3 (some .int) 2 := ⟨tb_at 120 (by decide +kernel) (by decide +kernel), tb_at 1623 (by decide +kernel) (by decide +kernel), by decide +kernel, by decide +kernel, by decide +kernel⟩
theorem cwi_X12_octet : Cond.instanceMethod yX12_octet ∈ tb := tb_at 1621 (by decide +kernel) (by decide +kernel)
theorem cws_X12_octet : Cond.selects yX12_octet.cls yX12_octet yX12_octet ∈ tb := tb_at 1622 (by decide +kernel) (by decide +kernel)
theorem mw_X12_alter_0 : Cond.fieldLink "GuardedTreeModel" 26 "GuardedTreeModel" "way" "[B" ∈ tb := tb_at 1244 (by decide +kernel) (by decide +kernel)
theorem mw_X12_alter_1 : Cond.methodLink "GuardedTreeModel" 502 yX12_isNoOctet ∈ tb := tb_at 1624 (by decide +kernel) (by decide +kernel)
theorem dX12_alter_0 : decode cX12_alter 0 = .ok (.aload_n 0, 1) := by decide +kernel
theorem dX12_alter_1 : decode cX12_alter 1 = .ok (.iload_n 1, 1) := by decide +kernel
theorem dX12_alter_2 : decode cX12_alter 2 = .ok (.iload_n 2, 1) := by decide +kernel
theorem dX12_alter_3 : decode cX12_alter 3 = .ok (.invokevirtual 502, 3) := by decide +kernel
theorem dX12_alter_6 : decode cX12_alter 6 = .ok (.ifCond .ne 30, 3) := by decide +kernel
theorem dX12_alter_9 : decode cX12_alter 9 = .ok (.aload_n 0, 1) := by decide +kernel
theorem dX12_alter_10 : decode cX12_alter 10 = .ok (.getfield 26, 3) := by decide +kernel
theorem dX12_alter_13 : decode cX12_alter 13 = .ok (.sipush 10000, 3) := by decide +kernel
theorem dX12_alter_16 : decode cX12_alter 16 = .ok (.iload_n 1, 1) := by decide +kernel
theorem dX12_alter_17 : decode cX12_alter 17 = .ok (.imul, 1) := by decide +kernel
theorem dX12_alter_18 : decode cX12_alter 18 = .ok (.iload_n 2, 1) := by decide +kernel
theorem dX12_alter_19 : decode cX12_alter 19 = .ok (.iadd, 1) := by decide +kernel
theorem dX12_alter_20 : decode cX12_alter 20 = .ok (.aload_n 0, 1) := by decide +kernel
theorem dX12_alter_21 : decode cX12_alter 21 = .ok (.getfield 26, 3) := by decide +kernel
theorem dX12_alter_24 : decode cX12_alter 24 = .ok (.sipush 10000, 3) := by decide +kernel
theorem dX12_alter_27 : decode cX12_alter 27 = .ok (.iload_n 1, 1) := by decide +kernel
theorem dX12_alter_28 : decode cX12_alter 28 = .ok (.imul, 1) := by decide +kernel
theorem dX12_alter_29 : decode cX12_alter 29 = .ok (.iload_n 2, 1) := by decide +kernel
theorem dX12_alter_30 : decode cX12_alter 30 = .ok (.iadd, 1) := by decide +kernel
theorem dX12_alter_31 : decode cX12_alter 31 = .ok (.baload, 1) := by decide +kernel
theorem dX12_alter_32 : decode cX12_alter 32 = .ok (.iload_n 3, 1) := by decide +kernel
theorem dX12_alter_33 : decode cX12_alter 33 = .ok (.ixor, 1) := by decide +kernel
theorem dX12_alter_34 : decode cX12_alter 34 = .ok (.i2b, 1) := by decide +kernel
theorem dX12_alter_35 : decode cX12_alter 35 = .ok (.bastore, 1) := by decide +kernel
theorem dX12_alter_36 : decode cX12_alter 36 = .ok (.return_, 1) := by decide +kernel
noncomputable def f_X12_alter (f_waySize : Nat → Int32) (f_way : Nat → Int32) (x1 : Int32) (x2 : Int32) (x3 : Int32) : (Int32) × (Nat → Int32) :=
  let w3 := f_X12_isNoOctet f_waySize x1 x2
  if w3.1 = 0 then
  (let y5 := b8 ((f_way ((((nI 10000) * x1) + x2).toNatClampNeg)) ^^^ x3)
  (w3.2, upd f_way ((((nI 10000) * x1) + x2).toNatClampNeg) (b8 y5)))
  else
  ((w3.2, f_way))
set_option maxHeartbeats 4000000 in
set_option maxRecDepth 100000 in
theorem c_X12_alter (l : Launch) (D : va_G) (ct : Nat → ClassId) (ts : Nat → Nat) (a_this : Nat) (ad : Nat → Nat) (v_thrown : Int32) (v_connections : Int32) (v_size : Nat) (v_ids : Nat) (v_dataAll : Nat) (v_putCount : Nat) (v_waiting : Nat) (v_readSize : Nat) (v_power : Int32) (v_left : Int32) (v_since : Int32) (v_changes : Int32) (v_rowSize : Nat) (f_waySize : Nat → Int32) (f_way : Nat → Int32) (x1 : Int32) (x2 : Int32) (x3 : Int32)  (hway : ∀ j, j < 2 → ∃ m : Nat, m ≤ 9999 ∧ f_waySize j = nI m)  (sz : Nat) : Met l yX12_alter (Cond.code yX12_alter cX12_alter 4 none :: tb) { frames := 1, cells := 0, slots := 0, locals := 22 } (PcG D ct SXL ts [.ref a_this, .int x1, .int x2, .int x3] [(a_this, .inr (12, mfs ad v_thrown v_connections (nI v_size) (nI v_ids) (nI v_dataAll) (nI v_putCount) (nI v_waiting) (nI v_readSize) v_power v_left v_since v_changes (nI v_rowSize))), (ad 8, .inl (ct 0, 2, .inl f_waySize)), (ad 7, .inl (ct 1, 20000, .inl f_way))] sz) (va_Qv (fun u : (Int32) × (Nat → Int32) => u = f_X12_alter f_waySize f_way x1 x2 x3) (fun u => BG D ct (va_A [(a_this, .inr (12, mfs ad v_thrown v_connections (nI v_size) (nI v_ids) (nI v_dataAll) (nI v_putCount) (nI v_waiting) (nI v_readSize) v_power v_left v_since v_changes (nI v_rowSize))), (ad 8, .inl (ct 0, 2, .inl f_waySize)), (ad 7, .inl (ct 1, 20000, .inl f_way))] sz) [(a_this, .inr (12, mfs ad u.1 v_connections (nI v_size) (nI v_ids) (nI v_dataAll) (nI v_putCount) (nI v_waiting) (nI v_readSize) v_power v_left v_since v_changes (nI v_rowSize))), (ad 8, .inl (ct 0, 2, .inl f_waySize)), (ad 7, .inl (ct 1, 20000, .inl u.2))]) (va_A [(a_this, .inr (12, mfs ad v_thrown v_connections (nI v_size) (nI v_ids) (nI v_dataAll) (nI v_putCount) (nI v_waiting) (nI v_readSize) v_power v_left v_since v_changes (nI v_rowSize))), (ad 8, .inl (ct 0, 2, .inl f_waySize)), (ad 7, .inl (ct 1, 20000, .inl f_way))] sz)) 0 0 (va_A [(a_this, .inr (12, mfs ad v_thrown v_connections (nI v_size) (nI v_ids) (nI v_dataAll) (nI v_putCount) (nI v_waiting) (nI v_readSize) v_power v_left v_since v_changes (nI v_rowSize))), (ad 8, .inl (ct 0, 2, .inl f_waySize)), (ad 7, .inl (ct 1, 20000, .inl f_way))] sz) := by
  refine metJ (l := l) (y := yX12_alter) (cc := cX12_alter) (maxL := 4) (ret := none) (rm := { frames := 1, cells := 0, slots := 0, locals := 22 }) (D := D) (ct := ct) (L := SXL) (ts := ts) (av := [.ref a_this, .int x1, .int x2, .int x3]) (ws := [(a_this, .inr (12, mfs ad v_thrown v_connections (nI v_size) (nI v_ids) (nI v_dataAll) (nI v_putCount) (nI v_waiting) (nI v_readSize) v_power v_left v_since v_changes (nI v_rowSize))), (ad 8, .inl (ct 0, 2, .inl f_waySize)), (ad 7, .inl (ct 1, 20000, .inl f_way))]) (sz := sz) (mc := 0) (ms := 0) (QcF := fun A => va_Qv (fun u : (Int32) × (Nat → Int32) => u = f_X12_alter f_waySize f_way x1 x2 x3) (fun u => BG D ct A [(a_this, .inr (12, mfs ad u.1 v_connections (nI v_size) (nI v_ids) (nI v_dataAll) (nI v_putCount) (nI v_waiting) (nI v_readSize) v_power v_left v_since v_changes (nI v_rowSize))), (ad 8, .inl (ct 0, 2, .inl f_waySize)), (ad 7, .inl (ct 1, 20000, .inl u.2))]) A) (by decide) (Nat.le_of_ble_eq_true rfl) ?_
  intro p e s m below meth c A X hnm
  obtain ⟨Q, hQ⟩ : ∃ Q, Q = MQ below (va_Qv (fun u : (Int32) × (Nat → Int32) => u = f_X12_alter f_waySize f_way x1 x2 x3) (fun u => BG D ct A [(a_this, .inr (12, mfs ad u.1 v_connections (nI v_size) (nI v_ids) (nI v_dataAll) (nI v_putCount) (nI v_waiting) (nI v_readSize) v_power v_left v_since v_changes (nI v_rowSize))), (ad 8, .inl (ct 0, 2, .inl f_waySize)), (ad 7, .inl (ct 1, 20000, .inl u.2))]) A) [.ref a_this, .int x1, .int x2, .int x3].toArray s 0 0 A := ⟨_, rfl⟩
  rw [← hQ]
  refine j_lve (lv' := [(0, .ref a_this), (1, .int x1), (2, .int x2), (3, .int x3)]) rfl ?_
  refine j_aload_n X 0 dX12_alter_0 rfl (q := 1) rfl ?_
  refine j_iload_n X 1 dX12_alter_1 rfl (q := 2) rfl ?_
  refine j_iload_n X 2 dX12_alter_2 rfl (q := 3) rfl ?_
  refine j_callVi (As := [.int x1, .int x2]) (rest := []) (wn := (fun u1 => [(a_this, .inr (12, mfs ad u1 v_connections (nI v_size) (nI v_ids) (nI v_dataAll) (nI v_putCount) (nI v_waiting) (nI v_readSize) v_power v_left v_since v_changes (nI v_rowSize))), (ad 8, .inl (ct 0, 2, .inl f_waySize)), (ad 7, .inl (ct 1, 20000, .inl f_way))])) (wr := [(ad 7, .inl (ct 1, 20000, .inl f_way))]) X (fun sz => c_X12_isNoOctet l D ct ts a_this ad v_thrown v_connections v_size v_ids v_dataAll v_putCount v_waiting v_readSize v_power v_left v_since v_changes v_rowSize f_waySize x1 x2  sz) cal_X12_isNoOctet 0 rfl rfl mw_X12_alter_1 cwi_X12_isNoOctet cws_X12_isNoOctet rfl ⟨by decide, by decide⟩ rfl rfl (Nat.le_of_ble_eq_true rfl) ⟨by decide, by decide⟩ [0, 1] [2] [1, 2, 0] rfl (by decide) rfl (by decide) (by decide) (fun _ => rfl) (by decide) dX12_alter_3 (q := 6) rfl (fun r2 u1 hu1 => ?_)
  obtain ⟨w3, e_w3, rfl, rfl⟩ : ∃ w, w = f_X12_isNoOctet f_waySize x1 x2 ∧ r2 = w.1 ∧ u1 = w.2 := ⟨_, rfl, congrArg Prod.fst hu1, congrArg Prod.snd hu1⟩
  refine j_if_ne (tgt := 36) X dX12_alter_6 (by decide) (q := 9) rfl (fun c4 => ?_) (fun c4 => ?_)
  · skip
    rw [hQ]
    exact j_vret X ((w3.2, f_way)) dX12_alter_36 (by subst e_w3; first | rfl | (simp only [f_X12_alter, if_neg c4]; done) | (simp only [f_X12_alter, if_neg c4]; rfl)) rfl
  · skip
    refine j_aload_n X 0 dX12_alter_9 rfl (q := 10) rfl ?_
    refine j_get (f := 7) X 0 inT12 rfl rfl (by decide) mw_X12_alter_0 rfl dX12_alter_10 (q := 13) rfl ?_
    refine j_sipush (v := nI 10000) X dX12_alter_13 (by decide) (q := 16) rfl ?_
    refine j_iload_n X 1 dX12_alter_16 rfl (q := 17) rfl ?_
    refine j_imul X dX12_alter_17 (q := 18) rfl ?_
    refine j_iload_n X 2 dX12_alter_18 rfl (q := 19) rfl ?_
    refine j_iadd X dX12_alter_19 (q := 20) rfl ?_
    refine j_aload_n X 0 dX12_alter_20 rfl (q := 21) rfl ?_
    refine j_get (f := 7) X 0 inT12 rfl rfl (by decide) mw_X12_alter_0 rfl dX12_alter_21 (q := 24) rfl ?_
    refine j_sipush (v := nI 10000) X dX12_alter_24 (by decide) (q := 27) rfl ?_
    refine j_iload_n X 1 dX12_alter_27 rfl (q := 28) rfl ?_
    refine j_imul X dX12_alter_28 (q := 29) rfl ?_
    refine j_iload_n X 2 dX12_alter_29 rfl (q := 30) rfl ?_
    refine j_iadd X dX12_alter_30 (q := 31) rfl ?_
    refine k_bald X 2 rfl (noct hway (by rw [← e_w3]; assumption)) rfl dX12_alter_31 (q := 32) rfl ?_
    refine j_iload_n X 3 dX12_alter_32 rfl (q := 33) rfl ?_
    refine j_ixor X dX12_alter_33 (q := 34) rfl ?_
    refine j_i2b X dX12_alter_34 (q := 35) rfl ?_
    refine j_eqi (show _ = b8 ((f_way ((((nI 10000) * x1) + x2).toNatClampNeg)) ^^^ x3) from rfl) ?_
    refine j_topi (fun y5 e_y5 => ?_)
    refine k_bast (ws2 := [(a_this, .inr (12, mfs ad w3.2 v_connections (nI v_size) (nI v_ids) (nI v_dataAll) (nI v_putCount) (nI v_waiting) (nI v_readSize) v_power v_left v_since v_changes (nI v_rowSize))), (ad 8, .inl (ct 0, 2, .inl f_waySize)), (ad 7, .inl (ct 1, 20000, .inl (upd f_way ((((nI 10000) * x1) + x2).toNatClampNeg) (b8 y5))))]) X 2 rfl (noct hway (by rw [← e_w3]; assumption)) rfl (vp_nar_byte _) dX12_alter_35 rfl (q := 36) rfl ?_
    rw [hQ]
    exact j_vret X ((w3.2, upd f_way ((((nI 10000) * x1) + x2).toNatClampNeg) (b8 y5))) dX12_alter_36 (by subst e_w3; subst e_y5; first | rfl | (simp only [f_X12_alter, if_pos c4]; done) | (simp only [f_X12_alter, if_pos c4]; rfl)) rfl
theorem cal_X12_alter : Cal yX12_alter cX12_alter 4 none 3 := ⟨tb_at 120 (by decide +kernel) (by decide +kernel), tb_at 1631 (by decide +kernel) (by decide +kernel), by decide +kernel, by decide +kernel, by decide +kernel⟩
theorem cwi_X12_alter : Cond.instanceMethod yX12_alter ∈ tb := tb_at 1629 (by decide +kernel) (by decide +kernel)
theorem cws_X12_alter : Cond.selects yX12_alter.cls yX12_alter yX12_alter ∈ tb := tb_at 1630 (by decide +kernel) (by decide +kernel)

