theorem dX12_times_0 : decode cX12_times 0 = .ok (.iconst 0, 1) := by decide +kernel
theorem dX12_times_1 : decode cX12_times 1 = .ok (.istore_n 2, 1) := by decide +kernel
theorem dX12_times_2 : decode cX12_times 2 = .ok (.iload_n 0, 1) := by decide +kernel
theorem dX12_times_3 : decode cX12_times 3 = .ok (.istore_n 3, 1) := by decide +kernel
theorem dX12_times_4 : decode cX12_times 4 = .ok (.iconst 0, 1) := by decide +kernel
theorem dX12_times_5 : decode cX12_times 5 = .ok (.istore 4, 2) := by decide +kernel
theorem dX12_times_7 : decode cX12_times 7 = .ok (.iload 4, 2) := by decide +kernel
theorem dX12_times_9 : decode cX12_times 9 = .ok (.bipush 8, 2) := by decide +kernel
theorem dX12_times_11 : decode cX12_times 11 = .ok (.if_icmp .ge 52, 3) := by decide +kernel
theorem dX12_times_14 : decode cX12_times 14 = .ok (.iload_n 1, 1) := by decide +kernel
theorem dX12_times_15 : decode cX12_times 15 = .ok (.iload 4, 2) := by decide +kernel
theorem dX12_times_17 : decode cX12_times 17 = .ok (.ishr, 1) := by decide +kernel
theorem dX12_times_18 : decode cX12_times 18 = .ok (.iconst 1, 1) := by decide +kernel
theorem dX12_times_19 : decode cX12_times 19 = .ok (.iand, 1) := by decide +kernel
theorem dX12_times_20 : decode cX12_times 20 = .ok (.iconst 1, 1) := by decide +kernel
theorem dX12_times_21 : decode cX12_times 21 = .ok (.if_icmp .ne 9, 3) := by decide +kernel
theorem dX12_times_24 : decode cX12_times 24 = .ok (.iload_n 2, 1) := by decide +kernel
theorem dX12_times_25 : decode cX12_times 25 = .ok (.iload_n 3, 1) := by decide +kernel
theorem dX12_times_26 : decode cX12_times 26 = .ok (.ixor, 1) := by decide +kernel
theorem dX12_times_27 : decode cX12_times 27 = .ok (.goto 4, 3) := by decide +kernel
theorem dX12_times_30 : decode cX12_times 30 = .ok (.iload_n 2, 1) := by decide +kernel
theorem dX12_times_31 : decode cX12_times 31 = .ok (.istore_n 2, 1) := by decide +kernel
theorem dX12_times_32 : decode cX12_times 32 = .ok (.iload_n 3, 1) := by decide +kernel
theorem dX12_times_33 : decode cX12_times 33 = .ok (.sipush 128, 3) := by decide +kernel
theorem dX12_times_36 : decode cX12_times 36 = .ok (.if_icmp .ge 9, 3) := by decide +kernel
theorem dX12_times_39 : decode cX12_times 39 = .ok (.iconst 2, 1) := by decide +kernel
theorem dX12_times_40 : decode cX12_times 40 = .ok (.iload_n 3, 1) := by decide +kernel
theorem dX12_times_41 : decode cX12_times 41 = .ok (.imul, 1) := by decide +kernel
theorem dX12_times_42 : decode cX12_times 42 = .ok (.goto 14, 3) := by decide +kernel
theorem dX12_times_45 : decode cX12_times 45 = .ok (.iconst 2, 1) := by decide +kernel
theorem dX12_times_46 : decode cX12_times 46 = .ok (.iload_n 3, 1) := by decide +kernel
theorem dX12_times_47 : decode cX12_times 47 = .ok (.imul, 1) := by decide +kernel
theorem dX12_times_48 : decode cX12_times 48 = .ok (.sipush 283, 3) := by decide +kernel
theorem dX12_times_51 : decode cX12_times 51 = .ok (.ixor, 1) := by decide +kernel
theorem dX12_times_52 : decode cX12_times 52 = .ok (.sipush 255, 3) := by decide +kernel
theorem dX12_times_55 : decode cX12_times 55 = .ok (.iand, 1) := by decide +kernel
theorem dX12_times_56 : decode cX12_times 56 = .ok (.istore_n 3, 1) := by decide +kernel
theorem dX12_times_57 : decode cX12_times 57 = .ok (.iinc 4 1, 3) := by decide +kernel
theorem dX12_times_60 : decode cX12_times 60 = .ok (.goto (-53), 3) := by decide +kernel
theorem dX12_times_63 : decode cX12_times 63 = .ok (.iload_n 2, 1) := by decide +kernel
theorem dX12_times_64 : decode cX12_times 64 = .ok (.ireturn, 1) := by decide +kernel
noncomputable def X12_times_m36 (t7_1 : (Int32) × (Int32)) : (Int32) :=
  if (nI 128) ≤ t7_1.2 then
  ((((nI 2) * t7_1.2) ^^^ (nI 283)) &&& (nI 255))
  else
  ((nI 2) * t7_1.2)
noncomputable def X12_times_m21 (x2 : Int32) (t7_1 : (Int32) × (Int32)) (k7_1 : Nat) : (Int32) :=
  if ((sr32 x2 k7_1) &&& (nI 1)) = (nI 1) then
  (t7_1.1 ^^^ t7_1.2)
  else
  (t7_1.1)
noncomputable def X12_times_l7 (x2 : Int32) (k7_1 : Nat) (t7_1 : (Int32) × (Int32)) : (Int32) × (Int32) :=
  let g21_4 := X12_times_m21 x2 t7_1 k7_1
  let g36_6 := X12_times_m36 t7_1
  (g21_4, g36_6)
noncomputable def f_X12_times (x1 : Int32) (x2 : Int32) : Int32 :=
  let t7_1 := itr (X12_times_l7 x2) ((nI 0, x1)) 8
  t7_1.1
set_option maxHeartbeats 4000000 in
set_option maxRecDepth 100000 in
theorem c_X12_times (l : Launch) (D : va_G) (ct : Nat → ClassId) (ts : Nat → Nat) (x1 : Int32) (x2 : Int32)    (sz : Nat) : Met l yX12_times (Cond.code yX12_times cX12_times 5 (some .int) :: tb) { frames := 0, cells := 0, slots := 0, locals := 0 } (PcG D ct SXL ts [.int x1, .int x2] [] sz) (va_Qi (fun (r : Int32) (u : Unit) => r = f_X12_times x1 x2) (fun u => BG D ct (va_A [] sz) []) (va_A [] sz)) 0 0 (va_A [] sz) := by
  refine metJ (QcF := fun A => va_Qi (fun (r : Int32) (u : Unit) => r = f_X12_times x1 x2) (fun u => BG D ct A []) A) (by decide) (Nat.le_of_ble_eq_true rfl) ?_
  intro p e s m below meth c A X hnm
  obtain ⟨Q, hQ⟩ : ∃ Q, Q = MQ below (va_Qi (fun (r : Int32) (u : Unit) => r = f_X12_times x1 x2) (fun u => BG D ct A []) A) [.int x1, .int x2].toArray s 0 0 A := ⟨_, rfl⟩
  rw [← hQ]
  refine j_lve (lv' := [(0, .int x1), (1, .int x2)]) rfl ?_
  refine j_iconst (v := nI 0) X dX12_times_0 (by decide) (q := 1) rfl ?_
  refine j_istore_n (lv' := [(2, .int (nI 0)), (0, .int x1), (1, .int x2)]) X dX12_times_1 (by decide) rfl (q := 2) rfl ?_
  refine j_iload_n X 1 dX12_times_2 rfl (q := 3) rfl ?_
  refine j_istore_n (lv' := [(3, .int x1), (2, .int (nI 0)), (0, .int x1), (1, .int x2)]) X dX12_times_3 (by decide) rfl (q := 4) rfl ?_
  refine j_iconst (v := nI 0) X dX12_times_4 (by decide) (q := 5) rfl ?_
  refine j_istore (lv' := [(4, .int (nI 0)), (3, .int x1), (2, .int (nI 0)), (0, .int x1), (1, .int x2)]) X dX12_times_5 (by decide) rfl (q := 7) rfl ?_
  refine j_lv (lv' := [(0, .int x1), (1, .int x2), (2, .int (nI 0)), (3, .int x1), (4, .int (nI 0))]) [3, 4, 2, 1, 0] rfl ?_
  have LP7_1 : ∀ (r7_1 k7_1 : Nat) (t7_1 : (Int32) × (Int32)), k7_1 + r7_1 = 8 → t7_1 = itr (X12_times_l7 x2) ((nI 0, x1)) k7_1 → J p l e { frames := 0, cells := 0, slots := 0, locals := 0 } s m [.int x1, .int x2].toArray below meth c D A 5 Q 0 0 [] [(0, .int x1), (1, .int x2), (2, .int t7_1.1), (3, .int t7_1.2), (4, .int (nI k7_1))] [] 7 := by
    intro r7_1
    induction r7_1 with
    | zero =>
      intro k7_1 t7_1 hk_t7_1 e_t7_1 
      have hkk_t7_1 : 8 = k7_1 := by omega
      subst hkk_t7_1
      refine j_iload X 4 dX12_times_7 rfl (q := 9) rfl ?_
      refine j_bipush (v := nI 8) X dX12_times_9 (by decide) (q := 11) rfl ?_
      refine j_icmp_ge (tgt := 63) X dX12_times_11 (by decide) (q := 14) rfl (fun c2 => ?_) (fun c2 => ?_)
      · skip
        have c2 : 8 ≤ 8 := (nI_leI (a := 8) (b := 8) (by omega) (by omega)).mp c2
        refine j_iload_n X 2 dX12_times_63 rfl (q := 64) rfl ?_
        rw [hQ]
        exact j_iret X (()) dX12_times_64 (by subst e_t7_1; rfl) rfl
      · skip
        have c2 : ¬ 8 ≤ 8 := fun h => c2 ((nI_leI (a := 8) (b := 8) (by omega) (by omega)).mpr h)
        exfalso; omega
    | succ r7_1 ih7_1 =>
      intro k7_1 t7_1 hk_t7_1 e_t7_1 
      refine j_iload X 4 dX12_times_7 rfl (q := 9) rfl ?_
      refine j_bipush (v := nI 8) X dX12_times_9 (by decide) (q := 11) rfl ?_
      refine j_icmp_ge (tgt := 63) X dX12_times_11 (by decide) (q := 14) rfl (fun c3 => ?_) (fun c3 => ?_)
      · skip
        have c3 : 8 ≤ k7_1 := (nI_leI (a := 8) (b := k7_1) (by omega) (by omega)).mp c3
        exfalso; omega
      · skip
        have c3 : ¬ 8 ≤ k7_1 := fun h => c3 ((nI_leI (a := 8) (b := k7_1) (by omega) (by omega)).mpr h)
        refine j_iload_n X 1 dX12_times_14 rfl (q := 15) rfl ?_
        refine j_iload X 4 dX12_times_15 rfl (q := 17) rfl ?_
        refine j_ishr X dX12_times_17 (q := 18) rfl ?_
        refine j_eqi (show _ = sr32 x2 k7_1 from rfl) ?_
        refine j_iconst (v := nI 1) X dX12_times_18 (by decide) (q := 19) rfl ?_
        refine j_iand X dX12_times_19 (q := 20) rfl ?_
        refine j_iconst (v := nI 1) X dX12_times_20 (by decide) (q := 21) rfl ?_
        have KJ21_4 : ∀ g21_4 : (Int32), g21_4 = X12_times_m21 x2 t7_1 k7_1 → J p l e { frames := 0, cells := 0, slots := 0, locals := 0 } s m [.int x1, .int x2].toArray below meth c D A 5 Q 0 0 [] [(0, .int x1), (1, .int x2), (2, .int t7_1.1), (3, .int t7_1.2), (4, .int (nI k7_1))] [.int g21_4] 31 := by
          intro g21_4 e_g21_4
          refine j_istore_n (lv' := [(2, .int g21_4), (0, .int x1), (1, .int x2), (3, .int t7_1.2), (4, .int (nI k7_1))]) X dX12_times_31 (by decide) rfl (q := 32) rfl ?_
          refine j_iload_n X 3 dX12_times_32 rfl (q := 33) rfl ?_
          refine j_sipush (v := nI 128) X dX12_times_33 (by decide) (q := 36) rfl ?_
          have KJ36_6 : ∀ g36_6 : (Int32), g36_6 = X12_times_m36 t7_1 → J p l e { frames := 0, cells := 0, slots := 0, locals := 0 } s m [.int x1, .int x2].toArray below meth c D A 5 Q 0 0 [] [(0, .int x1), (1, .int x2), (2, .int g21_4), (3, .int t7_1.2), (4, .int (nI k7_1))] [.int g36_6] 56 := by
            intro g36_6 e_g36_6
            refine j_istore_n (lv' := [(3, .int g36_6), (0, .int x1), (1, .int x2), (2, .int g21_4), (4, .int (nI k7_1))]) X dX12_times_56 (by decide) rfl (q := 57) rfl ?_
            refine j_iinc (v := nI (k7_1 + 1)) (lv' := [(4, .int (nI (k7_1 + 1))), (3, .int g36_6), (0, .int x1), (1, .int x2), (2, .int g21_4)]) X 4 dX12_times_57 rfl (nI_inc _ 1) (by decide) rfl (q := 60) rfl ?_
            refine j_goto (tgt := 7) X dX12_times_60 (by decide) ?_
            refine j_lv (lv' := [(0, .int x1), (1, .int x2), (2, .int g21_4), (3, .int g36_6), (4, .int (nI (k7_1 + 1)))]) [2, 3, 4, 1, 0] rfl ?_
            have hb : (X12_times_l7 x2) k7_1 t7_1 = (g21_4, g36_6) := (by subst e_g21_4; subst e_g36_6; rfl)
            exact ih7_1 (k7_1 + 1) ((g21_4, g36_6)) (by omega) (by rw [itr_s, ← e_t7_1]; exact hb.symm) 
          refine j_icmp_ge (tgt := 45) X dX12_times_36 (by decide) (q := 39) rfl (fun c7 => ?_) (fun c7 => ?_)
          · skip
            refine j_iconst (v := nI 2) X dX12_times_45 (by decide) (q := 46) rfl ?_
            refine j_iload_n X 3 dX12_times_46 rfl (q := 47) rfl ?_
            refine j_imul X dX12_times_47 (q := 48) rfl ?_
            refine j_sipush (v := nI 283) X dX12_times_48 (by decide) (q := 51) rfl ?_
            refine j_ixor X dX12_times_51 (q := 52) rfl ?_
            refine j_sipush (v := nI 255) X dX12_times_52 (by decide) (q := 55) rfl ?_
            refine j_iand X dX12_times_55 (q := 56) rfl ?_
            refine j_lv (lv' := [(0, .int x1), (1, .int x2), (2, .int g21_4), (3, .int t7_1.2), (4, .int (nI k7_1))]) [1, 2, 0, 3, 4] rfl ?_
            exact KJ36_6 ((((nI 2) * t7_1.2) ^^^ (nI 283)) &&& (nI 255)) (by first | rfl | (simp only [X12_times_m36, if_pos c7]; done) | (simp only [X12_times_m36, if_pos c7]; rfl))
          · skip
            refine j_iconst (v := nI 2) X dX12_times_39 (by decide) (q := 40) rfl ?_
            refine j_iload_n X 3 dX12_times_40 rfl (q := 41) rfl ?_
            refine j_imul X dX12_times_41 (q := 42) rfl ?_
            refine j_goto (tgt := 56) X dX12_times_42 (by decide) ?_
            refine j_lv (lv' := [(0, .int x1), (1, .int x2), (2, .int g21_4), (3, .int t7_1.2), (4, .int (nI k7_1))]) [1, 2, 0, 3, 4] rfl ?_
            exact KJ36_6 ((nI 2) * t7_1.2) (by first | rfl | (simp only [X12_times_m36, if_neg c7]; done) | (simp only [X12_times_m36, if_neg c7]; rfl))
        refine j_icmp_ne (tgt := 30) X dX12_times_21 (by decide) (q := 24) rfl (fun c5 => ?_) (fun c5 => ?_)
        · skip
          refine j_iload_n X 2 dX12_times_30 rfl (q := 31) rfl ?_
          refine j_lv (lv' := [(0, .int x1), (1, .int x2), (2, .int t7_1.1), (3, .int t7_1.2), (4, .int (nI k7_1))]) [0, 1, 2, 3, 4] rfl ?_
          exact KJ21_4 t7_1.1 (by first | rfl | (simp only [X12_times_m21, if_neg c5]; done) | (simp only [X12_times_m21, if_neg c5]; rfl))
        · skip
          refine j_iload_n X 2 dX12_times_24 rfl (q := 25) rfl ?_
          refine j_iload_n X 3 dX12_times_25 rfl (q := 26) rfl ?_
          refine j_ixor X dX12_times_26 (q := 27) rfl ?_
          refine j_goto (tgt := 31) X dX12_times_27 (by decide) ?_
          refine j_lv (lv' := [(0, .int x1), (1, .int x2), (2, .int t7_1.1), (3, .int t7_1.2), (4, .int (nI k7_1))]) [0, 1, 2, 3, 4] rfl ?_
          exact KJ21_4 (t7_1.1 ^^^ t7_1.2) (by first | rfl | (simp only [X12_times_m21, if_pos c5]; done) | (simp only [X12_times_m21, if_pos c5]; rfl))
  exact LP7_1 8 0 ((nI 0, x1)) (by omega) (itr_0 _ _).symm 
theorem cal_X12_times : Cal yX12_times cX12_times 5 (some .int) 2 := ⟨tb_at 120 (by decide +kernel) (by decide +kernel), tb_at 1210 (by decide +kernel) (by decide +kernel), by decide +kernel, by decide +kernel, by decide +kernel⟩
theorem cwt_X12_times : Cond.static yX12_times ∈ tb := tb_at 1209 (by decide +kernel) (by decide +kernel)
theorem mw_X12_boxOf_0 : Cond.methodLink "GuardedTreeModel" 296 yX12_times ∈ tb := tb_at 1208 (by decide +kernel) (by decide +kernel)
theorem dX12_boxOf_0 : decode cX12_boxOf 0 = .ok (.iconst 0, 1) := by decide +kernel
theorem dX12_boxOf_1 : decode cX12_boxOf 1 = .ok (.istore_n 1, 1) := by decide +kernel
theorem dX12_boxOf_2 : decode cX12_boxOf 2 = .ok (.iconst 1, 1) := by decide +kernel
theorem dX12_boxOf_3 : decode cX12_boxOf 3 = .ok (.istore_n 2, 1) := by decide +kernel
theorem dX12_boxOf_4 : decode cX12_boxOf 4 = .ok (.iload_n 2, 1) := by decide +kernel
theorem dX12_boxOf_5 : decode cX12_boxOf 5 = .ok (.sipush 256, 3) := by decide +kernel
theorem dX12_boxOf_8 : decode cX12_boxOf 8 = .ok (.if_icmp .ge 24, 3) := by decide +kernel
theorem dX12_boxOf_11 : decode cX12_boxOf 11 = .ok (.iload_n 0, 1) := by decide +kernel
theorem dX12_boxOf_12 : decode cX12_boxOf 12 = .ok (.iload_n 2, 1) := by decide +kernel
theorem dX12_boxOf_13 : decode cX12_boxOf 13 = .ok (.invokestatic 296, 3) := by decide +kernel
theorem dX12_boxOf_16 : decode cX12_boxOf 16 = .ok (.iconst 1, 1) := by decide +kernel
theorem dX12_boxOf_17 : decode cX12_boxOf 17 = .ok (.if_icmp .ne 7, 3) := by decide +kernel
theorem dX12_boxOf_20 : decode cX12_boxOf 20 = .ok (.iload_n 2, 1) := by decide +kernel
theorem dX12_boxOf_21 : decode cX12_boxOf 21 = .ok (.goto 4, 3) := by decide +kernel
theorem dX12_boxOf_24 : decode cX12_boxOf 24 = .ok (.iload_n 1, 1) := by decide +kernel
theorem dX12_boxOf_25 : decode cX12_boxOf 25 = .ok (.istore_n 1, 1) := by decide +kernel
theorem dX12_boxOf_26 : decode cX12_boxOf 26 = .ok (.iinc 2 1, 3) := by decide +kernel
theorem dX12_boxOf_29 : decode cX12_boxOf 29 = .ok (.goto (-25), 3) := by decide +kernel
theorem dX12_boxOf_32 : decode cX12_boxOf 32 = .ok (.iconst 0, 1) := by decide +kernel
theorem dX12_boxOf_33 : decode cX12_boxOf 33 = .ok (.istore_n 2, 1) := by decide +kernel
theorem dX12_boxOf_34 : decode cX12_boxOf 34 = .ok (.iconst 0, 1) := by decide +kernel
theorem dX12_boxOf_35 : decode cX12_boxOf 35 = .ok (.istore_n 3, 1) := by decide +kernel
theorem dX12_boxOf_36 : decode cX12_boxOf 36 = .ok (.iload_n 3, 1) := by decide +kernel
theorem dX12_boxOf_37 : decode cX12_boxOf 37 = .ok (.bipush 8, 2) := by decide +kernel
theorem dX12_boxOf_39 : decode cX12_boxOf 39 = .ok (.if_icmp .ge 66, 3) := by decide +kernel
theorem dX12_boxOf_42 : decode cX12_boxOf 42 = .ok (.iload_n 1, 1) := by decide +kernel
theorem dX12_boxOf_43 : decode cX12_boxOf 43 = .ok (.iload_n 3, 1) := by decide +kernel
theorem dX12_boxOf_44 : decode cX12_boxOf 44 = .ok (.ishr, 1) := by decide +kernel
theorem dX12_boxOf_45 : decode cX12_boxOf 45 = .ok (.iload_n 1, 1) := by decide +kernel
theorem dX12_boxOf_46 : decode cX12_boxOf 46 = .ok (.iload_n 3, 1) := by decide +kernel
theorem dX12_boxOf_47 : decode cX12_boxOf 47 = .ok (.iconst 4, 1) := by decide +kernel
theorem dX12_boxOf_48 : decode cX12_boxOf 48 = .ok (.iadd, 1) := by decide +kernel
theorem dX12_boxOf_49 : decode cX12_boxOf 49 = .ok (.bipush 8, 2) := by decide +kernel
theorem dX12_boxOf_51 : decode cX12_boxOf 51 = .ok (.irem, 1) := by decide +kernel
theorem dX12_boxOf_52 : decode cX12_boxOf 52 = .ok (.ishr, 1) := by decide +kernel
theorem dX12_boxOf_53 : decode cX12_boxOf 53 = .ok (.ixor, 1) := by decide +kernel
theorem dX12_boxOf_54 : decode cX12_boxOf 54 = .ok (.iload_n 1, 1) := by decide +kernel
theorem dX12_boxOf_55 : decode cX12_boxOf 55 = .ok (.iload_n 3, 1) := by decide +kernel
theorem dX12_boxOf_56 : decode cX12_boxOf 56 = .ok (.iconst 5, 1) := by decide +kernel
theorem dX12_boxOf_57 : decode cX12_boxOf 57 = .ok (.iadd, 1) := by decide +kernel
theorem dX12_boxOf_58 : decode cX12_boxOf 58 = .ok (.bipush 8, 2) := by decide +kernel
theorem dX12_boxOf_60 : decode cX12_boxOf 60 = .ok (.irem, 1) := by decide +kernel
theorem dX12_boxOf_61 : decode cX12_boxOf 61 = .ok (.ishr, 1) := by decide +kernel
theorem dX12_boxOf_62 : decode cX12_boxOf 62 = .ok (.ixor, 1) := by decide +kernel
theorem dX12_boxOf_63 : decode cX12_boxOf 63 = .ok (.iload_n 1, 1) := by decide +kernel
theorem dX12_boxOf_64 : decode cX12_boxOf 64 = .ok (.iload_n 3, 1) := by decide +kernel
theorem dX12_boxOf_65 : decode cX12_boxOf 65 = .ok (.bipush 6, 2) := by decide +kernel
theorem dX12_boxOf_67 : decode cX12_boxOf 67 = .ok (.iadd, 1) := by decide +kernel
theorem dX12_boxOf_68 : decode cX12_boxOf 68 = .ok (.bipush 8, 2) := by decide +kernel
theorem dX12_boxOf_70 : decode cX12_boxOf 70 = .ok (.irem, 1) := by decide +kernel
theorem dX12_boxOf_71 : decode cX12_boxOf 71 = .ok (.ishr, 1) := by decide +kernel
theorem dX12_boxOf_72 : decode cX12_boxOf 72 = .ok (.ixor, 1) := by decide +kernel
theorem dX12_boxOf_73 : decode cX12_boxOf 73 = .ok (.iload_n 1, 1) := by decide +kernel
theorem dX12_boxOf_74 : decode cX12_boxOf 74 = .ok (.iload_n 3, 1) := by decide +kernel
theorem dX12_boxOf_75 : decode cX12_boxOf 75 = .ok (.bipush 7, 2) := by decide +kernel
theorem dX12_boxOf_77 : decode cX12_boxOf 77 = .ok (.iadd, 1) := by decide +kernel
theorem dX12_boxOf_78 : decode cX12_boxOf 78 = .ok (.bipush 8, 2) := by decide +kernel
theorem dX12_boxOf_80 : decode cX12_boxOf 80 = .ok (.irem, 1) := by decide +kernel
theorem dX12_boxOf_81 : decode cX12_boxOf 81 = .ok (.ishr, 1) := by decide +kernel
theorem dX12_boxOf_82 : decode cX12_boxOf 82 = .ok (.ixor, 1) := by decide +kernel
theorem dX12_boxOf_83 : decode cX12_boxOf 83 = .ok (.bipush 99, 2) := by decide +kernel
theorem dX12_boxOf_85 : decode cX12_boxOf 85 = .ok (.iload_n 3, 1) := by decide +kernel
theorem dX12_boxOf_86 : decode cX12_boxOf 86 = .ok (.ishr, 1) := by decide +kernel
theorem dX12_boxOf_87 : decode cX12_boxOf 87 = .ok (.ixor, 1) := by decide +kernel
theorem dX12_boxOf_88 : decode cX12_boxOf 88 = .ok (.istore 4, 2) := by decide +kernel
theorem dX12_boxOf_90 : decode cX12_boxOf 90 = .ok (.iload_n 2, 1) := by decide +kernel
theorem dX12_boxOf_91 : decode cX12_boxOf 91 = .ok (.iload 4, 2) := by decide +kernel
theorem dX12_boxOf_93 : decode cX12_boxOf 93 = .ok (.iconst 1, 1) := by decide +kernel
theorem dX12_boxOf_94 : decode cX12_boxOf 94 = .ok (.iand, 1) := by decide +kernel
theorem dX12_boxOf_95 : decode cX12_boxOf 95 = .ok (.iload_n 3, 1) := by decide +kernel
theorem dX12_boxOf_96 : decode cX12_boxOf 96 = .ok (.ishl, 1) := by decide +kernel
theorem dX12_boxOf_97 : decode cX12_boxOf 97 = .ok (.ior, 1) := by decide +kernel
theorem dX12_boxOf_98 : decode cX12_boxOf 98 = .ok (.istore_n 2, 1) := by decide +kernel
theorem dX12_boxOf_99 : decode cX12_boxOf 99 = .ok (.iinc 3 1, 3) := by decide +kernel
theorem dX12_boxOf_102 : decode cX12_boxOf 102 = .ok (.goto (-66), 3) := by decide +kernel
theorem dX12_boxOf_105 : decode cX12_boxOf 105 = .ok (.iload_n 2, 1) := by decide +kernel
theorem dX12_boxOf_106 : decode cX12_boxOf 106 = .ok (.ireturn, 1) := by decide +kernel
noncomputable def X12_boxOf_l36 (t4_1 : (Nat)) (k36_3 : Nat) (t36_3 : (Int32)) : (Int32) :=
  let y6 := (((((sr32 (nI t4_1) k36_3) ^^^ (sr32 (nI t4_1) ((k36_3 + 4) % 8))) ^^^ (sr32 (nI t4_1) ((k36_3 + 5) % 8))) ^^^ (sr32 (nI t4_1) ((k36_3 + 6) % 8))) ^^^ (sr32 (nI t4_1) ((k36_3 + 7) % 8))) ^^^ (sr32 (nI 99) k36_3)
  let y7 := t36_3 ||| (sh32 (y6 &&& (nI 1)) k36_3)
  y7
noncomputable def X12_boxOf_m17 (x1 : Int32) (t4_1 : (Nat)) (k4_1 : Nat) : (Nat) :=
  if (f_X12_times x1 (nI (1 + k4_1))) = (nI 1) then
  (1 + k4_1)
  else
  (t4_1)
noncomputable def X12_boxOf_l4 (x1 : Int32) (k4_1 : Nat) (t4_1 : (Nat)) : (Nat) :=
  let g17_12 := X12_boxOf_m17 x1 t4_1 k4_1
  g17_12
noncomputable def f_X12_boxOf (x1 : Int32) : Int32 :=
  let t4_1 := itr (X12_boxOf_l4 x1) 0 255
  let t36_3 := itr (X12_boxOf_l36 t4_1) (nI 0) 8
  t36_3
set_option maxHeartbeats 4000000 in
set_option maxRecDepth 100000 in
theorem c_X12_boxOf (l : Launch) (D : va_G) (ct : Nat → ClassId) (ts : Nat → Nat) (x1 : Int32)    (sz : Nat) : Met l yX12_boxOf (Cond.code yX12_boxOf cX12_boxOf 5 (some .int) :: tb) { frames := 1, cells := 0, slots := 0, locals := 24 } (PcG D ct SXL ts [.int x1] [] sz) (va_Qi (fun (r : Int32) (u : Unit) => r = f_X12_boxOf x1) (fun u => BG D ct (va_A [] sz) []) (va_A [] sz)) 0 0 (va_A [] sz) := by
  refine metJ (QcF := fun A => va_Qi (fun (r : Int32) (u : Unit) => r = f_X12_boxOf x1) (fun u => BG D ct A []) A) (by decide) (Nat.le_of_ble_eq_true rfl) ?_
  intro p e s m below meth c A X hnm
  obtain ⟨Q, hQ⟩ : ∃ Q, Q = MQ below (va_Qi (fun (r : Int32) (u : Unit) => r = f_X12_boxOf x1) (fun u => BG D ct A []) A) [.int x1].toArray s 0 0 A := ⟨_, rfl⟩
  rw [← hQ]
  refine j_lve (lv' := [(0, .int x1)]) rfl ?_
  refine j_iconst (v := nI 0) X dX12_boxOf_0 (by decide) (q := 1) rfl ?_
  refine j_istore_n (lv' := [(1, .int (nI 0)), (0, .int x1)]) X dX12_boxOf_1 (by decide) rfl (q := 2) rfl ?_
  refine j_iconst (v := nI 1) X dX12_boxOf_2 (by decide) (q := 3) rfl ?_
  refine j_istore_n (lv' := [(2, .int (nI 1)), (1, .int (nI 0)), (0, .int x1)]) X dX12_boxOf_3 (by decide) rfl (q := 4) rfl ?_
  refine j_lv (lv' := [(0, .int x1), (1, .int (nI 0)), (2, .int (nI 1))]) [2, 1, 0] rfl ?_
  have LP4_1 : ∀ (r4_1 k4_1 : Nat) (t4_1 : (Nat)), k4_1 + r4_1 = 255 → t4_1 = itr (X12_boxOf_l4 x1) 0 k4_1 → J p l e { frames := 1, cells := 0, slots := 0, locals := 24 } s m [.int x1].toArray below meth c D A 5 Q 0 0 [] [(0, .int x1), (1, .int (nI t4_1)), (2, .int (nI (1 + k4_1)))] [] 4 := by
    intro r4_1
    induction r4_1 with
    | zero =>
      intro k4_1 t4_1 hk_t4_1 e_t4_1 
      have hkk_t4_1 : 255 = k4_1 := by omega
      subst hkk_t4_1
      refine j_iload_n X 2 dX12_boxOf_4 rfl (q := 5) rfl ?_
      refine j_sipush (v := nI 256) X dX12_boxOf_5 (by decide) (q := 8) rfl ?_
      refine j_icmp_ge (tgt := 32) X dX12_boxOf_8 (by decide) (q := 11) rfl (fun c2 => ?_) (fun c2 => ?_)
      · skip
        have c2 : 256 ≤ 1 + 255 := (nI_leI (a := 256) (b := 1 + 255) (by omega) (by omega)).mp c2
        refine j_iconst (v := nI 0) X dX12_boxOf_32 (by decide) (q := 33) rfl ?_
        refine j_istore_n (lv' := [(2, .int (nI 0)), (0, .int x1), (1, .int (nI t4_1))]) X dX12_boxOf_33 (by decide) rfl (q := 34) rfl ?_
        refine j_iconst (v := nI 0) X dX12_boxOf_34 (by decide) (q := 35) rfl ?_
        refine j_istore_n (lv' := [(3, .int (nI 0)), (2, .int (nI 0)), (0, .int x1), (1, .int (nI t4_1))]) X dX12_boxOf_35 (by decide) rfl (q := 36) rfl ?_
        refine j_lv (lv' := [(0, .int x1), (1, .int (nI t4_1)), (2, .int (nI 0)), (3, .int (nI 0))]) [2, 3, 1, 0] rfl ?_
        have LP36_3 : ∀ (r36_3 k36_3 : Nat) (t36_3 : (Int32)), k36_3 + r36_3 = 8 → t36_3 = itr (X12_boxOf_l36 t4_1) (nI 0) k36_3 → J p l e { frames := 1, cells := 0, slots := 0, locals := 24 } s m [.int x1].toArray below meth c D A 5 Q 0 0 [] [(0, .int x1), (1, .int (nI t4_1)), (2, .int t36_3), (3, .int (nI k36_3))] [] 36 := by
          intro r36_3
          induction r36_3 with
          | zero =>
            intro k36_3 t36_3 hk_t36_3 e_t36_3 
            have hkk_t36_3 : 8 = k36_3 := by omega
            subst hkk_t36_3
            refine j_iload_n X 3 dX12_boxOf_36 rfl (q := 37) rfl ?_
            refine j_bipush (v := nI 8) X dX12_boxOf_37 (by decide) (q := 39) rfl ?_
            refine j_icmp_ge (tgt := 105) X dX12_boxOf_39 (by decide) (q := 42) rfl (fun c4 => ?_) (fun c4 => ?_)
            · skip
              have c4 : 8 ≤ 8 := (nI_leI (a := 8) (b := 8) (by omega) (by omega)).mp c4
              refine j_iload_n X 2 dX12_boxOf_105 rfl (q := 106) rfl ?_
              rw [hQ]
              exact j_iret X (()) dX12_boxOf_106 (by subst e_t4_1; subst e_t36_3; rfl) rfl
            · skip
              have c4 : ¬ 8 ≤ 8 := fun h => c4 ((nI_leI (a := 8) (b := 8) (by omega) (by omega)).mpr h)
              exfalso; omega
          | succ r36_3 ih36_3 =>
            intro k36_3 t36_3 hk_t36_3 e_t36_3 
            refine j_iload_n X 3 dX12_boxOf_36 rfl (q := 37) rfl ?_
            refine j_bipush (v := nI 8) X dX12_boxOf_37 (by decide) (q := 39) rfl ?_
            refine j_icmp_ge (tgt := 105) X dX12_boxOf_39 (by decide) (q := 42) rfl (fun c5 => ?_) (fun c5 => ?_)
            · skip
              have c5 : 8 ≤ k36_3 := (nI_leI (a := 8) (b := k36_3) (by omega) (by omega)).mp c5
              exfalso; omega
            · skip
              have c5 : ¬ 8 ≤ k36_3 := fun h => c5 ((nI_leI (a := 8) (b := k36_3) (by omega) (by omega)).mpr h)
              refine j_iload_n X 1 dX12_boxOf_42 rfl (q := 43) rfl ?_
              refine j_iload_n X 3 dX12_boxOf_43 rfl (q := 44) rfl ?_
              refine j_ishr X dX12_boxOf_44 (q := 45) rfl ?_
              refine j_eqi (show _ = sr32 (nI t4_1) k36_3 from rfl) ?_
              refine j_iload_n X 1 dX12_boxOf_45 rfl (q := 46) rfl ?_
              refine j_iload_n X 3 dX12_boxOf_46 rfl (q := 47) rfl ?_
              refine j_iconst (v := nI 4) X dX12_boxOf_47 (by decide) (q := 48) rfl ?_
              refine j_iadd X dX12_boxOf_48 (q := 49) rfl ?_
              refine j_eqi (nI_add _ _) ?_
              refine j_bipush (v := nI 8) X dX12_boxOf_49 (by decide) (q := 51) rfl ?_
              refine j_irem X dX12_boxOf_51 (by decide) (q := 52) rfl ?_
              refine j_eqi (pk_rem (by omega) (by omega) (by omega)) ?_
              refine j_ishr X dX12_boxOf_52 (q := 53) rfl ?_
              refine j_eqi (show _ = sr32 (nI t4_1) ((k36_3 + 4) % 8) from rfl) ?_
              refine j_ixor X dX12_boxOf_53 (q := 54) rfl ?_
              refine j_iload_n X 1 dX12_boxOf_54 rfl (q := 55) rfl ?_
              refine j_iload_n X 3 dX12_boxOf_55 rfl (q := 56) rfl ?_
              refine j_iconst (v := nI 5) X dX12_boxOf_56 (by decide) (q := 57) rfl ?_
              refine j_iadd X dX12_boxOf_57 (q := 58) rfl ?_
              refine j_eqi (nI_add _ _) ?_
              refine j_bipush (v := nI 8) X dX12_boxOf_58 (by decide) (q := 60) rfl ?_
              refine j_irem X dX12_boxOf_60 (by decide) (q := 61) rfl ?_
              refine j_eqi (pk_rem (by omega) (by omega) (by omega)) ?_
              refine j_ishr X dX12_boxOf_61 (q := 62) rfl ?_
              refine j_eqi (show _ = sr32 (nI t4_1) ((k36_3 + 5) % 8) from rfl) ?_
              refine j_ixor X dX12_boxOf_62 (q := 63) rfl ?_
              refine j_iload_n X 1 dX12_boxOf_63 rfl (q := 64) rfl ?_
              refine j_iload_n X 3 dX12_boxOf_64 rfl (q := 65) rfl ?_
              refine j_bipush (v := nI 6) X dX12_boxOf_65 (by decide) (q := 67) rfl ?_
              refine j_iadd X dX12_boxOf_67 (q := 68) rfl ?_
              refine j_eqi (nI_add _ _) ?_
              refine j_bipush (v := nI 8) X dX12_boxOf_68 (by decide) (q := 70) rfl ?_
              refine j_irem X dX12_boxOf_70 (by decide) (q := 71) rfl ?_
              refine j_eqi (pk_rem (by omega) (by omega) (by omega)) ?_
              refine j_ishr X dX12_boxOf_71 (q := 72) rfl ?_
              refine j_eqi (show _ = sr32 (nI t4_1) ((k36_3 + 6) % 8) from rfl) ?_
              refine j_ixor X dX12_boxOf_72 (q := 73) rfl ?_
              refine j_iload_n X 1 dX12_boxOf_73 rfl (q := 74) rfl ?_
              refine j_iload_n X 3 dX12_boxOf_74 rfl (q := 75) rfl ?_
              refine j_bipush (v := nI 7) X dX12_boxOf_75 (by decide) (q := 77) rfl ?_
              refine j_iadd X dX12_boxOf_77 (q := 78) rfl ?_
              refine j_eqi (nI_add _ _) ?_
              refine j_bipush (v := nI 8) X dX12_boxOf_78 (by decide) (q := 80) rfl ?_
              refine j_irem X dX12_boxOf_80 (by decide) (q := 81) rfl ?_
              refine j_eqi (pk_rem (by omega) (by omega) (by omega)) ?_
              refine j_ishr X dX12_boxOf_81 (q := 82) rfl ?_
              refine j_eqi (show _ = sr32 (nI t4_1) ((k36_3 + 7) % 8) from rfl) ?_
              refine j_ixor X dX12_boxOf_82 (q := 83) rfl ?_
              refine j_bipush (v := nI 99) X dX12_boxOf_83 (by decide) (q := 85) rfl ?_
              refine j_iload_n X 3 dX12_boxOf_85 rfl (q := 86) rfl ?_
              refine j_ishr X dX12_boxOf_86 (q := 87) rfl ?_
              refine j_eqi (show _ = sr32 (nI 99) k36_3 from rfl) ?_
              refine j_ixor X dX12_boxOf_87 (q := 88) rfl ?_
              refine j_topi (fun y6 e_y6 => ?_)
              refine j_istore (lv' := [(4, .int y6), (0, .int x1), (1, .int (nI t4_1)), (2, .int t36_3), (3, .int (nI k36_3))]) X dX12_boxOf_88 (by decide) rfl (q := 90) rfl ?_
              refine j_iload_n X 3 dX12_boxOf_90 rfl (q := 91) rfl ?_
              refine j_iload X 0 dX12_boxOf_91 rfl (q := 93) rfl ?_
              refine j_iconst (v := nI 1) X dX12_boxOf_93 (by decide) (q := 94) rfl ?_
              refine j_iand X dX12_boxOf_94 (q := 95) rfl ?_
              refine j_iload_n X 4 dX12_boxOf_95 rfl (q := 96) rfl ?_
              refine j_ishl X dX12_boxOf_96 (q := 97) rfl ?_
              refine j_eqi (show _ = sh32 (y6 &&& (nI 1)) k36_3 from rfl) ?_
              refine j_ior X dX12_boxOf_97 (q := 98) rfl ?_
              refine j_topi (fun y7 e_y7 => ?_)
              refine j_istore_n (lv' := [(2, .int y7), (4, .int y6), (0, .int x1), (1, .int (nI t4_1)), (3, .int (nI k36_3))]) X dX12_boxOf_98 (by decide) rfl (q := 99) rfl ?_
              refine j_iinc (v := nI (k36_3 + 1)) (lv' := [(3, .int (nI (k36_3 + 1))), (2, .int y7), (4, .int y6), (0, .int x1), (1, .int (nI t4_1))]) X 4 dX12_boxOf_99 rfl (nI_inc _ 1) (by decide) rfl (q := 102) rfl ?_
              refine j_goto (tgt := 36) X dX12_boxOf_102 (by decide) ?_
              refine j_lv (lv' := [(0, .int x1), (1, .int (nI t4_1)), (2, .int y7), (3, .int (nI (k36_3 + 1)))]) [3, 4, 1, 0] rfl ?_
              have hb : (X12_boxOf_l36 t4_1) k36_3 t36_3 = y7 := (by subst e_y6; subst e_y7; rfl)
              exact ih36_3 (k36_3 + 1) y7 (by omega) (by rw [itr_s, ← e_t36_3]; exact hb.symm) 
        exact LP36_3 8 0 (nI 0) (by omega) (itr_0 _ _).symm 
      · skip
        have c2 : ¬ 256 ≤ 1 + 255 := fun h => c2 ((nI_leI (a := 256) (b := 1 + 255) (by omega) (by omega)).mpr h)
        exfalso; omega
    | succ r4_1 ih4_1 =>
      intro k4_1 t4_1 hk_t4_1 e_t4_1 
      refine j_iload_n X 2 dX12_boxOf_4 rfl (q := 5) rfl ?_
      refine j_sipush (v := nI 256) X dX12_boxOf_5 (by decide) (q := 8) rfl ?_
      refine j_icmp_ge (tgt := 32) X dX12_boxOf_8 (by decide) (q := 11) rfl (fun c8 => ?_) (fun c8 => ?_)
      · skip
        have c8 : 256 ≤ 1 + k4_1 := (nI_leI (a := 256) (b := 1 + k4_1) (by omega) (by omega)).mp c8
        exfalso; omega
      · skip
        have c8 : ¬ 256 ≤ 1 + k4_1 := fun h => c8 ((nI_leI (a := 256) (b := 1 + k4_1) (by omega) (by omega)).mpr h)
        refine j_iload_n X 0 dX12_boxOf_11 rfl (q := 12) rfl ?_
        refine j_iload_n X 2 dX12_boxOf_12 rfl (q := 13) rfl ?_
        refine j_callSi (As := [.int x1, .int (nI (1 + k4_1))]) (rest := []) (wn := (fun u9 => [])) (wr := []) X (fun sz => c_X12_times l D ct ts x1 (nI (1 + k4_1))  sz) cal_X12_times mw_X12_boxOf_0 cwt_X12_times rfl ⟨by decide, by decide⟩ rfl rfl (Nat.le_of_ble_eq_true rfl) ⟨by decide, by decide⟩ [] [] [] rfl (by decide) rfl (by decide) (by decide) (fun _ => rfl) (by decide) dX12_boxOf_13 (q := 16) rfl (fun r10 u9 hu9 => ?_)
        have hu9 : r10 = f_X12_times x1 (nI (1 + k4_1)) := hu9
        subst hu9
        refine j_iconst (v := nI 1) X dX12_boxOf_16 (by decide) (q := 17) rfl ?_
        have KJ17_12 : ∀ g17_12 : (Nat), g17_12 = X12_boxOf_m17 x1 t4_1 k4_1 → J p l e { frames := 1, cells := 0, slots := 0, locals := 24 } s m [.int x1].toArray below meth c D A 5 Q 0 0 [] [(0, .int x1), (1, .int (nI t4_1)), (2, .int (nI (1 + k4_1)))] [.int (nI g17_12)] 25 := by
          intro g17_12 e_g17_12
          refine j_istore_n (lv' := [(1, .int (nI g17_12)), (0, .int x1), (2, .int (nI (1 + k4_1)))]) X dX12_boxOf_25 (by decide) rfl (q := 26) rfl ?_
          refine j_iinc (v := nI (1 + k4_1 + 1)) (lv' := [(2, .int (nI (1 + k4_1 + 1))), (1, .int (nI g17_12)), (0, .int x1)]) X 2 dX12_boxOf_26 rfl (nI_inc _ 1) (by decide) rfl (q := 29) rfl ?_
          refine j_goto (tgt := 4) X dX12_boxOf_29 (by decide) ?_
          refine j_lv (lv' := [(0, .int x1), (1, .int (nI g17_12)), (2, .int (nI (1 + k4_1 + 1)))]) [2, 1, 0] rfl ?_
          have hb : (X12_boxOf_l4 x1) k4_1 t4_1 = g17_12 := (by subst e_g17_12; rfl)
          exact ih4_1 (k4_1 + 1) g17_12 (by omega) (by rw [itr_s, ← e_t4_1]; exact hb.symm) 
        refine j_icmp_ne (tgt := 24) X dX12_boxOf_17 (by decide) (q := 20) rfl (fun c13 => ?_) (fun c13 => ?_)
        · skip
          refine j_iload_n X 1 dX12_boxOf_24 rfl (q := 25) rfl ?_
          refine j_lv (lv' := [(0, .int x1), (1, .int (nI t4_1)), (2, .int (nI (1 + k4_1)))]) [0, 1, 2] rfl ?_
          exact KJ17_12 t4_1 (by first | rfl | (simp only [X12_boxOf_m17, if_neg c13]; done) | (simp only [X12_boxOf_m17, if_neg c13]; rfl))
        · skip
          refine j_iload_n X 2 dX12_boxOf_20 rfl (q := 21) rfl ?_
          refine j_goto (tgt := 25) X dX12_boxOf_21 (by decide) ?_
          refine j_lv (lv' := [(0, .int x1), (1, .int (nI t4_1)), (2, .int (nI (1 + k4_1)))]) [0, 1, 2] rfl ?_
          exact KJ17_12 (1 + k4_1) (by first | rfl | (simp only [X12_boxOf_m17, if_pos c13]; done) | (simp only [X12_boxOf_m17, if_pos c13]; rfl))
  exact LP4_1 255 0 0 (by omega) (itr_0 _ _).symm 
theorem cal_X12_boxOf : Cal yX12_boxOf cX12_boxOf 5 (some .int) 1 := ⟨tb_at 120 (by decide +kernel) (by decide +kernel), tb_at 1207 (by decide +kernel) (by decide +kernel), by decide +kernel, by decide +kernel, by decide +kernel⟩
theorem cwt_X12_boxOf : Cond.static yX12_boxOf ∈ tb := tb_at 1206 (by decide +kernel) (by decide +kernel)
