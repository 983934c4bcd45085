theorem dX7_multiply_0 : decode cX7_multiply 0 = .ok (.iconst 0, 1) := by decide +kernel
theorem dX7_multiply_1 : decode cX7_multiply 1 = .ok (.istore 4, 2) := by decide +kernel
theorem dX7_multiply_3 : decode cX7_multiply 3 = .ok (.iload 4, 2) := by decide +kernel
theorem dX7_multiply_5 : decode cX7_multiply 5 = .ok (.bipush 8, 2) := by decide +kernel
theorem dX7_multiply_7 : decode cX7_multiply 7 = .ok (.if_icmp .ge 17, 3) := by decide +kernel
theorem dX7_multiply_10 : decode cX7_multiply 10 = .ok (.aload_n 0, 1) := by decide +kernel
theorem dX7_multiply_11 : decode cX7_multiply 11 = .ok (.getfield 9, 3) := by decide +kernel
theorem dX7_multiply_14 : decode cX7_multiply 14 = .ok (.iload 4, 2) := by decide +kernel
theorem dX7_multiply_16 : decode cX7_multiply 16 = .ok (.iconst 0, 1) := by decide +kernel
theorem dX7_multiply_17 : decode cX7_multiply 17 = .ok (.iastore, 1) := by decide +kernel
theorem dX7_multiply_18 : decode cX7_multiply 18 = .ok (.iinc 4 1, 3) := by decide +kernel
theorem dX7_multiply_21 : decode cX7_multiply 21 = .ok (.goto (-18), 3) := by decide +kernel
theorem dX7_multiply_24 : decode cX7_multiply 24 = .ok (.lconst 0, 1) := by decide +kernel
theorem dX7_multiply_25 : decode cX7_multiply 25 = .ok (.lstore 4, 2) := by decide +kernel
theorem dX7_multiply_27 : decode cX7_multiply 27 = .ok (.bipush 7, 2) := by decide +kernel
theorem dX7_multiply_29 : decode cX7_multiply 29 = .ok (.istore 6, 2) := by decide +kernel
theorem dX7_multiply_31 : decode cX7_multiply 31 = .ok (.iload 6, 2) := by decide +kernel
theorem dX7_multiply_33 : decode cX7_multiply 33 = .ok (.ifCond .lt 27, 3) := by decide +kernel
theorem dX7_multiply_36 : decode cX7_multiply 36 = .ok (.aload_n 0, 1) := by decide +kernel
theorem dX7_multiply_37 : decode cX7_multiply 37 = .ok (.aload_n 1, 1) := by decide +kernel
theorem dX7_multiply_38 : decode cX7_multiply 38 = .ok (.aload_n 2, 1) := by decide +kernel
theorem dX7_multiply_39 : decode cX7_multiply 39 = .ok (.iload 6, 2) := by decide +kernel
theorem dX7_multiply_41 : decode cX7_multiply 41 = .ok (.iaload, 1) := by decide +kernel
theorem dX7_multiply_42 : decode cX7_multiply 42 = .ok (.i2l, 1) := by decide +kernel
theorem dX7_multiply_43 : decode cX7_multiply 43 = .ok (.ldc2_w 29, 3) := by decide +kernel
theorem dX7_multiply_46 : decode cX7_multiply 46 = .ok (.land, 1) := by decide +kernel
theorem dX7_multiply_47 : decode cX7_multiply 47 = .ok (.lload 4, 2) := by decide +kernel
theorem dX7_multiply_49 : decode cX7_multiply 49 = .ok (.invokevirtual 46, 3) := by decide +kernel
theorem dX7_multiply_52 : decode cX7_multiply 52 = .ok (.lstore 4, 2) := by decide +kernel
theorem dX7_multiply_54 : decode cX7_multiply 54 = .ok (.iinc 6 (-1), 3) := by decide +kernel
theorem dX7_multiply_57 : decode cX7_multiply 57 = .ok (.goto (-26), 3) := by decide +kernel
theorem dX7_multiply_60 : decode cX7_multiply 60 = .ok (.lload 4, 2) := by decide +kernel
theorem dX7_multiply_62 : decode cX7_multiply 62 = .ok (.lconst 0, 1) := by decide +kernel
theorem dX7_multiply_63 : decode cX7_multiply 63 = .ok (.lcmp, 1) := by decide +kernel
theorem dX7_multiply_64 : decode cX7_multiply 64 = .ok (.ifCond .ne 17, 3) := by decide +kernel
theorem dX7_multiply_67 : decode cX7_multiply 67 = .ok (.aload_n 0, 1) := by decide +kernel
theorem dX7_multiply_68 : decode cX7_multiply 68 = .ok (.getfield 9, 3) := by decide +kernel
theorem dX7_multiply_71 : decode cX7_multiply 71 = .ok (.aload_n 0, 1) := by decide +kernel
theorem dX7_multiply_72 : decode cX7_multiply 72 = .ok (.getfield 19, 3) := by decide +kernel
theorem dX7_multiply_75 : decode cX7_multiply 75 = .ok (.invokestatic 31, 3) := by decide +kernel
theorem dX7_multiply_78 : decode cX7_multiply 78 = .ok (.ifCond .ne 11, 3) := by decide +kernel
theorem dX7_multiply_81 : decode cX7_multiply 81 = .ok (.aload_n 0, 1) := by decide +kernel
theorem dX7_multiply_82 : decode cX7_multiply 82 = .ok (.aload_n 0, 1) := by decide +kernel
theorem dX7_multiply_83 : decode cX7_multiply 83 = .ok (.getfield 9, 3) := by decide +kernel
theorem dX7_multiply_86 : decode cX7_multiply 86 = .ok (.invokevirtual 35, 3) := by decide +kernel
theorem dX7_multiply_89 : decode cX7_multiply 89 = .ok (.iconst 0, 1) := by decide +kernel
theorem dX7_multiply_90 : decode cX7_multiply 90 = .ok (.istore 6, 2) := by decide +kernel
theorem dX7_multiply_92 : decode cX7_multiply 92 = .ok (.iload 6, 2) := by decide +kernel
theorem dX7_multiply_94 : decode cX7_multiply 94 = .ok (.bipush 8, 2) := by decide +kernel
theorem dX7_multiply_96 : decode cX7_multiply 96 = .ok (.if_icmp .ge 20, 3) := by decide +kernel
theorem dX7_multiply_99 : decode cX7_multiply 99 = .ok (.aload_n 3, 1) := by decide +kernel
theorem dX7_multiply_100 : decode cX7_multiply 100 = .ok (.iload 6, 2) := by decide +kernel
theorem dX7_multiply_102 : decode cX7_multiply 102 = .ok (.aload_n 0, 1) := by decide +kernel
theorem dX7_multiply_103 : decode cX7_multiply 103 = .ok (.getfield 9, 3) := by decide +kernel
theorem dX7_multiply_106 : decode cX7_multiply 106 = .ok (.iload 6, 2) := by decide +kernel
theorem dX7_multiply_108 : decode cX7_multiply 108 = .ok (.iaload, 1) := by decide +kernel
theorem dX7_multiply_109 : decode cX7_multiply 109 = .ok (.iastore, 1) := by decide +kernel
theorem dX7_multiply_110 : decode cX7_multiply 110 = .ok (.iinc 6 1, 3) := by decide +kernel
theorem dX7_multiply_113 : decode cX7_multiply 113 = .ok (.goto (-21), 3) := by decide +kernel
theorem dX7_multiply_116 : decode cX7_multiply 116 = .ok (.return_, 1) := by decide +kernel
noncomputable def X7_multiply_l92 (g64_6 : (Nat → Int32)) (k92_16 : Nat) (t92_16 : (Nat → Int32)) : (Nat → Int32) :=
  let y19 := g64_6 k92_16
  upd t92_16 k92_16 y19
noncomputable def X7_multiply_m64 (xsm : List Int32) (t31_4 : (Nat → Int32) × (Int64)) : (Nat → Int32) :=
  if (lg_cmp t31_4.2 ((0 : Int64))) = 0 then
  (if (f_X7_isBelow t31_4.1 (fun j => xsm.getD j 0)) = 0 then
  (let u14 := f_X7_subtractModulus t31_4.1 xsm
  u14)
  else
  (t31_4.1))
  else
  (let u8 := f_X7_subtractModulus t31_4.1 xsm
  u8)
noncomputable def X7_multiply_l31 (v_inverse : Int32) (f_p2 : Nat → Int32) (f_p1 : Nat → Int32) (xsm : List Int32) (r31_4 : Nat) (t31_4 : (Nat → Int32) × (Int64)) : (Nat → Int32) × (Int64) :=
  let w23 := f_X7_addProduct v_inverse f_p1 t31_4.1 (((f_p2 r31_4).toInt64) &&& ((4294967295 : Int64))) t31_4.2 xsm
  (w23.2, w23.1)
noncomputable def X7_multiply_l3  (k3_1 : Nat) (t3_1 : (Nat → Int32)) : (Nat → Int32) :=
  upd t3_1 k3_1 (nI 0)
noncomputable def f_X7_multiply (v_inverse : Int32) (f_sum : Nat → Int32) (f_p3 : Nat → Int32) (f_p2 : Nat → Int32) (f_p1 : Nat → Int32) (xsm : List Int32) : (Nat → Int32) × (Nat → Int32) :=
  let t3_1 := itr X7_multiply_l3 f_sum 8
  let y3 := (0 : Int64)
  let t31_4 := itd (X7_multiply_l31 v_inverse f_p2 f_p1 xsm) 8 ((t3_1, y3))
  let g64_6 := X7_multiply_m64 xsm t31_4
  let t92_16 := itr (X7_multiply_l92 g64_6) f_p3 8
  (t92_16, g64_6)
theorem cal_X7_multiply : Cal yX7_multiply cX7_multiply 7 none 3 := ⟨tb_at 113 (by decide +kernel) (by decide +kernel), tb_at 555 (by decide +kernel) (by decide +kernel), by decide +kernel, by decide +kernel, by decide +kernel⟩
theorem cwi_X7_multiply : Cond.instanceMethod yX7_multiply ∈ tb := tb_at 554 (by decide +kernel) (by decide +kernel)
theorem cws_X7_multiply : Cond.selects yX7_multiply.cls yX7_multiply yX7_multiply ∈ tb := tb_at 3 (by decide +kernel) (by decide +kernel)
theorem mw_X7_multiply_ttb_0 : Cond.fieldLink "GuardedTree$Modulus" 9 "GuardedTree$Modulus" "sum" "[I" ∈ tb := tb_at 186 (by decide +kernel) (by decide +kernel)
theorem mw_X7_multiply_ttb_1 : Cond.fieldLink "GuardedTree$Modulus" 19 "GuardedTree$Modulus" "modulus" "[I" ∈ tb := tb_at 184 (by decide +kernel) (by decide +kernel)
theorem mw_X7_multiply_ttb_2 : Cond.constantLong "GuardedTree$Modulus" 29 4294967295 ∈ tb := tb_at 556 (by decide +kernel) (by decide +kernel)
theorem mw_X7_multiply_ttb_3 : Cond.methodLink "GuardedTree$Modulus" 35 yX7_subtractModulus ∈ tb := tb_at 564 (by decide +kernel) (by decide +kernel)
theorem mw_X7_multiply_ttb_4 : Cond.methodLink "GuardedTree$Modulus" 31 yX7_isBelow ∈ tb := tb_at 561 (by decide +kernel) (by decide +kernel)
theorem mw_X7_multiply_ttb_5 : Cond.methodLink "GuardedTree$Modulus" 46 yX7_addProduct ∈ tb := tb_at 557 (by decide +kernel) (by decide +kernel)
set_option maxHeartbeats 4000000 in
set_option maxRecDepth 100000 in
theorem c_X7_multiply_ttb (l : Launch) (D : va_G) (ct : Nat → ClassId) (ts : Nat → Nat) (a_this a_this_sum a_this_base a_this_result : Nat) (v_inverse : Int32) (f_sum : Nat → Int32) (f_base : Nat → Int32) (z1 : Nat) (tC1 : String) (tn1 : String) (xs1 : List Int32) (z2 : Nat) (tC2 : String) (tn2 : String) (xs2 : List Int32) (zm : Nat) (tCm : String) (tnm : String) (xsm : List Int32) (zs : Nat) (tCs : String) (tns : String) (xss : List Int32)   (hz1 : SXL[z1]? = some (tC1, tn1, 8, xs1)) (hz2 : SXL[z2]? = some (tC2, tn2, 8, xs2)) (hzm : SXL[zm]? = some (tCm, tnm, 8, xsm)) (hzs : SXL[zs]? = some (tCs, tns, 8, xss)) (sz : Nat) : Met l yX7_multiply (Cond.code yX7_multiply cX7_multiply 7 none :: tb) { frames := 1, cells := 0, slots := 0, locals := 34 } (PcG D ct SXL ts [.ref a_this, .ref (ts z1), .ref (ts z2), .ref a_this_base] [(a_this, .inr (7, [.ref (ts zm), .ref (ts zs), .ref a_this_sum, .ref a_this_base, .ref a_this_result, .int v_inverse])), (a_this_sum, .inl (ct 0, 8, .inl f_sum)), (a_this_base, .inl (ct 0, 8, .inl f_base))] sz) (va_Qv (fun u : (Nat → Int32) × (Nat → Int32) => u = f_X7_multiply v_inverse f_sum f_base (fun j => xs2.getD j 0) (fun j => xs1.getD j 0) xsm) (fun u => BG D ct (va_A [(a_this, .inr (7, [.ref (ts zm), .ref (ts zs), .ref a_this_sum, .ref a_this_base, .ref a_this_result, .int v_inverse])), (a_this_sum, .inl (ct 0, 8, .inl f_sum)), (a_this_base, .inl (ct 0, 8, .inl f_base))] sz) [(a_this, .inr (7, [.ref (ts zm), .ref (ts zs), .ref a_this_sum, .ref a_this_base, .ref a_this_result, .int v_inverse])), (a_this_sum, .inl (ct 0, 8, .inl u.2)), (a_this_base, .inl (ct 0, 8, .inl u.1))]) (va_A [(a_this, .inr (7, [.ref (ts zm), .ref (ts zs), .ref a_this_sum, .ref a_this_base, .ref a_this_result, .int v_inverse])), (a_this_sum, .inl (ct 0, 8, .inl f_sum)), (a_this_base, .inl (ct 0, 8, .inl f_base))] sz)) 0 0 (va_A [(a_this, .inr (7, [.ref (ts zm), .ref (ts zs), .ref a_this_sum, .ref a_this_base, .ref a_this_result, .int v_inverse])), (a_this_sum, .inl (ct 0, 8, .inl f_sum)), (a_this_base, .inl (ct 0, 8, .inl f_base))] sz) := by
  refine metJ (QcF := fun A => va_Qv (fun u : (Nat → Int32) × (Nat → Int32) => u = f_X7_multiply v_inverse f_sum f_base (fun j => xs2.getD j 0) (fun j => xs1.getD j 0) xsm) (fun u => BG D ct A [(a_this, .inr (7, [.ref (ts zm), .ref (ts zs), .ref a_this_sum, .ref a_this_base, .ref a_this_result, .int v_inverse])), (a_this_sum, .inl (ct 0, 8, .inl u.2)), (a_this_base, .inl (ct 0, 8, .inl u.1))]) A) (by decide) (Nat.le_of_ble_eq_true rfl) ?_
  intro p e s m below meth c A X hnm
  obtain ⟨Q, hQ⟩ : ∃ Q, Q = MQ below (va_Qv (fun u : (Nat → Int32) × (Nat → Int32) => u = f_X7_multiply v_inverse f_sum f_base (fun j => xs2.getD j 0) (fun j => xs1.getD j 0) xsm) (fun u => BG D ct A [(a_this, .inr (7, [.ref (ts zm), .ref (ts zs), .ref a_this_sum, .ref a_this_base, .ref a_this_result, .int v_inverse])), (a_this_sum, .inl (ct 0, 8, .inl u.2)), (a_this_base, .inl (ct 0, 8, .inl u.1))]) A) [.ref a_this, .ref (ts z1), .ref (ts z2), .ref a_this_base].toArray s 0 0 A := ⟨_, rfl⟩
  rw [← hQ]
  refine j_lve (lv' := [(0, .ref a_this), (1, .ref (ts z1)), (2, .ref (ts z2)), (3, .ref a_this_base)]) rfl ?_
  refine j_iconst (v := nI 0) X dX7_multiply_0 (by decide) (q := 1) rfl ?_
  refine j_istore (lv' := [(4, .int (nI 0)), (0, .ref a_this), (1, .ref (ts z1)), (2, .ref (ts z2)), (3, .ref a_this_base)]) X dX7_multiply_1 (by decide) rfl (q := 3) rfl ?_
  refine j_lv (lv' := [(0, .ref a_this), (1, .ref (ts z1)), (2, .ref (ts z2)), (3, .ref a_this_base), (4, .int (nI 0))]) [1, 2, 3, 4, 0] rfl ?_
  have LP3_1 : ∀ (r3_1 k3_1 : Nat) (t3_1 : (Nat → Int32)), k3_1 + r3_1 = 8 → t3_1 = itr X7_multiply_l3 f_sum k3_1 → J p l e { frames := 1, cells := 0, slots := 0, locals := 34 } s m [.ref a_this, .ref (ts z1), .ref (ts z2), .ref a_this_base].toArray below meth c D A 7 Q 0 0 [(a_this, .inr (7, [.ref (ts zm), .ref (ts zs), .ref a_this_sum, .ref a_this_base, .ref a_this_result, .int v_inverse])), (a_this_sum, .inl (ct 0, 8, .inl t3_1)), (a_this_base, .inl (ct 0, 8, .inl f_base))] [(0, .ref a_this), (1, .ref (ts z1)), (2, .ref (ts z2)), (3, .ref a_this_base), (4, .int (nI k3_1))] [] 3 := by
    intro r3_1
    induction r3_1 with
    | zero =>
      intro k3_1 t3_1 hk_t3_1 e_t3_1 
      have hkk_t3_1 : 8 = k3_1 := by omega
      subst hkk_t3_1
      refine j_iload X 4 dX7_multiply_3 rfl (q := 5) rfl ?_
      refine j_bipush (v := nI 8) X dX7_multiply_5 (by decide) (q := 7) rfl ?_
      refine j_icmp_ge (tgt := 24) X dX7_multiply_7 (by decide) (q := 10) rfl (fun c2 => ?_) (fun c2 => ?_)
      · skip
        have c2 : 8 ≤ 8 := (nI_leI (by omega) (by omega)).mp c2
        refine j_lconst (v := 0) X dX7_multiply_24 (by decide) (q := 25) rfl ?_
        refine j_topl (fun y3 e_y3 => ?_)
        refine j_lstore (lv' := [(4, .long y3), (0, .ref a_this), (1, .ref (ts z1)), (2, .ref (ts z2)), (3, .ref a_this_base)]) X dX7_multiply_25 (by decide) rfl (q := 27) rfl ?_
        refine j_bipush (v := nI 7) X dX7_multiply_27 (by decide) (q := 29) rfl ?_
        refine j_istore (lv' := [(6, .int (nI 7)), (4, .long y3), (0, .ref a_this), (1, .ref (ts z1)), (2, .ref (ts z2)), (3, .ref a_this_base)]) X dX7_multiply_29 (by decide) rfl (q := 31) rfl ?_
        refine j_lv (lv' := [(0, .ref a_this), (1, .ref (ts z1)), (2, .ref (ts z2)), (3, .ref a_this_base), (4, .long y3), (6, .int (nI 7))]) [2, 3, 4, 5, 1, 0] rfl ?_
        have LP31_4 : ∀ (r31_4 : Nat) (t31_4 : (Nat → Int32) × (Int64)), r31_4 ≤ 8 → itd (X7_multiply_l31 v_inverse (fun j => xs2.getD j 0) (fun j => xs1.getD j 0) xsm) 8 ((t3_1, y3)) = itd (X7_multiply_l31 v_inverse (fun j => xs2.getD j 0) (fun j => xs1.getD j 0) xsm) r31_4 t31_4 → J p l e { frames := 1, cells := 0, slots := 0, locals := 34 } s m [.ref a_this, .ref (ts z1), .ref (ts z2), .ref a_this_base].toArray below meth c D A 7 Q 0 0 [(a_this, .inr (7, [.ref (ts zm), .ref (ts zs), .ref a_this_sum, .ref a_this_base, .ref a_this_result, .int v_inverse])), (a_this_sum, .inl (ct 0, 8, .inl t31_4.1)), (a_this_base, .inl (ct 0, 8, .inl f_base))] [(0, .ref a_this), (1, .ref (ts z1)), (2, .ref (ts z2)), (3, .ref a_this_base), (4, .long t31_4.2), (6, .int (dn r31_4))] [] 31 := by
          intro r31_4
          induction r31_4 with
          | zero =>
            intro t31_4 hk_t31_4 e0_t31_4 
            have e_t31_4 : t31_4 = itd (X7_multiply_l31 v_inverse (fun j => xs2.getD j 0) (fun j => xs1.getD j 0) xsm) 8 ((t3_1, y3)) := (e0_t31_4.trans (itd_0 _ _)).symm
            refine j_iload X 5 dX7_multiply_31 rfl (q := 33) rfl ?_
            refine j_if_lt (tgt := 60) X dX7_multiply_33 (by decide) (q := 36) rfl (fun c5 => ?_) (fun c5 => ?_)
            · skip
              refine j_lload X 4 dX7_multiply_60 rfl (q := 62) rfl ?_
              refine j_lconst (v := 0) X dX7_multiply_62 (by decide) (q := 63) rfl ?_
              refine j_lcmp X dX7_multiply_63 (q := 64) rfl ?_
              have KJ64_6 : ∀ g64_6 : (Nat → Int32), g64_6 = X7_multiply_m64 xsm t31_4 → J p l e { frames := 1, cells := 0, slots := 0, locals := 34 } s m [.ref a_this, .ref (ts z1), .ref (ts z2), .ref a_this_base].toArray below meth c D A 7 Q 0 0 [(a_this, .inr (7, [.ref (ts zm), .ref (ts zs), .ref a_this_sum, .ref a_this_base, .ref a_this_result, .int v_inverse])), (a_this_sum, .inl (ct 0, 8, .inl g64_6)), (a_this_base, .inl (ct 0, 8, .inl f_base))] [(0, .ref a_this), (1, .ref (ts z1)), (2, .ref (ts z2)), (3, .ref a_this_base), (4, .long t31_4.2), (6, .int (dn 0))] [] 89 := by
                intro g64_6 e_g64_6
                refine j_iconst (v := nI 0) X dX7_multiply_89 (by decide) (q := 90) rfl ?_
                refine j_istore (lv' := [(6, .int (nI 0)), (0, .ref a_this), (1, .ref (ts z1)), (2, .ref (ts z2)), (3, .ref a_this_base), (4, .long t31_4.2)]) X dX7_multiply_90 (by decide) rfl (q := 92) rfl ?_
                refine j_lv (lv' := [(0, .ref a_this), (1, .ref (ts z1)), (2, .ref (ts z2)), (3, .ref a_this_base), (4, .long t31_4.2), (6, .int (nI 0))]) [1, 2, 3, 4, 5, 0] rfl ?_
                have LP92_16 : ∀ (r92_16 k92_16 : Nat) (t92_16 : (Nat → Int32)), k92_16 + r92_16 = 8 → t92_16 = itr (X7_multiply_l92 g64_6) f_base k92_16 → J p l e { frames := 1, cells := 0, slots := 0, locals := 34 } s m [.ref a_this, .ref (ts z1), .ref (ts z2), .ref a_this_base].toArray below meth c D A 7 Q 0 0 [(a_this, .inr (7, [.ref (ts zm), .ref (ts zs), .ref a_this_sum, .ref a_this_base, .ref a_this_result, .int v_inverse])), (a_this_sum, .inl (ct 0, 8, .inl g64_6)), (a_this_base, .inl (ct 0, 8, .inl t92_16))] [(0, .ref a_this), (1, .ref (ts z1)), (2, .ref (ts z2)), (3, .ref a_this_base), (4, .long t31_4.2), (6, .int (nI k92_16))] [] 92 := by
                  intro r92_16
                  induction r92_16 with
                  | zero =>
                    intro k92_16 t92_16 hk_t92_16 e_t92_16 
                    have hkk_t92_16 : 8 = k92_16 := by omega
                    subst hkk_t92_16
                    refine j_iload X 5 dX7_multiply_92 rfl (q := 94) rfl ?_
                    refine j_bipush (v := nI 8) X dX7_multiply_94 (by decide) (q := 96) rfl ?_
                    refine j_icmp_ge (tgt := 116) X dX7_multiply_96 (by decide) (q := 99) rfl (fun c17 => ?_) (fun c17 => ?_)
                    · skip
                      have c17 : 8 ≤ 8 := (nI_leI (by omega) (by omega)).mp c17
                      rw [hQ]
                      exact j_vret X ((t92_16, g64_6)) dX7_multiply_116 (by subst e_t3_1; subst e_y3; subst e_t31_4; subst e_g64_6; subst e_t92_16; rfl) rfl
                    · skip
                      have c17 : ¬ 8 ≤ 8 := fun h => c17 ((nI_leI (by omega) (by omega)).mpr h)
                      exfalso; omega
                  | succ r92_16 ih92_16 =>
                    intro k92_16 t92_16 hk_t92_16 e_t92_16 
                    refine j_iload X 5 dX7_multiply_92 rfl (q := 94) rfl ?_
                    refine j_bipush (v := nI 8) X dX7_multiply_94 (by decide) (q := 96) rfl ?_
                    refine j_icmp_ge (tgt := 116) X dX7_multiply_96 (by decide) (q := 99) rfl (fun c18 => ?_) (fun c18 => ?_)
                    · skip
                      have c18 : 8 ≤ k92_16 := (nI_leI (by omega) (by omega)).mp c18
                      exfalso; omega
                    · skip
                      have c18 : ¬ 8 ≤ k92_16 := fun h => c18 ((nI_leI (by omega) (by omega)).mpr h)
                      refine j_aload_n X 3 dX7_multiply_99 rfl (q := 100) rfl ?_
                      refine j_iload X 5 dX7_multiply_100 rfl (q := 102) rfl ?_
                      refine j_aload_n X 0 dX7_multiply_102 rfl (q := 103) rfl ?_
                      refine j_get (f := 2) X 0 inT7 rfl rfl (by decide) mw_X7_multiply_ttb_0 rfl dX7_multiply_103 (q := 106) rfl ?_
                      refine j_iload X 5 dX7_multiply_106 rfl (q := 108) rfl ?_
                      refine k_iald X 1 rfl (vp_in_nI (by omega) (by omega)) (nI_clamp (by omega)) dX7_multiply_108 (q := 109) rfl ?_
                      refine j_topi (fun y19 e_y19 => ?_)
                      refine k_iast (ws2 := [(a_this, .inr (7, [.ref (ts zm), .ref (ts zs), .ref a_this_sum, .ref a_this_base, .ref a_this_result, .int v_inverse])), (a_this_sum, .inl (ct 0, 8, .inl g64_6)), (a_this_base, .inl (ct 0, 8, .inl (upd t92_16 k92_16 y19)))]) X 2 rfl (vp_in_nI (by omega) (by omega)) (nI_clamp (by omega)) dX7_multiply_109 rfl (q := 110) rfl ?_
                      refine j_iinc (v := nI (k92_16 + 1)) (lv' := [(6, .int (nI (k92_16 + 1))), (0, .ref a_this), (1, .ref (ts z1)), (2, .ref (ts z2)), (3, .ref a_this_base), (4, .long t31_4.2)]) X 5 dX7_multiply_110 rfl (nI_inc _ 1) (by decide) rfl (q := 113) rfl ?_
                      refine j_goto (tgt := 92) X dX7_multiply_113 (by decide) ?_
                      refine j_lv (lv' := [(0, .ref a_this), (1, .ref (ts z1)), (2, .ref (ts z2)), (3, .ref a_this_base), (4, .long t31_4.2), (6, .int (nI (k92_16 + 1)))]) [1, 2, 3, 4, 5, 0] rfl ?_
                      have hb : (X7_multiply_l92 g64_6) k92_16 t92_16 = upd t92_16 k92_16 y19 := (by subst e_y19; rfl)
                      exact ih92_16 (k92_16 + 1) (upd t92_16 k92_16 y19) (by omega) (by rw [itr_s, ← e_t92_16]; exact hb.symm) 
                exact LP92_16 8 0 f_base (by omega) (itr_0 _ _).symm 
              refine j_if_ne (tgt := 81) X dX7_multiply_64 (by decide) (q := 67) rfl (fun c7 => ?_) (fun c7 => ?_)
              · skip
                refine j_aload_n X 0 dX7_multiply_81 rfl (q := 82) rfl ?_
                refine j_aload_n X 0 dX7_multiply_82 rfl (q := 83) rfl ?_
                refine j_get (f := 2) X 0 inT7 rfl rfl (by decide) mw_X7_multiply_ttb_0 rfl dX7_multiply_83 (q := 86) rfl ?_
                refine j_callVv (As := [.ref a_this_sum]) (rest := []) (wn := (fun u8 => [(a_this, .inr (7, [.ref (ts zm), .ref (ts zs), .ref a_this_sum, .ref a_this_base, .ref a_this_result, .int v_inverse])), (a_this_sum, .inl (ct 0, 8, .inl u8)), (a_this_base, .inl (ct 0, 8, .inl f_base))])) (wr := [(a_this_base, .inl (ct 0, 8, .inl f_base))]) X (fun sz => c_X7_subtractModulus_s l D ct ts a_this_sum a_this a_this_base a_this_result v_inverse t31_4.1 zm _ _ xsm zs _ _ xss hzm hzs sz) cal_X7_subtractModulus 0 rfl rfl mw_X7_multiply_ttb_3 cwi_X7_subtractModulus cws_X7_subtractModulus rfl ⟨by decide, by decide⟩ rfl rfl (Nat.le_of_ble_eq_true rfl) ⟨by decide, by decide⟩ [1, 0] [2] [2, 1, 0] rfl (by decide) rfl (by decide) (by decide) (fun _ => rfl) (by decide) dX7_multiply_86 (q := 89) rfl (fun u8 hu8 => ?_)
                refine j_lv (lv' := [(0, .ref a_this), (1, .ref (ts z1)), (2, .ref (ts z2)), (3, .ref a_this_base), (4, .long t31_4.2), (6, .int (dn 0))]) [0, 1, 2, 3, 4, 5] rfl ?_
                exact KJ64_6 u8 (by subst hu8; first | rfl | (simp only [X7_multiply_m64, if_neg c7]; done) | (simp only [X7_multiply_m64, if_neg c7]; rfl))
              · skip
                refine j_aload_n X 0 dX7_multiply_67 rfl (q := 68) rfl ?_
                refine j_get (f := 2) X 0 inT7 rfl rfl (by decide) mw_X7_multiply_ttb_0 rfl dX7_multiply_68 (q := 71) rfl ?_
                refine j_aload_n X 0 dX7_multiply_71 rfl (q := 72) rfl ?_
                refine j_get (f := 0) X 0 inT7 rfl rfl (by decide) mw_X7_multiply_ttb_1 rfl dX7_multiply_72 (q := 75) rfl ?_
                refine j_callSi (As := [.ref a_this_sum, .ref (ts zm)]) (rest := []) (wn := (fun u10 => [(a_this, .inr (7, [.ref (ts zm), .ref (ts zs), .ref a_this_sum, .ref a_this_base, .ref a_this_result, .int v_inverse])), (a_this_sum, .inl (ct 0, 8, .inl t31_4.1)), (a_this_base, .inl (ct 0, 8, .inl f_base))])) (wr := [(a_this, .inr (7, [.ref (ts zm), .ref (ts zs), .ref a_this_sum, .ref a_this_base, .ref a_this_result, .int v_inverse])), (a_this_base, .inl (ct 0, 8, .inl f_base))]) X (fun sz => c_X7_isBelow_t l D ct ts a_this_sum t31_4.1 zm _ _ xsm hzm sz) cal_X7_isBelow mw_X7_multiply_ttb_4 cwt_X7_isBelow rfl ⟨by decide, by decide⟩ rfl rfl (Nat.le_of_ble_eq_true rfl) ⟨by decide, by decide⟩ [1] [0, 2] [0, 2, 1] rfl (by decide) rfl (by decide) (by decide) (fun _ => rfl) (by decide) dX7_multiply_75 (q := 78) rfl (fun r11 u10 hu10 => ?_)
                have hu10 : r11 = f_X7_isBelow t31_4.1 (fun j => xsm.getD j 0) := hu10
                subst hu10
                refine j_if_ne (tgt := 89) X dX7_multiply_78 (by decide) (q := 81) rfl (fun c13 => ?_) (fun c13 => ?_)
                · skip
                  refine j_lv (lv' := [(0, .ref a_this), (1, .ref (ts z1)), (2, .ref (ts z2)), (3, .ref a_this_base), (4, .long t31_4.2), (6, .int (dn 0))]) [0, 1, 2, 3, 4, 5] rfl ?_
                  exact KJ64_6 t31_4.1 (by first | rfl | (simp only [X7_multiply_m64, if_pos c7, if_neg c13]; done) | (simp only [X7_multiply_m64, if_pos c7, if_neg c13]; rfl))
                · skip
                  refine j_aload_n X 0 dX7_multiply_81 rfl (q := 82) rfl ?_
                  refine j_aload_n X 0 dX7_multiply_82 rfl (q := 83) rfl ?_
                  refine j_get (f := 2) X 0 inT7 rfl rfl (by decide) mw_X7_multiply_ttb_0 rfl dX7_multiply_83 (q := 86) rfl ?_
                  refine j_callVv (As := [.ref a_this_sum]) (rest := []) (wn := (fun u14 => [(a_this, .inr (7, [.ref (ts zm), .ref (ts zs), .ref a_this_sum, .ref a_this_base, .ref a_this_result, .int v_inverse])), (a_this_sum, .inl (ct 0, 8, .inl u14)), (a_this_base, .inl (ct 0, 8, .inl f_base))])) (wr := [(a_this_base, .inl (ct 0, 8, .inl f_base))]) X (fun sz => c_X7_subtractModulus_s l D ct ts a_this_sum a_this a_this_base a_this_result v_inverse t31_4.1 zm _ _ xsm zs _ _ xss hzm hzs sz) cal_X7_subtractModulus 0 rfl rfl mw_X7_multiply_ttb_3 cwi_X7_subtractModulus cws_X7_subtractModulus rfl ⟨by decide, by decide⟩ rfl rfl (Nat.le_of_ble_eq_true rfl) ⟨by decide, by decide⟩ [1, 0] [2] [2, 1, 0] rfl (by decide) rfl (by decide) (by decide) (fun _ => rfl) (by decide) dX7_multiply_86 (q := 89) rfl (fun u14 hu14 => ?_)
                  refine j_lv (lv' := [(0, .ref a_this), (1, .ref (ts z1)), (2, .ref (ts z2)), (3, .ref a_this_base), (4, .long t31_4.2), (6, .int (dn 0))]) [0, 1, 2, 3, 4, 5] rfl ?_
                  exact KJ64_6 u14 (by subst hu14; first | rfl | (simp only [X7_multiply_m64, if_pos c7, if_pos c13]; done) | (simp only [X7_multiply_m64, if_pos c7, if_pos c13]; rfl))
            · skip
              exact absurd (show dn 0 < 0 by decide) c5
          | succ r31_4 ih31_4 =>
            intro t31_4 hk_t31_4 e_t31_4 
            rw [dn_s]
            refine j_iload X 5 dX7_multiply_31 rfl (q := 33) rfl ?_
            refine j_if_lt (tgt := 60) X dX7_multiply_33 (by decide) (q := 36) rfl (fun c20 => ?_) (fun c20 => ?_)
            · skip
              have c20 : r31_4 < 0 := (nI_ltI (by omega) (by omega)).mp c20
              exfalso; omega
            · skip
              have c20 : ¬ r31_4 < 0 := fun h => c20 ((nI_ltI (by omega) (by omega)).mpr h)
              refine j_aload_n X 0 dX7_multiply_36 rfl (q := 37) rfl ?_
              refine j_aload_n X 1 dX7_multiply_37 rfl (q := 38) rfl ?_
              refine j_aload_n X 2 dX7_multiply_38 rfl (q := 39) rfl ?_
              refine j_iload X 5 dX7_multiply_39 rfl (q := 41) rfl ?_
              refine k_ti X z2 hz2 (vp_in_nI (by omega) (by omega)) (nI_clamp (by omega)) dX7_multiply_41 (q := 42) rfl ?_
              refine j_i2l X dX7_multiply_42 (q := 43) rfl ?_
              refine j_ldc2 X mw_X7_multiply_ttb_2 dX7_multiply_43 (q := 46) rfl ?_
              refine j_land X dX7_multiply_46 (q := 47) rfl ?_
              refine j_lload X 4 dX7_multiply_47 rfl (q := 49) rfl ?_
              refine j_callVl (As := [.ref (ts z1), .long (((xs2.getD r31_4 0).toInt64) &&& ((4294967295 : Int64))), .long t31_4.2]) (rest := []) (wn := (fun u21 => [(a_this, .inr (7, [.ref (ts zm), .ref (ts zs), .ref a_this_sum, .ref a_this_base, .ref a_this_result, .int v_inverse])), (a_this_sum, .inl (ct 0, 8, .inl u21)), (a_this_base, .inl (ct 0, 8, .inl f_base))])) (wr := [(a_this_base, .inl (ct 0, 8, .inl f_base))]) X (fun sz => c_X7_addProduct_t l D ct ts a_this a_this_sum a_this_base a_this_result v_inverse t31_4.1 (((xs2.getD r31_4 0).toInt64) &&& ((4294967295 : Int64))) t31_4.2 z1 _ _ xs1 zm _ _ xsm zs _ _ xss hz1 hzm hzs sz) cal_X7_addProduct 0 rfl rfl mw_X7_multiply_ttb_5 cwi_X7_addProduct cws_X7_addProduct rfl ⟨by decide, by decide⟩ rfl rfl (Nat.le_of_ble_eq_true rfl) ⟨by decide, by decide⟩ [0, 1] [2] [1, 2, 0] rfl (by decide) rfl (by decide) (by decide) (fun _ => rfl) (by decide) dX7_multiply_49 (q := 52) rfl (fun r22 u21 hu21 => ?_)
              obtain ⟨w23, e_w23, rfl, rfl⟩ : ∃ w, w = f_X7_addProduct v_inverse (fun j => xs1.getD j 0) t31_4.1 (((xs2.getD r31_4 0).toInt64) &&& ((4294967295 : Int64))) t31_4.2 xsm ∧ r22 = w.1 ∧ u21 = w.2 := ⟨_, rfl, congrArg Prod.fst hu21, congrArg Prod.snd hu21⟩
              refine j_lstore (lv' := [(4, .long w23.1), (0, .ref a_this), (1, .ref (ts z1)), (2, .ref (ts z2)), (3, .ref a_this_base), (6, .int (nI r31_4))]) X dX7_multiply_52 (by decide) rfl (q := 54) rfl ?_
              refine j_iinc (v := dn r31_4) (lv' := [(6, .int (dn r31_4)), (4, .long w23.1), (0, .ref a_this), (1, .ref (ts z1)), (2, .ref (ts z2)), (3, .ref a_this_base)]) X 5 dX7_multiply_54 rfl (dn_dec _) (by decide) rfl (q := 57) rfl ?_
              refine j_goto (tgt := 31) X dX7_multiply_57 (by decide) ?_
              refine j_lv (lv' := [(0, .ref a_this), (1, .ref (ts z1)), (2, .ref (ts z2)), (3, .ref a_this_base), (4, .long w23.1), (6, .int (dn r31_4))]) [2, 3, 4, 5, 1, 0] rfl ?_
              have hb : (X7_multiply_l31 v_inverse (fun j => xs2.getD j 0) (fun j => xs1.getD j 0) xsm) r31_4 t31_4 = (w23.2, w23.1) := (by subst e_w23; rfl)
              exact ih31_4 ((w23.2, w23.1)) (by omega) (by rw [e_t31_4, itd_s, hb]) 
        exact LP31_4 8 ((t3_1, y3)) (by omega) rfl 
      · skip
        have c2 : ¬ 8 ≤ 8 := fun h => c2 ((nI_leI (by omega) (by omega)).mpr h)
        exfalso; omega
    | succ r3_1 ih3_1 =>
      intro k3_1 t3_1 hk_t3_1 e_t3_1 
      refine j_iload X 4 dX7_multiply_3 rfl (q := 5) rfl ?_
      refine j_bipush (v := nI 8) X dX7_multiply_5 (by decide) (q := 7) rfl ?_
      refine j_icmp_ge (tgt := 24) X dX7_multiply_7 (by decide) (q := 10) rfl (fun c24 => ?_) (fun c24 => ?_)
      · skip
        have c24 : 8 ≤ k3_1 := (nI_leI (by omega) (by omega)).mp c24
        exfalso; omega
      · skip
        have c24 : ¬ 8 ≤ k3_1 := fun h => c24 ((nI_leI (by omega) (by omega)).mpr h)
        refine j_aload_n X 0 dX7_multiply_10 rfl (q := 11) rfl ?_
        refine j_get (f := 2) X 0 inT7 rfl rfl (by decide) mw_X7_multiply_ttb_0 rfl dX7_multiply_11 (q := 14) rfl ?_
        refine j_iload X 4 dX7_multiply_14 rfl (q := 16) rfl ?_
        refine j_iconst (v := nI 0) X dX7_multiply_16 (by decide) (q := 17) rfl ?_
        refine k_iast (ws2 := [(a_this, .inr (7, [.ref (ts zm), .ref (ts zs), .ref a_this_sum, .ref a_this_base, .ref a_this_result, .int v_inverse])), (a_this_sum, .inl (ct 0, 8, .inl (upd t3_1 k3_1 (nI 0)))), (a_this_base, .inl (ct 0, 8, .inl f_base))]) X 1 rfl (vp_in_nI (by omega) (by omega)) (nI_clamp (by omega)) dX7_multiply_17 rfl (q := 18) rfl ?_
        refine j_iinc (v := nI (k3_1 + 1)) (lv' := [(4, .int (nI (k3_1 + 1))), (0, .ref a_this), (1, .ref (ts z1)), (2, .ref (ts z2)), (3, .ref a_this_base)]) X 4 dX7_multiply_18 rfl (nI_inc _ 1) (by decide) rfl (q := 21) rfl ?_
        refine j_goto (tgt := 3) X dX7_multiply_21 (by decide) ?_
        refine j_lv (lv' := [(0, .ref a_this), (1, .ref (ts z1)), (2, .ref (ts z2)), (3, .ref a_this_base), (4, .int (nI (k3_1 + 1)))]) [1, 2, 3, 4, 0] rfl ?_
        have hb : X7_multiply_l3 k3_1 t3_1 = upd t3_1 k3_1 (nI 0) := rfl
        exact ih3_1 (k3_1 + 1) (upd t3_1 k3_1 (nI 0)) (by omega) (by rw [itr_s, ← e_t3_1]; exact hb.symm) 
  exact LP3_1 8 0 f_sum (by omega) (itr_0 _ _).symm 
theorem mw_X7_multiply_ttr_0 : Cond.fieldLink "GuardedTree$Modulus" 9 "GuardedTree$Modulus" "sum" "[I" ∈ tb := tb_at 186 (by decide +kernel) (by decide +kernel)
theorem mw_X7_multiply_ttr_1 : Cond.fieldLink "GuardedTree$Modulus" 19 "GuardedTree$Modulus" "modulus" "[I" ∈ tb := tb_at 184 (by decide +kernel) (by decide +kernel)
theorem mw_X7_multiply_ttr_2 : Cond.constantLong "GuardedTree$Modulus" 29 4294967295 ∈ tb := tb_at 556 (by decide +kernel) (by decide +kernel)
theorem mw_X7_multiply_ttr_3 : Cond.methodLink "GuardedTree$Modulus" 35 yX7_subtractModulus ∈ tb := tb_at 564 (by decide +kernel) (by decide +kernel)
theorem mw_X7_multiply_ttr_4 : Cond.methodLink "GuardedTree$Modulus" 31 yX7_isBelow ∈ tb := tb_at 561 (by decide +kernel) (by decide +kernel)
theorem mw_X7_multiply_ttr_5 : Cond.methodLink "GuardedTree$Modulus" 46 yX7_addProduct ∈ tb := tb_at 557 (by decide +kernel) (by decide +kernel)
set_option maxHeartbeats 4000000 in
set_option maxRecDepth 100000 in
theorem c_X7_multiply_ttr (l : Launch) (D : va_G) (ct : Nat → ClassId) (ts : Nat → Nat) (a_this a_this_sum a_this_result a_this_base : Nat) (v_inverse : Int32) (f_sum : Nat → Int32) (f_result : Nat → Int32) (z1 : Nat) (tC1 : String) (tn1 : String) (xs1 : List Int32) (z2 : Nat) (tC2 : String) (tn2 : String) (xs2 : List Int32) (zm : Nat) (tCm : String) (tnm : String) (xsm : List Int32) (zs : Nat) (tCs : String) (tns : String) (xss : List Int32)   (hz1 : SXL[z1]? = some (tC1, tn1, 8, xs1)) (hz2 : SXL[z2]? = some (tC2, tn2, 8, xs2)) (hzm : SXL[zm]? = some (tCm, tnm, 8, xsm)) (hzs : SXL[zs]? = some (tCs, tns, 8, xss)) (sz : Nat) : Met l yX7_multiply (Cond.code yX7_multiply cX7_multiply 7 none :: tb) { frames := 1, cells := 0, slots := 0, locals := 34 } (PcG D ct SXL ts [.ref a_this, .ref (ts z1), .ref (ts z2), .ref a_this_result] [(a_this, .inr (7, [.ref (ts zm), .ref (ts zs), .ref a_this_sum, .ref a_this_base, .ref a_this_result, .int v_inverse])), (a_this_sum, .inl (ct 0, 8, .inl f_sum)), (a_this_result, .inl (ct 0, 8, .inl f_result))] sz) (va_Qv (fun u : (Nat → Int32) × (Nat → Int32) => u = f_X7_multiply v_inverse f_sum f_result (fun j => xs2.getD j 0) (fun j => xs1.getD j 0) xsm) (fun u => BG D ct (va_A [(a_this, .inr (7, [.ref (ts zm), .ref (ts zs), .ref a_this_sum, .ref a_this_base, .ref a_this_result, .int v_inverse])), (a_this_sum, .inl (ct 0, 8, .inl f_sum)), (a_this_result, .inl (ct 0, 8, .inl f_result))] sz) [(a_this, .inr (7, [.ref (ts zm), .ref (ts zs), .ref a_this_sum, .ref a_this_base, .ref a_this_result, .int v_inverse])), (a_this_sum, .inl (ct 0, 8, .inl u.2)), (a_this_result, .inl (ct 0, 8, .inl u.1))]) (va_A [(a_this, .inr (7, [.ref (ts zm), .ref (ts zs), .ref a_this_sum, .ref a_this_base, .ref a_this_result, .int v_inverse])), (a_this_sum, .inl (ct 0, 8, .inl f_sum)), (a_this_result, .inl (ct 0, 8, .inl f_result))] sz)) 0 0 (va_A [(a_this, .inr (7, [.ref (ts zm), .ref (ts zs), .ref a_this_sum, .ref a_this_base, .ref a_this_result, .int v_inverse])), (a_this_sum, .inl (ct 0, 8, .inl f_sum)), (a_this_result, .inl (ct 0, 8, .inl f_result))] sz) := by
  refine metJ (QcF := fun A => va_Qv (fun u : (Nat → Int32) × (Nat → Int32) => u = f_X7_multiply v_inverse f_sum f_result (fun j => xs2.getD j 0) (fun j => xs1.getD j 0) xsm) (fun u => BG D ct A [(a_this, .inr (7, [.ref (ts zm), .ref (ts zs), .ref a_this_sum, .ref a_this_base, .ref a_this_result, .int v_inverse])), (a_this_sum, .inl (ct 0, 8, .inl u.2)), (a_this_result, .inl (ct 0, 8, .inl u.1))]) A) (by decide) (Nat.le_of_ble_eq_true rfl) ?_
  intro p e s m below meth c A X hnm
  obtain ⟨Q, hQ⟩ : ∃ Q, Q = MQ below (va_Qv (fun u : (Nat → Int32) × (Nat → Int32) => u = f_X7_multiply v_inverse f_sum f_result (fun j => xs2.getD j 0) (fun j => xs1.getD j 0) xsm) (fun u => BG D ct A [(a_this, .inr (7, [.ref (ts zm), .ref (ts zs), .ref a_this_sum, .ref a_this_base, .ref a_this_result, .int v_inverse])), (a_this_sum, .inl (ct 0, 8, .inl u.2)), (a_this_result, .inl (ct 0, 8, .inl u.1))]) A) [.ref a_this, .ref (ts z1), .ref (ts z2), .ref a_this_result].toArray s 0 0 A := ⟨_, rfl⟩
  rw [← hQ]
  refine j_lve (lv' := [(0, .ref a_this), (1, .ref (ts z1)), (2, .ref (ts z2)), (3, .ref a_this_result)]) rfl ?_
  refine j_iconst (v := nI 0) X dX7_multiply_0 (by decide) (q := 1) rfl ?_
  refine j_istore (lv' := [(4, .int (nI 0)), (0, .ref a_this), (1, .ref (ts z1)), (2, .ref (ts z2)), (3, .ref a_this_result)]) X dX7_multiply_1 (by decide) rfl (q := 3) rfl ?_
  refine j_lv (lv' := [(0, .ref a_this), (1, .ref (ts z1)), (2, .ref (ts z2)), (3, .ref a_this_result), (4, .int (nI 0))]) [1, 2, 3, 4, 0] rfl ?_
  have LP3_1 : ∀ (r3_1 k3_1 : Nat) (t3_1 : (Nat → Int32)), k3_1 + r3_1 = 8 → t3_1 = itr X7_multiply_l3 f_sum k3_1 → J p l e { frames := 1, cells := 0, slots := 0, locals := 34 } s m [.ref a_this, .ref (ts z1), .ref (ts z2), .ref a_this_result].toArray below meth c D A 7 Q 0 0 [(a_this, .inr (7, [.ref (ts zm), .ref (ts zs), .ref a_this_sum, .ref a_this_base, .ref a_this_result, .int v_inverse])), (a_this_sum, .inl (ct 0, 8, .inl t3_1)), (a_this_result, .inl (ct 0, 8, .inl f_result))] [(0, .ref a_this), (1, .ref (ts z1)), (2, .ref (ts z2)), (3, .ref a_this_result), (4, .int (nI k3_1))] [] 3 := by
    intro r3_1
    induction r3_1 with
    | zero =>
      intro k3_1 t3_1 hk_t3_1 e_t3_1 
      have hkk_t3_1 : 8 = k3_1 := by omega
      subst hkk_t3_1
      refine j_iload X 4 dX7_multiply_3 rfl (q := 5) rfl ?_
      refine j_bipush (v := nI 8) X dX7_multiply_5 (by decide) (q := 7) rfl ?_
      refine j_icmp_ge (tgt := 24) X dX7_multiply_7 (by decide) (q := 10) rfl (fun c2 => ?_) (fun c2 => ?_)
      · skip
        have c2 : 8 ≤ 8 := (nI_leI (by omega) (by omega)).mp c2
        refine j_lconst (v := 0) X dX7_multiply_24 (by decide) (q := 25) rfl ?_
        refine j_topl (fun y3 e_y3 => ?_)
        refine j_lstore (lv' := [(4, .long y3), (0, .ref a_this), (1, .ref (ts z1)), (2, .ref (ts z2)), (3, .ref a_this_result)]) X dX7_multiply_25 (by decide) rfl (q := 27) rfl ?_
        refine j_bipush (v := nI 7) X dX7_multiply_27 (by decide) (q := 29) rfl ?_
        refine j_istore (lv' := [(6, .int (nI 7)), (4, .long y3), (0, .ref a_this), (1, .ref (ts z1)), (2, .ref (ts z2)), (3, .ref a_this_result)]) X dX7_multiply_29 (by decide) rfl (q := 31) rfl ?_
        refine j_lv (lv' := [(0, .ref a_this), (1, .ref (ts z1)), (2, .ref (ts z2)), (3, .ref a_this_result), (4, .long y3), (6, .int (nI 7))]) [2, 3, 4, 5, 1, 0] rfl ?_
        have LP31_4 : ∀ (r31_4 : Nat) (t31_4 : (Nat → Int32) × (Int64)), r31_4 ≤ 8 → itd (X7_multiply_l31 v_inverse (fun j => xs2.getD j 0) (fun j => xs1.getD j 0) xsm) 8 ((t3_1, y3)) = itd (X7_multiply_l31 v_inverse (fun j => xs2.getD j 0) (fun j => xs1.getD j 0) xsm) r31_4 t31_4 → J p l e { frames := 1, cells := 0, slots := 0, locals := 34 } s m [.ref a_this, .ref (ts z1), .ref (ts z2), .ref a_this_result].toArray below meth c D A 7 Q 0 0 [(a_this, .inr (7, [.ref (ts zm), .ref (ts zs), .ref a_this_sum, .ref a_this_base, .ref a_this_result, .int v_inverse])), (a_this_sum, .inl (ct 0, 8, .inl t31_4.1)), (a_this_result, .inl (ct 0, 8, .inl f_result))] [(0, .ref a_this), (1, .ref (ts z1)), (2, .ref (ts z2)), (3, .ref a_this_result), (4, .long t31_4.2), (6, .int (dn r31_4))] [] 31 := by
          intro r31_4
          induction r31_4 with
          | zero =>
            intro t31_4 hk_t31_4 e0_t31_4 
            have e_t31_4 : t31_4 = itd (X7_multiply_l31 v_inverse (fun j => xs2.getD j 0) (fun j => xs1.getD j 0) xsm) 8 ((t3_1, y3)) := (e0_t31_4.trans (itd_0 _ _)).symm
            refine j_iload X 5 dX7_multiply_31 rfl (q := 33) rfl ?_
            refine j_if_lt (tgt := 60) X dX7_multiply_33 (by decide) (q := 36) rfl (fun c5 => ?_) (fun c5 => ?_)
            · skip
              refine j_lload X 4 dX7_multiply_60 rfl (q := 62) rfl ?_
              refine j_lconst (v := 0) X dX7_multiply_62 (by decide) (q := 63) rfl ?_
              refine j_lcmp X dX7_multiply_63 (q := 64) rfl ?_
              have KJ64_6 : ∀ g64_6 : (Nat → Int32), g64_6 = X7_multiply_m64 xsm t31_4 → J p l e { frames := 1, cells := 0, slots := 0, locals := 34 } s m [.ref a_this, .ref (ts z1), .ref (ts z2), .ref a_this_result].toArray below meth c D A 7 Q 0 0 [(a_this, .inr (7, [.ref (ts zm), .ref (ts zs), .ref a_this_sum, .ref a_this_base, .ref a_this_result, .int v_inverse])), (a_this_sum, .inl (ct 0, 8, .inl g64_6)), (a_this_result, .inl (ct 0, 8, .inl f_result))] [(0, .ref a_this), (1, .ref (ts z1)), (2, .ref (ts z2)), (3, .ref a_this_result), (4, .long t31_4.2), (6, .int (dn 0))] [] 89 := by
                intro g64_6 e_g64_6
                refine j_iconst (v := nI 0) X dX7_multiply_89 (by decide) (q := 90) rfl ?_
                refine j_istore (lv' := [(6, .int (nI 0)), (0, .ref a_this), (1, .ref (ts z1)), (2, .ref (ts z2)), (3, .ref a_this_result), (4, .long t31_4.2)]) X dX7_multiply_90 (by decide) rfl (q := 92) rfl ?_
                refine j_lv (lv' := [(0, .ref a_this), (1, .ref (ts z1)), (2, .ref (ts z2)), (3, .ref a_this_result), (4, .long t31_4.2), (6, .int (nI 0))]) [1, 2, 3, 4, 5, 0] rfl ?_
                have LP92_16 : ∀ (r92_16 k92_16 : Nat) (t92_16 : (Nat → Int32)), k92_16 + r92_16 = 8 → t92_16 = itr (X7_multiply_l92 g64_6) f_result k92_16 → J p l e { frames := 1, cells := 0, slots := 0, locals := 34 } s m [.ref a_this, .ref (ts z1), .ref (ts z2), .ref a_this_result].toArray below meth c D A 7 Q 0 0 [(a_this, .inr (7, [.ref (ts zm), .ref (ts zs), .ref a_this_sum, .ref a_this_base, .ref a_this_result, .int v_inverse])), (a_this_sum, .inl (ct 0, 8, .inl g64_6)), (a_this_result, .inl (ct 0, 8, .inl t92_16))] [(0, .ref a_this), (1, .ref (ts z1)), (2, .ref (ts z2)), (3, .ref a_this_result), (4, .long t31_4.2), (6, .int (nI k92_16))] [] 92 := by
                  intro r92_16
                  induction r92_16 with
                  | zero =>
                    intro k92_16 t92_16 hk_t92_16 e_t92_16 
                    have hkk_t92_16 : 8 = k92_16 := by omega
                    subst hkk_t92_16
                    refine j_iload X 5 dX7_multiply_92 rfl (q := 94) rfl ?_
                    refine j_bipush (v := nI 8) X dX7_multiply_94 (by decide) (q := 96) rfl ?_
                    refine j_icmp_ge (tgt := 116) X dX7_multiply_96 (by decide) (q := 99) rfl (fun c17 => ?_) (fun c17 => ?_)
                    · skip
                      have c17 : 8 ≤ 8 := (nI_leI (by omega) (by omega)).mp c17
                      rw [hQ]
                      exact j_vret X ((t92_16, g64_6)) dX7_multiply_116 (by subst e_t3_1; subst e_y3; subst e_t31_4; subst e_g64_6; subst e_t92_16; rfl) rfl
                    · skip
                      have c17 : ¬ 8 ≤ 8 := fun h => c17 ((nI_leI (by omega) (by omega)).mpr h)
                      exfalso; omega
                  | succ r92_16 ih92_16 =>
                    intro k92_16 t92_16 hk_t92_16 e_t92_16 
                    refine j_iload X 5 dX7_multiply_92 rfl (q := 94) rfl ?_
                    refine j_bipush (v := nI 8) X dX7_multiply_94 (by decide) (q := 96) rfl ?_
                    refine j_icmp_ge (tgt := 116) X dX7_multiply_96 (by decide) (q := 99) rfl (fun c18 => ?_) (fun c18 => ?_)
                    · skip
                      have c18 : 8 ≤ k92_16 := (nI_leI (by omega) (by omega)).mp c18
                      exfalso; omega
                    · skip
                      have c18 : ¬ 8 ≤ k92_16 := fun h => c18 ((nI_leI (by omega) (by omega)).mpr h)
                      refine j_aload_n X 3 dX7_multiply_99 rfl (q := 100) rfl ?_
                      refine j_iload X 5 dX7_multiply_100 rfl (q := 102) rfl ?_
                      refine j_aload_n X 0 dX7_multiply_102 rfl (q := 103) rfl ?_
                      refine j_get (f := 2) X 0 inT7 rfl rfl (by decide) mw_X7_multiply_ttr_0 rfl dX7_multiply_103 (q := 106) rfl ?_
                      refine j_iload X 5 dX7_multiply_106 rfl (q := 108) rfl ?_
                      refine k_iald X 1 rfl (vp_in_nI (by omega) (by omega)) (nI_clamp (by omega)) dX7_multiply_108 (q := 109) rfl ?_
                      refine j_topi (fun y19 e_y19 => ?_)
                      refine k_iast (ws2 := [(a_this, .inr (7, [.ref (ts zm), .ref (ts zs), .ref a_this_sum, .ref a_this_base, .ref a_this_result, .int v_inverse])), (a_this_sum, .inl (ct 0, 8, .inl g64_6)), (a_this_result, .inl (ct 0, 8, .inl (upd t92_16 k92_16 y19)))]) X 2 rfl (vp_in_nI (by omega) (by omega)) (nI_clamp (by omega)) dX7_multiply_109 rfl (q := 110) rfl ?_
                      refine j_iinc (v := nI (k92_16 + 1)) (lv' := [(6, .int (nI (k92_16 + 1))), (0, .ref a_this), (1, .ref (ts z1)), (2, .ref (ts z2)), (3, .ref a_this_result), (4, .long t31_4.2)]) X 5 dX7_multiply_110 rfl (nI_inc _ 1) (by decide) rfl (q := 113) rfl ?_
                      refine j_goto (tgt := 92) X dX7_multiply_113 (by decide) ?_
                      refine j_lv (lv' := [(0, .ref a_this), (1, .ref (ts z1)), (2, .ref (ts z2)), (3, .ref a_this_result), (4, .long t31_4.2), (6, .int (nI (k92_16 + 1)))]) [1, 2, 3, 4, 5, 0] rfl ?_
                      have hb : (X7_multiply_l92 g64_6) k92_16 t92_16 = upd t92_16 k92_16 y19 := (by subst e_y19; rfl)
                      exact ih92_16 (k92_16 + 1) (upd t92_16 k92_16 y19) (by omega) (by rw [itr_s, ← e_t92_16]; exact hb.symm) 
                exact LP92_16 8 0 f_result (by omega) (itr_0 _ _).symm 
              refine j_if_ne (tgt := 81) X dX7_multiply_64 (by decide) (q := 67) rfl (fun c7 => ?_) (fun c7 => ?_)
              · skip
                refine j_aload_n X 0 dX7_multiply_81 rfl (q := 82) rfl ?_
                refine j_aload_n X 0 dX7_multiply_82 rfl (q := 83) rfl ?_
                refine j_get (f := 2) X 0 inT7 rfl rfl (by decide) mw_X7_multiply_ttr_0 rfl dX7_multiply_83 (q := 86) rfl ?_
                refine j_callVv (As := [.ref a_this_sum]) (rest := []) (wn := (fun u8 => [(a_this, .inr (7, [.ref (ts zm), .ref (ts zs), .ref a_this_sum, .ref a_this_base, .ref a_this_result, .int v_inverse])), (a_this_sum, .inl (ct 0, 8, .inl u8)), (a_this_result, .inl (ct 0, 8, .inl f_result))])) (wr := [(a_this_result, .inl (ct 0, 8, .inl f_result))]) X (fun sz => c_X7_subtractModulus_s l D ct ts a_this_sum a_this a_this_base a_this_result v_inverse t31_4.1 zm _ _ xsm zs _ _ xss hzm hzs sz) cal_X7_subtractModulus 0 rfl rfl mw_X7_multiply_ttr_3 cwi_X7_subtractModulus cws_X7_subtractModulus rfl ⟨by decide, by decide⟩ rfl rfl (Nat.le_of_ble_eq_true rfl) ⟨by decide, by decide⟩ [1, 0] [2] [2, 1, 0] rfl (by decide) rfl (by decide) (by decide) (fun _ => rfl) (by decide) dX7_multiply_86 (q := 89) rfl (fun u8 hu8 => ?_)
                refine j_lv (lv' := [(0, .ref a_this), (1, .ref (ts z1)), (2, .ref (ts z2)), (3, .ref a_this_result), (4, .long t31_4.2), (6, .int (dn 0))]) [0, 1, 2, 3, 4, 5] rfl ?_
                exact KJ64_6 u8 (by subst hu8; first | rfl | (simp only [X7_multiply_m64, if_neg c7]; done) | (simp only [X7_multiply_m64, if_neg c7]; rfl))
              · skip
                refine j_aload_n X 0 dX7_multiply_67 rfl (q := 68) rfl ?_
                refine j_get (f := 2) X 0 inT7 rfl rfl (by decide) mw_X7_multiply_ttr_0 rfl dX7_multiply_68 (q := 71) rfl ?_
                refine j_aload_n X 0 dX7_multiply_71 rfl (q := 72) rfl ?_
                refine j_get (f := 0) X 0 inT7 rfl rfl (by decide) mw_X7_multiply_ttr_1 rfl dX7_multiply_72 (q := 75) rfl ?_
                refine j_callSi (As := [.ref a_this_sum, .ref (ts zm)]) (rest := []) (wn := (fun u10 => [(a_this, .inr (7, [.ref (ts zm), .ref (ts zs), .ref a_this_sum, .ref a_this_base, .ref a_this_result, .int v_inverse])), (a_this_sum, .inl (ct 0, 8, .inl t31_4.1)), (a_this_result, .inl (ct 0, 8, .inl f_result))])) (wr := [(a_this, .inr (7, [.ref (ts zm), .ref (ts zs), .ref a_this_sum, .ref a_this_base, .ref a_this_result, .int v_inverse])), (a_this_result, .inl (ct 0, 8, .inl f_result))]) X (fun sz => c_X7_isBelow_t l D ct ts a_this_sum t31_4.1 zm _ _ xsm hzm sz) cal_X7_isBelow mw_X7_multiply_ttr_4 cwt_X7_isBelow rfl ⟨by decide, by decide⟩ rfl rfl (Nat.le_of_ble_eq_true rfl) ⟨by decide, by decide⟩ [1] [0, 2] [0, 2, 1] rfl (by decide) rfl (by decide) (by decide) (fun _ => rfl) (by decide) dX7_multiply_75 (q := 78) rfl (fun r11 u10 hu10 => ?_)
                have hu10 : r11 = f_X7_isBelow t31_4.1 (fun j => xsm.getD j 0) := hu10
                subst hu10
                refine j_if_ne (tgt := 89) X dX7_multiply_78 (by decide) (q := 81) rfl (fun c13 => ?_) (fun c13 => ?_)
                · skip
                  refine j_lv (lv' := [(0, .ref a_this), (1, .ref (ts z1)), (2, .ref (ts z2)), (3, .ref a_this_result), (4, .long t31_4.2), (6, .int (dn 0))]) [0, 1, 2, 3, 4, 5] rfl ?_
                  exact KJ64_6 t31_4.1 (by first | rfl | (simp only [X7_multiply_m64, if_pos c7, if_neg c13]; done) | (simp only [X7_multiply_m64, if_pos c7, if_neg c13]; rfl))
                · skip
                  refine j_aload_n X 0 dX7_multiply_81 rfl (q := 82) rfl ?_
                  refine j_aload_n X 0 dX7_multiply_82 rfl (q := 83) rfl ?_
                  refine j_get (f := 2) X 0 inT7 rfl rfl (by decide) mw_X7_multiply_ttr_0 rfl dX7_multiply_83 (q := 86) rfl ?_
                  refine j_callVv (As := [.ref a_this_sum]) (rest := []) (wn := (fun u14 => [(a_this, .inr (7, [.ref (ts zm), .ref (ts zs), .ref a_this_sum, .ref a_this_base, .ref a_this_result, .int v_inverse])), (a_this_sum, .inl (ct 0, 8, .inl u14)), (a_this_result, .inl (ct 0, 8, .inl f_result))])) (wr := [(a_this_result, .inl (ct 0, 8, .inl f_result))]) X (fun sz => c_X7_subtractModulus_s l D ct ts a_this_sum a_this a_this_base a_this_result v_inverse t31_4.1 zm _ _ xsm zs _ _ xss hzm hzs sz) cal_X7_subtractModulus 0 rfl rfl mw_X7_multiply_ttr_3 cwi_X7_subtractModulus cws_X7_subtractModulus rfl ⟨by decide, by decide⟩ rfl rfl (Nat.le_of_ble_eq_true rfl) ⟨by decide, by decide⟩ [1, 0] [2] [2, 1, 0] rfl (by decide) rfl (by decide) (by decide) (fun _ => rfl) (by decide) dX7_multiply_86 (q := 89) rfl (fun u14 hu14 => ?_)
                  refine j_lv (lv' := [(0, .ref a_this), (1, .ref (ts z1)), (2, .ref (ts z2)), (3, .ref a_this_result), (4, .long t31_4.2), (6, .int (dn 0))]) [0, 1, 2, 3, 4, 5] rfl ?_
                  exact KJ64_6 u14 (by subst hu14; first | rfl | (simp only [X7_multiply_m64, if_pos c7, if_pos c13]; done) | (simp only [X7_multiply_m64, if_pos c7, if_pos c13]; rfl))
            · skip
              exact absurd (show dn 0 < 0 by decide) c5
          | succ r31_4 ih31_4 =>
            intro t31_4 hk_t31_4 e_t31_4 
            rw [dn_s]
            refine j_iload X 5 dX7_multiply_31 rfl (q := 33) rfl ?_
            refine j_if_lt (tgt := 60) X dX7_multiply_33 (by decide) (q := 36) rfl (fun c20 => ?_) (fun c20 => ?_)
            · skip
              have c20 : r31_4 < 0 := (nI_ltI (by omega) (by omega)).mp c20
              exfalso; omega
            · skip
              have c20 : ¬ r31_4 < 0 := fun h => c20 ((nI_ltI (by omega) (by omega)).mpr h)
              refine j_aload_n X 0 dX7_multiply_36 rfl (q := 37) rfl ?_
              refine j_aload_n X 1 dX7_multiply_37 rfl (q := 38) rfl ?_
              refine j_aload_n X 2 dX7_multiply_38 rfl (q := 39) rfl ?_
              refine j_iload X 5 dX7_multiply_39 rfl (q := 41) rfl ?_
              refine k_ti X z2 hz2 (vp_in_nI (by omega) (by omega)) (nI_clamp (by omega)) dX7_multiply_41 (q := 42) rfl ?_
              refine j_i2l X dX7_multiply_42 (q := 43) rfl ?_
              refine j_ldc2 X mw_X7_multiply_ttr_2 dX7_multiply_43 (q := 46) rfl ?_
              refine j_land X dX7_multiply_46 (q := 47) rfl ?_
              refine j_lload X 4 dX7_multiply_47 rfl (q := 49) rfl ?_
              refine j_callVl (As := [.ref (ts z1), .long (((xs2.getD r31_4 0).toInt64) &&& ((4294967295 : Int64))), .long t31_4.2]) (rest := []) (wn := (fun u21 => [(a_this, .inr (7, [.ref (ts zm), .ref (ts zs), .ref a_this_sum, .ref a_this_base, .ref a_this_result, .int v_inverse])), (a_this_sum, .inl (ct 0, 8, .inl u21)), (a_this_result, .inl (ct 0, 8, .inl f_result))])) (wr := [(a_this_result, .inl (ct 0, 8, .inl f_result))]) X (fun sz => c_X7_addProduct_t l D ct ts a_this a_this_sum a_this_base a_this_result v_inverse t31_4.1 (((xs2.getD r31_4 0).toInt64) &&& ((4294967295 : Int64))) t31_4.2 z1 _ _ xs1 zm _ _ xsm zs _ _ xss hz1 hzm hzs sz) cal_X7_addProduct 0 rfl rfl mw_X7_multiply_ttr_5 cwi_X7_addProduct cws_X7_addProduct rfl ⟨by decide, by decide⟩ rfl rfl (Nat.le_of_ble_eq_true rfl) ⟨by decide, by decide⟩ [0, 1] [2] [1, 2, 0] rfl (by decide) rfl (by decide) (by decide) (fun _ => rfl) (by decide) dX7_multiply_49 (q := 52) rfl (fun r22 u21 hu21 => ?_)
              obtain ⟨w23, e_w23, rfl, rfl⟩ : ∃ w, w = f_X7_addProduct v_inverse (fun j => xs1.getD j 0) t31_4.1 (((xs2.getD r31_4 0).toInt64) &&& ((4294967295 : Int64))) t31_4.2 xsm ∧ r22 = w.1 ∧ u21 = w.2 := ⟨_, rfl, congrArg Prod.fst hu21, congrArg Prod.snd hu21⟩
              refine j_lstore (lv' := [(4, .long w23.1), (0, .ref a_this), (1, .ref (ts z1)), (2, .ref (ts z2)), (3, .ref a_this_result), (6, .int (nI r31_4))]) X dX7_multiply_52 (by decide) rfl (q := 54) rfl ?_
              refine j_iinc (v := dn r31_4) (lv' := [(6, .int (dn r31_4)), (4, .long w23.1), (0, .ref a_this), (1, .ref (ts z1)), (2, .ref (ts z2)), (3, .ref a_this_result)]) X 5 dX7_multiply_54 rfl (dn_dec _) (by decide) rfl (q := 57) rfl ?_
              refine j_goto (tgt := 31) X dX7_multiply_57 (by decide) ?_
              refine j_lv (lv' := [(0, .ref a_this), (1, .ref (ts z1)), (2, .ref (ts z2)), (3, .ref a_this_result), (4, .long w23.1), (6, .int (dn r31_4))]) [2, 3, 4, 5, 1, 0] rfl ?_
              have hb : (X7_multiply_l31 v_inverse (fun j => xs2.getD j 0) (fun j => xs1.getD j 0) xsm) r31_4 t31_4 = (w23.2, w23.1) := (by subst e_w23; rfl)
              exact ih31_4 ((w23.2, w23.1)) (by omega) (by rw [e_t31_4, itd_s, hb]) 
        exact LP31_4 8 ((t3_1, y3)) (by omega) rfl 
      · skip
        have c2 : ¬ 8 ≤ 8 := fun h => c2 ((nI_leI (by omega) (by omega)).mpr h)
        exfalso; omega
    | succ r3_1 ih3_1 =>
      intro k3_1 t3_1 hk_t3_1 e_t3_1 
      refine j_iload X 4 dX7_multiply_3 rfl (q := 5) rfl ?_
      refine j_bipush (v := nI 8) X dX7_multiply_5 (by decide) (q := 7) rfl ?_
      refine j_icmp_ge (tgt := 24) X dX7_multiply_7 (by decide) (q := 10) rfl (fun c24 => ?_) (fun c24 => ?_)
      · skip
        have c24 : 8 ≤ k3_1 := (nI_leI (by omega) (by omega)).mp c24
        exfalso; omega
      · skip
        have c24 : ¬ 8 ≤ k3_1 := fun h => c24 ((nI_leI (by omega) (by omega)).mpr h)
        refine j_aload_n X 0 dX7_multiply_10 rfl (q := 11) rfl ?_
        refine j_get (f := 2) X 0 inT7 rfl rfl (by decide) mw_X7_multiply_ttr_0 rfl dX7_multiply_11 (q := 14) rfl ?_
        refine j_iload X 4 dX7_multiply_14 rfl (q := 16) rfl ?_
        refine j_iconst (v := nI 0) X dX7_multiply_16 (by decide) (q := 17) rfl ?_
        refine k_iast (ws2 := [(a_this, .inr (7, [.ref (ts zm), .ref (ts zs), .ref a_this_sum, .ref a_this_base, .ref a_this_result, .int v_inverse])), (a_this_sum, .inl (ct 0, 8, .inl (upd t3_1 k3_1 (nI 0)))), (a_this_result, .inl (ct 0, 8, .inl f_result))]) X 1 rfl (vp_in_nI (by omega) (by omega)) (nI_clamp (by omega)) dX7_multiply_17 rfl (q := 18) rfl ?_
        refine j_iinc (v := nI (k3_1 + 1)) (lv' := [(4, .int (nI (k3_1 + 1))), (0, .ref a_this), (1, .ref (ts z1)), (2, .ref (ts z2)), (3, .ref a_this_result)]) X 4 dX7_multiply_18 rfl (nI_inc _ 1) (by decide) rfl (q := 21) rfl ?_
        refine j_goto (tgt := 3) X dX7_multiply_21 (by decide) ?_
        refine j_lv (lv' := [(0, .ref a_this), (1, .ref (ts z1)), (2, .ref (ts z2)), (3, .ref a_this_result), (4, .int (nI (k3_1 + 1)))]) [1, 2, 3, 4, 0] rfl ?_
        have hb : X7_multiply_l3 k3_1 t3_1 = upd t3_1 k3_1 (nI 0) := rfl
        exact ih3_1 (k3_1 + 1) (upd t3_1 k3_1 (nI 0)) (by omega) (by rw [itr_s, ← e_t3_1]; exact hb.symm) 
  exact LP3_1 8 0 f_sum (by omega) (itr_0 _ _).symm 
theorem mw_X7_multiply_rrr_0 : Cond.fieldLink "GuardedTree$Modulus" 9 "GuardedTree$Modulus" "sum" "[I" ∈ tb := tb_at 186 (by decide +kernel) (by decide +kernel)
theorem mw_X7_multiply_rrr_1 : Cond.fieldLink "GuardedTree$Modulus" 19 "GuardedTree$Modulus" "modulus" "[I" ∈ tb := tb_at 184 (by decide +kernel) (by decide +kernel)
theorem mw_X7_multiply_rrr_2 : Cond.constantLong "GuardedTree$Modulus" 29 4294967295 ∈ tb := tb_at 556 (by decide +kernel) (by decide +kernel)
theorem mw_X7_multiply_rrr_3 : Cond.methodLink "GuardedTree$Modulus" 35 yX7_subtractModulus ∈ tb := tb_at 564 (by decide +kernel) (by decide +kernel)
theorem mw_X7_multiply_rrr_4 : Cond.methodLink "GuardedTree$Modulus" 31 yX7_isBelow ∈ tb := tb_at 561 (by decide +kernel) (by decide +kernel)
theorem mw_X7_multiply_rrr_5 : Cond.methodLink "GuardedTree$Modulus" 46 yX7_addProduct ∈ tb := tb_at 557 (by decide +kernel) (by decide +kernel)
set_option maxHeartbeats 4000000 in
set_option maxRecDepth 100000 in
theorem c_X7_multiply_rrr (l : Launch) (D : va_G) (ct : Nat → ClassId) (ts : Nat → Nat) (a_this a_this_sum a_this_result a_this_base : Nat) (v_inverse : Int32) (f_sum : Nat → Int32) (f_result : Nat → Int32) (zm : Nat) (tCm : String) (tnm : String) (xsm : List Int32) (zs : Nat) (tCs : String) (tns : String) (xss : List Int32)   (hzm : SXL[zm]? = some (tCm, tnm, 8, xsm)) (hzs : SXL[zs]? = some (tCs, tns, 8, xss)) (sz : Nat) : Met l yX7_multiply (Cond.code yX7_multiply cX7_multiply 7 none :: tb) { frames := 1, cells := 0, slots := 0, locals := 34 } (PcG D ct SXL ts [.ref a_this, .ref a_this_result, .ref a_this_result, .ref a_this_result] [(a_this, .inr (7, [.ref (ts zm), .ref (ts zs), .ref a_this_sum, .ref a_this_base, .ref a_this_result, .int v_inverse])), (a_this_sum, .inl (ct 0, 8, .inl f_sum)), (a_this_result, .inl (ct 0, 8, .inl f_result))] sz) (va_Qv (fun u : (Nat → Int32) × (Nat → Int32) => u = f_X7_multiply v_inverse f_sum f_result f_result f_result xsm) (fun u => BG D ct (va_A [(a_this, .inr (7, [.ref (ts zm), .ref (ts zs), .ref a_this_sum, .ref a_this_base, .ref a_this_result, .int v_inverse])), (a_this_sum, .inl (ct 0, 8, .inl f_sum)), (a_this_result, .inl (ct 0, 8, .inl f_result))] sz) [(a_this, .inr (7, [.ref (ts zm), .ref (ts zs), .ref a_this_sum, .ref a_this_base, .ref a_this_result, .int v_inverse])), (a_this_sum, .inl (ct 0, 8, .inl u.2)), (a_this_result, .inl (ct 0, 8, .inl u.1))]) (va_A [(a_this, .inr (7, [.ref (ts zm), .ref (ts zs), .ref a_this_sum, .ref a_this_base, .ref a_this_result, .int v_inverse])), (a_this_sum, .inl (ct 0, 8, .inl f_sum)), (a_this_result, .inl (ct 0, 8, .inl f_result))] sz)) 0 0 (va_A [(a_this, .inr (7, [.ref (ts zm), .ref (ts zs), .ref a_this_sum, .ref a_this_base, .ref a_this_result, .int v_inverse])), (a_this_sum, .inl (ct 0, 8, .inl f_sum)), (a_this_result, .inl (ct 0, 8, .inl f_result))] sz) := by
  refine metJ (QcF := fun A => va_Qv (fun u : (Nat → Int32) × (Nat → Int32) => u = f_X7_multiply v_inverse f_sum f_result f_result f_result xsm) (fun u => BG D ct A [(a_this, .inr (7, [.ref (ts zm), .ref (ts zs), .ref a_this_sum, .ref a_this_base, .ref a_this_result, .int v_inverse])), (a_this_sum, .inl (ct 0, 8, .inl u.2)), (a_this_result, .inl (ct 0, 8, .inl u.1))]) A) (by decide) (Nat.le_of_ble_eq_true rfl) ?_
  intro p e s m below meth c A X hnm
  obtain ⟨Q, hQ⟩ : ∃ Q, Q = MQ below (va_Qv (fun u : (Nat → Int32) × (Nat → Int32) => u = f_X7_multiply v_inverse f_sum f_result f_result f_result xsm) (fun u => BG D ct A [(a_this, .inr (7, [.ref (ts zm), .ref (ts zs), .ref a_this_sum, .ref a_this_base, .ref a_this_result, .int v_inverse])), (a_this_sum, .inl (ct 0, 8, .inl u.2)), (a_this_result, .inl (ct 0, 8, .inl u.1))]) A) [.ref a_this, .ref a_this_result, .ref a_this_result, .ref a_this_result].toArray s 0 0 A := ⟨_, rfl⟩
  rw [← hQ]
  refine j_lve (lv' := [(0, .ref a_this), (1, .ref a_this_result), (2, .ref a_this_result), (3, .ref a_this_result)]) rfl ?_
  refine j_iconst (v := nI 0) X dX7_multiply_0 (by decide) (q := 1) rfl ?_
  refine j_istore (lv' := [(4, .int (nI 0)), (0, .ref a_this), (1, .ref a_this_result), (2, .ref a_this_result), (3, .ref a_this_result)]) X dX7_multiply_1 (by decide) rfl (q := 3) rfl ?_
  refine j_lv (lv' := [(0, .ref a_this), (1, .ref a_this_result), (2, .ref a_this_result), (3, .ref a_this_result), (4, .int (nI 0))]) [1, 2, 3, 4, 0] rfl ?_
  have LP3_1 : ∀ (r3_1 k3_1 : Nat) (t3_1 : (Nat → Int32)), k3_1 + r3_1 = 8 → t3_1 = itr X7_multiply_l3 f_sum k3_1 → J p l e { frames := 1, cells := 0, slots := 0, locals := 34 } s m [.ref a_this, .ref a_this_result, .ref a_this_result, .ref a_this_result].toArray below meth c D A 7 Q 0 0 [(a_this, .inr (7, [.ref (ts zm), .ref (ts zs), .ref a_this_sum, .ref a_this_base, .ref a_this_result, .int v_inverse])), (a_this_sum, .inl (ct 0, 8, .inl t3_1)), (a_this_result, .inl (ct 0, 8, .inl f_result))] [(0, .ref a_this), (1, .ref a_this_result), (2, .ref a_this_result), (3, .ref a_this_result), (4, .int (nI k3_1))] [] 3 := by
    intro r3_1
    induction r3_1 with
    | zero =>
      intro k3_1 t3_1 hk_t3_1 e_t3_1 
      have hkk_t3_1 : 8 = k3_1 := by omega
      subst hkk_t3_1
      refine j_iload X 4 dX7_multiply_3 rfl (q := 5) rfl ?_
      refine j_bipush (v := nI 8) X dX7_multiply_5 (by decide) (q := 7) rfl ?_
      refine j_icmp_ge (tgt := 24) X dX7_multiply_7 (by decide) (q := 10) rfl (fun c2 => ?_) (fun c2 => ?_)
      · skip
        have c2 : 8 ≤ 8 := (nI_leI (by omega) (by omega)).mp c2
        refine j_lconst (v := 0) X dX7_multiply_24 (by decide) (q := 25) rfl ?_
        refine j_topl (fun y3 e_y3 => ?_)
        refine j_lstore (lv' := [(4, .long y3), (0, .ref a_this), (1, .ref a_this_result), (2, .ref a_this_result), (3, .ref a_this_result)]) X dX7_multiply_25 (by decide) rfl (q := 27) rfl ?_
        refine j_bipush (v := nI 7) X dX7_multiply_27 (by decide) (q := 29) rfl ?_
        refine j_istore (lv' := [(6, .int (nI 7)), (4, .long y3), (0, .ref a_this), (1, .ref a_this_result), (2, .ref a_this_result), (3, .ref a_this_result)]) X dX7_multiply_29 (by decide) rfl (q := 31) rfl ?_
        refine j_lv (lv' := [(0, .ref a_this), (1, .ref a_this_result), (2, .ref a_this_result), (3, .ref a_this_result), (4, .long y3), (6, .int (nI 7))]) [2, 3, 4, 5, 1, 0] rfl ?_
        have LP31_4 : ∀ (r31_4 : Nat) (t31_4 : (Nat → Int32) × (Int64)), r31_4 ≤ 8 → itd (X7_multiply_l31 v_inverse f_result f_result xsm) 8 ((t3_1, y3)) = itd (X7_multiply_l31 v_inverse f_result f_result xsm) r31_4 t31_4 → J p l e { frames := 1, cells := 0, slots := 0, locals := 34 } s m [.ref a_this, .ref a_this_result, .ref a_this_result, .ref a_this_result].toArray below meth c D A 7 Q 0 0 [(a_this, .inr (7, [.ref (ts zm), .ref (ts zs), .ref a_this_sum, .ref a_this_base, .ref a_this_result, .int v_inverse])), (a_this_sum, .inl (ct 0, 8, .inl t31_4.1)), (a_this_result, .inl (ct 0, 8, .inl f_result))] [(0, .ref a_this), (1, .ref a_this_result), (2, .ref a_this_result), (3, .ref a_this_result), (4, .long t31_4.2), (6, .int (dn r31_4))] [] 31 := by
          intro r31_4
          induction r31_4 with
          | zero =>
            intro t31_4 hk_t31_4 e0_t31_4 
            have e_t31_4 : t31_4 = itd (X7_multiply_l31 v_inverse f_result f_result xsm) 8 ((t3_1, y3)) := (e0_t31_4.trans (itd_0 _ _)).symm
            refine j_iload X 5 dX7_multiply_31 rfl (q := 33) rfl ?_
            refine j_if_lt (tgt := 60) X dX7_multiply_33 (by decide) (q := 36) rfl (fun c5 => ?_) (fun c5 => ?_)
            · skip
              refine j_lload X 4 dX7_multiply_60 rfl (q := 62) rfl ?_
              refine j_lconst (v := 0) X dX7_multiply_62 (by decide) (q := 63) rfl ?_
              refine j_lcmp X dX7_multiply_63 (q := 64) rfl ?_
              have KJ64_6 : ∀ g64_6 : (Nat → Int32), g64_6 = X7_multiply_m64 xsm t31_4 → J p l e { frames := 1, cells := 0, slots := 0, locals := 34 } s m [.ref a_this, .ref a_this_result, .ref a_this_result, .ref a_this_result].toArray below meth c D A 7 Q 0 0 [(a_this, .inr (7, [.ref (ts zm), .ref (ts zs), .ref a_this_sum, .ref a_this_base, .ref a_this_result, .int v_inverse])), (a_this_sum, .inl (ct 0, 8, .inl g64_6)), (a_this_result, .inl (ct 0, 8, .inl f_result))] [(0, .ref a_this), (1, .ref a_this_result), (2, .ref a_this_result), (3, .ref a_this_result), (4, .long t31_4.2), (6, .int (dn 0))] [] 89 := by
                intro g64_6 e_g64_6
                refine j_iconst (v := nI 0) X dX7_multiply_89 (by decide) (q := 90) rfl ?_
                refine j_istore (lv' := [(6, .int (nI 0)), (0, .ref a_this), (1, .ref a_this_result), (2, .ref a_this_result), (3, .ref a_this_result), (4, .long t31_4.2)]) X dX7_multiply_90 (by decide) rfl (q := 92) rfl ?_
                refine j_lv (lv' := [(0, .ref a_this), (1, .ref a_this_result), (2, .ref a_this_result), (3, .ref a_this_result), (4, .long t31_4.2), (6, .int (nI 0))]) [1, 2, 3, 4, 5, 0] rfl ?_
                have LP92_16 : ∀ (r92_16 k92_16 : Nat) (t92_16 : (Nat → Int32)), k92_16 + r92_16 = 8 → t92_16 = itr (X7_multiply_l92 g64_6) f_result k92_16 → J p l e { frames := 1, cells := 0, slots := 0, locals := 34 } s m [.ref a_this, .ref a_this_result, .ref a_this_result, .ref a_this_result].toArray below meth c D A 7 Q 0 0 [(a_this, .inr (7, [.ref (ts zm), .ref (ts zs), .ref a_this_sum, .ref a_this_base, .ref a_this_result, .int v_inverse])), (a_this_sum, .inl (ct 0, 8, .inl g64_6)), (a_this_result, .inl (ct 0, 8, .inl t92_16))] [(0, .ref a_this), (1, .ref a_this_result), (2, .ref a_this_result), (3, .ref a_this_result), (4, .long t31_4.2), (6, .int (nI k92_16))] [] 92 := by
                  intro r92_16
                  induction r92_16 with
                  | zero =>
                    intro k92_16 t92_16 hk_t92_16 e_t92_16 
                    have hkk_t92_16 : 8 = k92_16 := by omega
                    subst hkk_t92_16
                    refine j_iload X 5 dX7_multiply_92 rfl (q := 94) rfl ?_
                    refine j_bipush (v := nI 8) X dX7_multiply_94 (by decide) (q := 96) rfl ?_
                    refine j_icmp_ge (tgt := 116) X dX7_multiply_96 (by decide) (q := 99) rfl (fun c17 => ?_) (fun c17 => ?_)
                    · skip
                      have c17 : 8 ≤ 8 := (nI_leI (by omega) (by omega)).mp c17
                      rw [hQ]
                      exact j_vret X ((t92_16, g64_6)) dX7_multiply_116 (by subst e_t3_1; subst e_y3; subst e_t31_4; subst e_g64_6; subst e_t92_16; rfl) rfl
                    · skip
                      have c17 : ¬ 8 ≤ 8 := fun h => c17 ((nI_leI (by omega) (by omega)).mpr h)
                      exfalso; omega
                  | succ r92_16 ih92_16 =>
                    intro k92_16 t92_16 hk_t92_16 e_t92_16 
                    refine j_iload X 5 dX7_multiply_92 rfl (q := 94) rfl ?_
                    refine j_bipush (v := nI 8) X dX7_multiply_94 (by decide) (q := 96) rfl ?_
                    refine j_icmp_ge (tgt := 116) X dX7_multiply_96 (by decide) (q := 99) rfl (fun c18 => ?_) (fun c18 => ?_)
                    · skip
                      have c18 : 8 ≤ k92_16 := (nI_leI (by omega) (by omega)).mp c18
                      exfalso; omega
                    · skip
                      have c18 : ¬ 8 ≤ k92_16 := fun h => c18 ((nI_leI (by omega) (by omega)).mpr h)
                      refine j_aload_n X 3 dX7_multiply_99 rfl (q := 100) rfl ?_
                      refine j_iload X 5 dX7_multiply_100 rfl (q := 102) rfl ?_
                      refine j_aload_n X 0 dX7_multiply_102 rfl (q := 103) rfl ?_
                      refine j_get (f := 2) X 0 inT7 rfl rfl (by decide) mw_X7_multiply_rrr_0 rfl dX7_multiply_103 (q := 106) rfl ?_
                      refine j_iload X 5 dX7_multiply_106 rfl (q := 108) rfl ?_
                      refine k_iald X 1 rfl (vp_in_nI (by omega) (by omega)) (nI_clamp (by omega)) dX7_multiply_108 (q := 109) rfl ?_
                      refine j_topi (fun y19 e_y19 => ?_)
                      refine k_iast (ws2 := [(a_this, .inr (7, [.ref (ts zm), .ref (ts zs), .ref a_this_sum, .ref a_this_base, .ref a_this_result, .int v_inverse])), (a_this_sum, .inl (ct 0, 8, .inl g64_6)), (a_this_result, .inl (ct 0, 8, .inl (upd t92_16 k92_16 y19)))]) X 2 rfl (vp_in_nI (by omega) (by omega)) (nI_clamp (by omega)) dX7_multiply_109 rfl (q := 110) rfl ?_
                      refine j_iinc (v := nI (k92_16 + 1)) (lv' := [(6, .int (nI (k92_16 + 1))), (0, .ref a_this), (1, .ref a_this_result), (2, .ref a_this_result), (3, .ref a_this_result), (4, .long t31_4.2)]) X 5 dX7_multiply_110 rfl (nI_inc _ 1) (by decide) rfl (q := 113) rfl ?_
                      refine j_goto (tgt := 92) X dX7_multiply_113 (by decide) ?_
                      refine j_lv (lv' := [(0, .ref a_this), (1, .ref a_this_result), (2, .ref a_this_result), (3, .ref a_this_result), (4, .long t31_4.2), (6, .int (nI (k92_16 + 1)))]) [1, 2, 3, 4, 5, 0] rfl ?_
                      have hb : (X7_multiply_l92 g64_6) k92_16 t92_16 = upd t92_16 k92_16 y19 := (by subst e_y19; rfl)
                      exact ih92_16 (k92_16 + 1) (upd t92_16 k92_16 y19) (by omega) (by rw [itr_s, ← e_t92_16]; exact hb.symm) 
                exact LP92_16 8 0 f_result (by omega) (itr_0 _ _).symm 
              refine j_if_ne (tgt := 81) X dX7_multiply_64 (by decide) (q := 67) rfl (fun c7 => ?_) (fun c7 => ?_)
              · skip
                refine j_aload_n X 0 dX7_multiply_81 rfl (q := 82) rfl ?_
                refine j_aload_n X 0 dX7_multiply_82 rfl (q := 83) rfl ?_
                refine j_get (f := 2) X 0 inT7 rfl rfl (by decide) mw_X7_multiply_rrr_0 rfl dX7_multiply_83 (q := 86) rfl ?_
                refine j_callVv (As := [.ref a_this_sum]) (rest := []) (wn := (fun u8 => [(a_this, .inr (7, [.ref (ts zm), .ref (ts zs), .ref a_this_sum, .ref a_this_base, .ref a_this_result, .int v_inverse])), (a_this_sum, .inl (ct 0, 8, .inl u8)), (a_this_result, .inl (ct 0, 8, .inl f_result))])) (wr := [(a_this_result, .inl (ct 0, 8, .inl f_result))]) X (fun sz => c_X7_subtractModulus_s l D ct ts a_this_sum a_this a_this_base a_this_result v_inverse t31_4.1 zm _ _ xsm zs _ _ xss hzm hzs sz) cal_X7_subtractModulus 0 rfl rfl mw_X7_multiply_rrr_3 cwi_X7_subtractModulus cws_X7_subtractModulus rfl ⟨by decide, by decide⟩ rfl rfl (Nat.le_of_ble_eq_true rfl) ⟨by decide, by decide⟩ [1, 0] [2] [2, 1, 0] rfl (by decide) rfl (by decide) (by decide) (fun _ => rfl) (by decide) dX7_multiply_86 (q := 89) rfl (fun u8 hu8 => ?_)
                refine j_lv (lv' := [(0, .ref a_this), (1, .ref a_this_result), (2, .ref a_this_result), (3, .ref a_this_result), (4, .long t31_4.2), (6, .int (dn 0))]) [0, 1, 2, 3, 4, 5] rfl ?_
                exact KJ64_6 u8 (by subst hu8; first | rfl | (simp only [X7_multiply_m64, if_neg c7]; done) | (simp only [X7_multiply_m64, if_neg c7]; rfl))
              · skip
                refine j_aload_n X 0 dX7_multiply_67 rfl (q := 68) rfl ?_
                refine j_get (f := 2) X 0 inT7 rfl rfl (by decide) mw_X7_multiply_rrr_0 rfl dX7_multiply_68 (q := 71) rfl ?_
                refine j_aload_n X 0 dX7_multiply_71 rfl (q := 72) rfl ?_
                refine j_get (f := 0) X 0 inT7 rfl rfl (by decide) mw_X7_multiply_rrr_1 rfl dX7_multiply_72 (q := 75) rfl ?_
                refine j_callSi (As := [.ref a_this_sum, .ref (ts zm)]) (rest := []) (wn := (fun u10 => [(a_this, .inr (7, [.ref (ts zm), .ref (ts zs), .ref a_this_sum, .ref a_this_base, .ref a_this_result, .int v_inverse])), (a_this_sum, .inl (ct 0, 8, .inl t31_4.1)), (a_this_result, .inl (ct 0, 8, .inl f_result))])) (wr := [(a_this, .inr (7, [.ref (ts zm), .ref (ts zs), .ref a_this_sum, .ref a_this_base, .ref a_this_result, .int v_inverse])), (a_this_result, .inl (ct 0, 8, .inl f_result))]) X (fun sz => c_X7_isBelow_t l D ct ts a_this_sum t31_4.1 zm _ _ xsm hzm sz) cal_X7_isBelow mw_X7_multiply_rrr_4 cwt_X7_isBelow rfl ⟨by decide, by decide⟩ rfl rfl (Nat.le_of_ble_eq_true rfl) ⟨by decide, by decide⟩ [1] [0, 2] [0, 2, 1] rfl (by decide) rfl (by decide) (by decide) (fun _ => rfl) (by decide) dX7_multiply_75 (q := 78) rfl (fun r11 u10 hu10 => ?_)
                have hu10 : r11 = f_X7_isBelow t31_4.1 (fun j => xsm.getD j 0) := hu10
                subst hu10
                refine j_if_ne (tgt := 89) X dX7_multiply_78 (by decide) (q := 81) rfl (fun c13 => ?_) (fun c13 => ?_)
                · skip
                  refine j_lv (lv' := [(0, .ref a_this), (1, .ref a_this_result), (2, .ref a_this_result), (3, .ref a_this_result), (4, .long t31_4.2), (6, .int (dn 0))]) [0, 1, 2, 3, 4, 5] rfl ?_
                  exact KJ64_6 t31_4.1 (by first | rfl | (simp only [X7_multiply_m64, if_pos c7, if_neg c13]; done) | (simp only [X7_multiply_m64, if_pos c7, if_neg c13]; rfl))
                · skip
                  refine j_aload_n X 0 dX7_multiply_81 rfl (q := 82) rfl ?_
                  refine j_aload_n X 0 dX7_multiply_82 rfl (q := 83) rfl ?_
                  refine j_get (f := 2) X 0 inT7 rfl rfl (by decide) mw_X7_multiply_rrr_0 rfl dX7_multiply_83 (q := 86) rfl ?_
                  refine j_callVv (As := [.ref a_this_sum]) (rest := []) (wn := (fun u14 => [(a_this, .inr (7, [.ref (ts zm), .ref (ts zs), .ref a_this_sum, .ref a_this_base, .ref a_this_result, .int v_inverse])), (a_this_sum, .inl (ct 0, 8, .inl u14)), (a_this_result, .inl (ct 0, 8, .inl f_result))])) (wr := [(a_this_result, .inl (ct 0, 8, .inl f_result))]) X (fun sz => c_X7_subtractModulus_s l D ct ts a_this_sum a_this a_this_base a_this_result v_inverse t31_4.1 zm _ _ xsm zs _ _ xss hzm hzs sz) cal_X7_subtractModulus 0 rfl rfl mw_X7_multiply_rrr_3 cwi_X7_subtractModulus cws_X7_subtractModulus rfl ⟨by decide, by decide⟩ rfl rfl (Nat.le_of_ble_eq_true rfl) ⟨by decide, by decide⟩ [1, 0] [2] [2, 1, 0] rfl (by decide) rfl (by decide) (by decide) (fun _ => rfl) (by decide) dX7_multiply_86 (q := 89) rfl (fun u14 hu14 => ?_)
                  refine j_lv (lv' := [(0, .ref a_this), (1, .ref a_this_result), (2, .ref a_this_result), (3, .ref a_this_result), (4, .long t31_4.2), (6, .int (dn 0))]) [0, 1, 2, 3, 4, 5] rfl ?_
                  exact KJ64_6 u14 (by subst hu14; first | rfl | (simp only [X7_multiply_m64, if_pos c7, if_pos c13]; done) | (simp only [X7_multiply_m64, if_pos c7, if_pos c13]; rfl))
            · skip
              exact absurd (show dn 0 < 0 by decide) c5
          | succ r31_4 ih31_4 =>
            intro t31_4 hk_t31_4 e_t31_4 
            rw [dn_s]
            refine j_iload X 5 dX7_multiply_31 rfl (q := 33) rfl ?_
            refine j_if_lt (tgt := 60) X dX7_multiply_33 (by decide) (q := 36) rfl (fun c20 => ?_) (fun c20 => ?_)
            · skip
              have c20 : r31_4 < 0 := (nI_ltI (by omega) (by omega)).mp c20
              exfalso; omega
            · skip
              have c20 : ¬ r31_4 < 0 := fun h => c20 ((nI_ltI (by omega) (by omega)).mpr h)
              refine j_aload_n X 0 dX7_multiply_36 rfl (q := 37) rfl ?_
              refine j_aload_n X 1 dX7_multiply_37 rfl (q := 38) rfl ?_
              refine j_aload_n X 2 dX7_multiply_38 rfl (q := 39) rfl ?_
              refine j_iload X 5 dX7_multiply_39 rfl (q := 41) rfl ?_
              refine k_iald X 2 rfl (vp_in_nI (by omega) (by omega)) (nI_clamp (by omega)) dX7_multiply_41 (q := 42) rfl ?_
              refine j_i2l X dX7_multiply_42 (q := 43) rfl ?_
              refine j_ldc2 X mw_X7_multiply_rrr_2 dX7_multiply_43 (q := 46) rfl ?_
              refine j_land X dX7_multiply_46 (q := 47) rfl ?_
              refine j_lload X 4 dX7_multiply_47 rfl (q := 49) rfl ?_
              refine j_callVl (As := [.ref a_this_result, .long (((f_result r31_4).toInt64) &&& ((4294967295 : Int64))), .long t31_4.2]) (rest := []) (wn := (fun u21 => [(a_this, .inr (7, [.ref (ts zm), .ref (ts zs), .ref a_this_sum, .ref a_this_base, .ref a_this_result, .int v_inverse])), (a_this_sum, .inl (ct 0, 8, .inl u21)), (a_this_result, .inl (ct 0, 8, .inl f_result))])) (wr := []) X (fun sz => c_X7_addProduct_r l D ct ts a_this_result a_this a_this_sum a_this_base v_inverse f_result t31_4.1 (((f_result r31_4).toInt64) &&& ((4294967295 : Int64))) t31_4.2 zm _ _ xsm zs _ _ xss hzm hzs sz) cal_X7_addProduct 0 rfl rfl mw_X7_multiply_rrr_5 cwi_X7_addProduct cws_X7_addProduct rfl ⟨by decide, by decide⟩ rfl rfl (Nat.le_of_ble_eq_true rfl) ⟨by decide, by decide⟩ [2, 0, 1] [] [1, 2, 0] rfl (by decide) rfl (by decide) (by decide) (fun _ => rfl) (by decide) dX7_multiply_49 (q := 52) rfl (fun r22 u21 hu21 => ?_)
              obtain ⟨w23, e_w23, rfl, rfl⟩ : ∃ w, w = f_X7_addProduct v_inverse f_result t31_4.1 (((f_result r31_4).toInt64) &&& ((4294967295 : Int64))) t31_4.2 xsm ∧ r22 = w.1 ∧ u21 = w.2 := ⟨_, rfl, congrArg Prod.fst hu21, congrArg Prod.snd hu21⟩
              refine j_lstore (lv' := [(4, .long w23.1), (0, .ref a_this), (1, .ref a_this_result), (2, .ref a_this_result), (3, .ref a_this_result), (6, .int (nI r31_4))]) X dX7_multiply_52 (by decide) rfl (q := 54) rfl ?_
              refine j_iinc (v := dn r31_4) (lv' := [(6, .int (dn r31_4)), (4, .long w23.1), (0, .ref a_this), (1, .ref a_this_result), (2, .ref a_this_result), (3, .ref a_this_result)]) X 5 dX7_multiply_54 rfl (dn_dec _) (by decide) rfl (q := 57) rfl ?_
              refine j_goto (tgt := 31) X dX7_multiply_57 (by decide) ?_
              refine j_lv (lv' := [(0, .ref a_this), (1, .ref a_this_result), (2, .ref a_this_result), (3, .ref a_this_result), (4, .long w23.1), (6, .int (dn r31_4))]) [2, 3, 4, 5, 1, 0] rfl ?_
              have hb : (X7_multiply_l31 v_inverse f_result f_result xsm) r31_4 t31_4 = (w23.2, w23.1) := (by subst e_w23; rfl)
              exact ih31_4 ((w23.2, w23.1)) (by omega) (by rw [e_t31_4, itd_s, hb]) 
        exact LP31_4 8 ((t3_1, y3)) (by omega) rfl 
      · skip
        have c2 : ¬ 8 ≤ 8 := fun h => c2 ((nI_leI (by omega) (by omega)).mpr h)
        exfalso; omega
    | succ r3_1 ih3_1 =>
      intro k3_1 t3_1 hk_t3_1 e_t3_1 
      refine j_iload X 4 dX7_multiply_3 rfl (q := 5) rfl ?_
      refine j_bipush (v := nI 8) X dX7_multiply_5 (by decide) (q := 7) rfl ?_
      refine j_icmp_ge (tgt := 24) X dX7_multiply_7 (by decide) (q := 10) rfl (fun c24 => ?_) (fun c24 => ?_)
      · skip
        have c24 : 8 ≤ k3_1 := (nI_leI (by omega) (by omega)).mp c24
        exfalso; omega
      · skip
        have c24 : ¬ 8 ≤ k3_1 := fun h => c24 ((nI_leI (by omega) (by omega)).mpr h)
        refine j_aload_n X 0 dX7_multiply_10 rfl (q := 11) rfl ?_
        refine j_get (f := 2) X 0 inT7 rfl rfl (by decide) mw_X7_multiply_rrr_0 rfl dX7_multiply_11 (q := 14) rfl ?_
        refine j_iload X 4 dX7_multiply_14 rfl (q := 16) rfl ?_
        refine j_iconst (v := nI 0) X dX7_multiply_16 (by decide) (q := 17) rfl ?_
        refine k_iast (ws2 := [(a_this, .inr (7, [.ref (ts zm), .ref (ts zs), .ref a_this_sum, .ref a_this_base, .ref a_this_result, .int v_inverse])), (a_this_sum, .inl (ct 0, 8, .inl (upd t3_1 k3_1 (nI 0)))), (a_this_result, .inl (ct 0, 8, .inl f_result))]) X 1 rfl (vp_in_nI (by omega) (by omega)) (nI_clamp (by omega)) dX7_multiply_17 rfl (q := 18) rfl ?_
        refine j_iinc (v := nI (k3_1 + 1)) (lv' := [(4, .int (nI (k3_1 + 1))), (0, .ref a_this), (1, .ref a_this_result), (2, .ref a_this_result), (3, .ref a_this_result)]) X 4 dX7_multiply_18 rfl (nI_inc _ 1) (by decide) rfl (q := 21) rfl ?_
        refine j_goto (tgt := 3) X dX7_multiply_21 (by decide) ?_
        refine j_lv (lv' := [(0, .ref a_this), (1, .ref a_this_result), (2, .ref a_this_result), (3, .ref a_this_result), (4, .int (nI (k3_1 + 1)))]) [1, 2, 3, 4, 0] rfl ?_
        have hb : X7_multiply_l3 k3_1 t3_1 = upd t3_1 k3_1 (nI 0) := rfl
        exact ih3_1 (k3_1 + 1) (upd t3_1 k3_1 (nI 0)) (by omega) (by rw [itr_s, ← e_t3_1]; exact hb.symm) 
  exact LP3_1 8 0 f_sum (by omega) (itr_0 _ _).symm 
theorem mw_X7_multiply_rbr_0 : Cond.fieldLink "GuardedTree$Modulus" 9 "GuardedTree$Modulus" "sum" "[I" ∈ tb := tb_at 186 (by decide +kernel) (by decide +kernel)
theorem mw_X7_multiply_rbr_1 : Cond.fieldLink "GuardedTree$Modulus" 19 "GuardedTree$Modulus" "modulus" "[I" ∈ tb := tb_at 184 (by decide +kernel) (by decide +kernel)
theorem mw_X7_multiply_rbr_2 : Cond.constantLong "GuardedTree$Modulus" 29 4294967295 ∈ tb := tb_at 556 (by decide +kernel) (by decide +kernel)
theorem mw_X7_multiply_rbr_3 : Cond.methodLink "GuardedTree$Modulus" 35 yX7_subtractModulus ∈ tb := tb_at 564 (by decide +kernel) (by decide +kernel)
theorem mw_X7_multiply_rbr_4 : Cond.methodLink "GuardedTree$Modulus" 31 yX7_isBelow ∈ tb := tb_at 561 (by decide +kernel) (by decide +kernel)
theorem mw_X7_multiply_rbr_5 : Cond.methodLink "GuardedTree$Modulus" 46 yX7_addProduct ∈ tb := tb_at 557 (by decide +kernel) (by decide +kernel)
set_option maxHeartbeats 4000000 in
set_option maxRecDepth 100000 in
theorem c_X7_multiply_rbr (l : Launch) (D : va_G) (ct : Nat → ClassId) (ts : Nat → Nat) (a_this a_this_sum a_this_result a_this_base : Nat) (v_inverse : Int32) (f_sum : Nat → Int32) (f_result : Nat → Int32) (f_base : Nat → Int32) (zm : Nat) (tCm : String) (tnm : String) (xsm : List Int32) (zs : Nat) (tCs : String) (tns : String) (xss : List Int32)   (hzm : SXL[zm]? = some (tCm, tnm, 8, xsm)) (hzs : SXL[zs]? = some (tCs, tns, 8, xss)) (sz : Nat) : Met l yX7_multiply (Cond.code yX7_multiply cX7_multiply 7 none :: tb) { frames := 1, cells := 0, slots := 0, locals := 34 } (PcG D ct SXL ts [.ref a_this, .ref a_this_result, .ref a_this_base, .ref a_this_result] [(a_this, .inr (7, [.ref (ts zm), .ref (ts zs), .ref a_this_sum, .ref a_this_base, .ref a_this_result, .int v_inverse])), (a_this_sum, .inl (ct 0, 8, .inl f_sum)), (a_this_result, .inl (ct 0, 8, .inl f_result)), (a_this_base, .inl (ct 0, 8, .inl f_base))] sz) (va_Qv (fun u : (Nat → Int32) × (Nat → Int32) => u = f_X7_multiply v_inverse f_sum f_result f_base f_result xsm) (fun u => BG D ct (va_A [(a_this, .inr (7, [.ref (ts zm), .ref (ts zs), .ref a_this_sum, .ref a_this_base, .ref a_this_result, .int v_inverse])), (a_this_sum, .inl (ct 0, 8, .inl f_sum)), (a_this_result, .inl (ct 0, 8, .inl f_result)), (a_this_base, .inl (ct 0, 8, .inl f_base))] sz) [(a_this, .inr (7, [.ref (ts zm), .ref (ts zs), .ref a_this_sum, .ref a_this_base, .ref a_this_result, .int v_inverse])), (a_this_sum, .inl (ct 0, 8, .inl u.2)), (a_this_result, .inl (ct 0, 8, .inl u.1)), (a_this_base, .inl (ct 0, 8, .inl f_base))]) (va_A [(a_this, .inr (7, [.ref (ts zm), .ref (ts zs), .ref a_this_sum, .ref a_this_base, .ref a_this_result, .int v_inverse])), (a_this_sum, .inl (ct 0, 8, .inl f_sum)), (a_this_result, .inl (ct 0, 8, .inl f_result)), (a_this_base, .inl (ct 0, 8, .inl f_base))] sz)) 0 0 (va_A [(a_this, .inr (7, [.ref (ts zm), .ref (ts zs), .ref a_this_sum, .ref a_this_base, .ref a_this_result, .int v_inverse])), (a_this_sum, .inl (ct 0, 8, .inl f_sum)), (a_this_result, .inl (ct 0, 8, .inl f_result)), (a_this_base, .inl (ct 0, 8, .inl f_base))] sz) := by
  refine metJ (QcF := fun A => va_Qv (fun u : (Nat → Int32) × (Nat → Int32) => u = f_X7_multiply v_inverse f_sum f_result f_base f_result xsm) (fun u => BG D ct A [(a_this, .inr (7, [.ref (ts zm), .ref (ts zs), .ref a_this_sum, .ref a_this_base, .ref a_this_result, .int v_inverse])), (a_this_sum, .inl (ct 0, 8, .inl u.2)), (a_this_result, .inl (ct 0, 8, .inl u.1)), (a_this_base, .inl (ct 0, 8, .inl f_base))]) A) (by decide) (Nat.le_of_ble_eq_true rfl) ?_
  intro p e s m below meth c A X hnm
  obtain ⟨Q, hQ⟩ : ∃ Q, Q = MQ below (va_Qv (fun u : (Nat → Int32) × (Nat → Int32) => u = f_X7_multiply v_inverse f_sum f_result f_base f_result xsm) (fun u => BG D ct A [(a_this, .inr (7, [.ref (ts zm), .ref (ts zs), .ref a_this_sum, .ref a_this_base, .ref a_this_result, .int v_inverse])), (a_this_sum, .inl (ct 0, 8, .inl u.2)), (a_this_result, .inl (ct 0, 8, .inl u.1)), (a_this_base, .inl (ct 0, 8, .inl f_base))]) A) [.ref a_this, .ref a_this_result, .ref a_this_base, .ref a_this_result].toArray s 0 0 A := ⟨_, rfl⟩
  rw [← hQ]
  refine j_lve (lv' := [(0, .ref a_this), (1, .ref a_this_result), (2, .ref a_this_base), (3, .ref a_this_result)]) rfl ?_
  refine j_iconst (v := nI 0) X dX7_multiply_0 (by decide) (q := 1) rfl ?_
  refine j_istore (lv' := [(4, .int (nI 0)), (0, .ref a_this), (1, .ref a_this_result), (2, .ref a_this_base), (3, .ref a_this_result)]) X dX7_multiply_1 (by decide) rfl (q := 3) rfl ?_
  refine j_lv (lv' := [(0, .ref a_this), (1, .ref a_this_result), (2, .ref a_this_base), (3, .ref a_this_result), (4, .int (nI 0))]) [1, 2, 3, 4, 0] rfl ?_
  have LP3_1 : ∀ (r3_1 k3_1 : Nat) (t3_1 : (Nat → Int32)), k3_1 + r3_1 = 8 → t3_1 = itr X7_multiply_l3 f_sum k3_1 → J p l e { frames := 1, cells := 0, slots := 0, locals := 34 } s m [.ref a_this, .ref a_this_result, .ref a_this_base, .ref a_this_result].toArray below meth c D A 7 Q 0 0 [(a_this, .inr (7, [.ref (ts zm), .ref (ts zs), .ref a_this_sum, .ref a_this_base, .ref a_this_result, .int v_inverse])), (a_this_sum, .inl (ct 0, 8, .inl t3_1)), (a_this_result, .inl (ct 0, 8, .inl f_result)), (a_this_base, .inl (ct 0, 8, .inl f_base))] [(0, .ref a_this), (1, .ref a_this_result), (2, .ref a_this_base), (3, .ref a_this_result), (4, .int (nI k3_1))] [] 3 := by
    intro r3_1
    induction r3_1 with
    | zero =>
      intro k3_1 t3_1 hk_t3_1 e_t3_1 
      have hkk_t3_1 : 8 = k3_1 := by omega
      subst hkk_t3_1
      refine j_iload X 4 dX7_multiply_3 rfl (q := 5) rfl ?_
      refine j_bipush (v := nI 8) X dX7_multiply_5 (by decide) (q := 7) rfl ?_
      refine j_icmp_ge (tgt := 24) X dX7_multiply_7 (by decide) (q := 10) rfl (fun c2 => ?_) (fun c2 => ?_)
      · skip
        have c2 : 8 ≤ 8 := (nI_leI (by omega) (by omega)).mp c2
        refine j_lconst (v := 0) X dX7_multiply_24 (by decide) (q := 25) rfl ?_
        refine j_topl (fun y3 e_y3 => ?_)
        refine j_lstore (lv' := [(4, .long y3), (0, .ref a_this), (1, .ref a_this_result), (2, .ref a_this_base), (3, .ref a_this_result)]) X dX7_multiply_25 (by decide) rfl (q := 27) rfl ?_
        refine j_bipush (v := nI 7) X dX7_multiply_27 (by decide) (q := 29) rfl ?_
        refine j_istore (lv' := [(6, .int (nI 7)), (4, .long y3), (0, .ref a_this), (1, .ref a_this_result), (2, .ref a_this_base), (3, .ref a_this_result)]) X dX7_multiply_29 (by decide) rfl (q := 31) rfl ?_
        refine j_lv (lv' := [(0, .ref a_this), (1, .ref a_this_result), (2, .ref a_this_base), (3, .ref a_this_result), (4, .long y3), (6, .int (nI 7))]) [2, 3, 4, 5, 1, 0] rfl ?_
        have LP31_4 : ∀ (r31_4 : Nat) (t31_4 : (Nat → Int32) × (Int64)), r31_4 ≤ 8 → itd (X7_multiply_l31 v_inverse f_base f_result xsm) 8 ((t3_1, y3)) = itd (X7_multiply_l31 v_inverse f_base f_result xsm) r31_4 t31_4 → J p l e { frames := 1, cells := 0, slots := 0, locals := 34 } s m [.ref a_this, .ref a_this_result, .ref a_this_base, .ref a_this_result].toArray below meth c D A 7 Q 0 0 [(a_this, .inr (7, [.ref (ts zm), .ref (ts zs), .ref a_this_sum, .ref a_this_base, .ref a_this_result, .int v_inverse])), (a_this_sum, .inl (ct 0, 8, .inl t31_4.1)), (a_this_result, .inl (ct 0, 8, .inl f_result)), (a_this_base, .inl (ct 0, 8, .inl f_base))] [(0, .ref a_this), (1, .ref a_this_result), (2, .ref a_this_base), (3, .ref a_this_result), (4, .long t31_4.2), (6, .int (dn r31_4))] [] 31 := by
          intro r31_4
          induction r31_4 with
          | zero =>
            intro t31_4 hk_t31_4 e0_t31_4 
            have e_t31_4 : t31_4 = itd (X7_multiply_l31 v_inverse f_base f_result xsm) 8 ((t3_1, y3)) := (e0_t31_4.trans (itd_0 _ _)).symm
            refine j_iload X 5 dX7_multiply_31 rfl (q := 33) rfl ?_
            refine j_if_lt (tgt := 60) X dX7_multiply_33 (by decide) (q := 36) rfl (fun c5 => ?_) (fun c5 => ?_)
            · skip
              refine j_lload X 4 dX7_multiply_60 rfl (q := 62) rfl ?_
              refine j_lconst (v := 0) X dX7_multiply_62 (by decide) (q := 63) rfl ?_
              refine j_lcmp X dX7_multiply_63 (q := 64) rfl ?_
              have KJ64_6 : ∀ g64_6 : (Nat → Int32), g64_6 = X7_multiply_m64 xsm t31_4 → J p l e { frames := 1, cells := 0, slots := 0, locals := 34 } s m [.ref a_this, .ref a_this_result, .ref a_this_base, .ref a_this_result].toArray below meth c D A 7 Q 0 0 [(a_this, .inr (7, [.ref (ts zm), .ref (ts zs), .ref a_this_sum, .ref a_this_base, .ref a_this_result, .int v_inverse])), (a_this_sum, .inl (ct 0, 8, .inl g64_6)), (a_this_result, .inl (ct 0, 8, .inl f_result)), (a_this_base, .inl (ct 0, 8, .inl f_base))] [(0, .ref a_this), (1, .ref a_this_result), (2, .ref a_this_base), (3, .ref a_this_result), (4, .long t31_4.2), (6, .int (dn 0))] [] 89 := by
                intro g64_6 e_g64_6
                refine j_iconst (v := nI 0) X dX7_multiply_89 (by decide) (q := 90) rfl ?_
                refine j_istore (lv' := [(6, .int (nI 0)), (0, .ref a_this), (1, .ref a_this_result), (2, .ref a_this_base), (3, .ref a_this_result), (4, .long t31_4.2)]) X dX7_multiply_90 (by decide) rfl (q := 92) rfl ?_
                refine j_lv (lv' := [(0, .ref a_this), (1, .ref a_this_result), (2, .ref a_this_base), (3, .ref a_this_result), (4, .long t31_4.2), (6, .int (nI 0))]) [1, 2, 3, 4, 5, 0] rfl ?_
                have LP92_16 : ∀ (r92_16 k92_16 : Nat) (t92_16 : (Nat → Int32)), k92_16 + r92_16 = 8 → t92_16 = itr (X7_multiply_l92 g64_6) f_result k92_16 → J p l e { frames := 1, cells := 0, slots := 0, locals := 34 } s m [.ref a_this, .ref a_this_result, .ref a_this_base, .ref a_this_result].toArray below meth c D A 7 Q 0 0 [(a_this, .inr (7, [.ref (ts zm), .ref (ts zs), .ref a_this_sum, .ref a_this_base, .ref a_this_result, .int v_inverse])), (a_this_sum, .inl (ct 0, 8, .inl g64_6)), (a_this_result, .inl (ct 0, 8, .inl t92_16)), (a_this_base, .inl (ct 0, 8, .inl f_base))] [(0, .ref a_this), (1, .ref a_this_result), (2, .ref a_this_base), (3, .ref a_this_result), (4, .long t31_4.2), (6, .int (nI k92_16))] [] 92 := by
                  intro r92_16
                  induction r92_16 with
                  | zero =>
                    intro k92_16 t92_16 hk_t92_16 e_t92_16 
                    have hkk_t92_16 : 8 = k92_16 := by omega
                    subst hkk_t92_16
                    refine j_iload X 5 dX7_multiply_92 rfl (q := 94) rfl ?_
                    refine j_bipush (v := nI 8) X dX7_multiply_94 (by decide) (q := 96) rfl ?_
                    refine j_icmp_ge (tgt := 116) X dX7_multiply_96 (by decide) (q := 99) rfl (fun c17 => ?_) (fun c17 => ?_)
                    · skip
                      have c17 : 8 ≤ 8 := (nI_leI (by omega) (by omega)).mp c17
                      rw [hQ]
                      exact j_vret X ((t92_16, g64_6)) dX7_multiply_116 (by subst e_t3_1; subst e_y3; subst e_t31_4; subst e_g64_6; subst e_t92_16; rfl) rfl
                    · skip
                      have c17 : ¬ 8 ≤ 8 := fun h => c17 ((nI_leI (by omega) (by omega)).mpr h)
                      exfalso; omega
                  | succ r92_16 ih92_16 =>
                    intro k92_16 t92_16 hk_t92_16 e_t92_16 
                    refine j_iload X 5 dX7_multiply_92 rfl (q := 94) rfl ?_
                    refine j_bipush (v := nI 8) X dX7_multiply_94 (by decide) (q := 96) rfl ?_
                    refine j_icmp_ge (tgt := 116) X dX7_multiply_96 (by decide) (q := 99) rfl (fun c18 => ?_) (fun c18 => ?_)
                    · skip
                      have c18 : 8 ≤ k92_16 := (nI_leI (by omega) (by omega)).mp c18
                      exfalso; omega
                    · skip
                      have c18 : ¬ 8 ≤ k92_16 := fun h => c18 ((nI_leI (by omega) (by omega)).mpr h)
                      refine j_aload_n X 3 dX7_multiply_99 rfl (q := 100) rfl ?_
                      refine j_iload X 5 dX7_multiply_100 rfl (q := 102) rfl ?_
                      refine j_aload_n X 0 dX7_multiply_102 rfl (q := 103) rfl ?_
                      refine j_get (f := 2) X 0 inT7 rfl rfl (by decide) mw_X7_multiply_rbr_0 rfl dX7_multiply_103 (q := 106) rfl ?_
                      refine j_iload X 5 dX7_multiply_106 rfl (q := 108) rfl ?_
                      refine k_iald X 1 rfl (vp_in_nI (by omega) (by omega)) (nI_clamp (by omega)) dX7_multiply_108 (q := 109) rfl ?_
                      refine j_topi (fun y19 e_y19 => ?_)
                      refine k_iast (ws2 := [(a_this, .inr (7, [.ref (ts zm), .ref (ts zs), .ref a_this_sum, .ref a_this_base, .ref a_this_result, .int v_inverse])), (a_this_sum, .inl (ct 0, 8, .inl g64_6)), (a_this_result, .inl (ct 0, 8, .inl (upd t92_16 k92_16 y19))), (a_this_base, .inl (ct 0, 8, .inl f_base))]) X 2 rfl (vp_in_nI (by omega) (by omega)) (nI_clamp (by omega)) dX7_multiply_109 rfl (q := 110) rfl ?_
                      refine j_iinc (v := nI (k92_16 + 1)) (lv' := [(6, .int (nI (k92_16 + 1))), (0, .ref a_this), (1, .ref a_this_result), (2, .ref a_this_base), (3, .ref a_this_result), (4, .long t31_4.2)]) X 5 dX7_multiply_110 rfl (nI_inc _ 1) (by decide) rfl (q := 113) rfl ?_
                      refine j_goto (tgt := 92) X dX7_multiply_113 (by decide) ?_
                      refine j_lv (lv' := [(0, .ref a_this), (1, .ref a_this_result), (2, .ref a_this_base), (3, .ref a_this_result), (4, .long t31_4.2), (6, .int (nI (k92_16 + 1)))]) [1, 2, 3, 4, 5, 0] rfl ?_
                      have hb : (X7_multiply_l92 g64_6) k92_16 t92_16 = upd t92_16 k92_16 y19 := (by subst e_y19; rfl)
                      exact ih92_16 (k92_16 + 1) (upd t92_16 k92_16 y19) (by omega) (by rw [itr_s, ← e_t92_16]; exact hb.symm) 
                exact LP92_16 8 0 f_result (by omega) (itr_0 _ _).symm 
              refine j_if_ne (tgt := 81) X dX7_multiply_64 (by decide) (q := 67) rfl (fun c7 => ?_) (fun c7 => ?_)
              · skip
                refine j_aload_n X 0 dX7_multiply_81 rfl (q := 82) rfl ?_
                refine j_aload_n X 0 dX7_multiply_82 rfl (q := 83) rfl ?_
                refine j_get (f := 2) X 0 inT7 rfl rfl (by decide) mw_X7_multiply_rbr_0 rfl dX7_multiply_83 (q := 86) rfl ?_
                refine j_callVv (As := [.ref a_this_sum]) (rest := []) (wn := (fun u8 => [(a_this, .inr (7, [.ref (ts zm), .ref (ts zs), .ref a_this_sum, .ref a_this_base, .ref a_this_result, .int v_inverse])), (a_this_sum, .inl (ct 0, 8, .inl u8)), (a_this_result, .inl (ct 0, 8, .inl f_result)), (a_this_base, .inl (ct 0, 8, .inl f_base))])) (wr := [(a_this_result, .inl (ct 0, 8, .inl f_result)), (a_this_base, .inl (ct 0, 8, .inl f_base))]) X (fun sz => c_X7_subtractModulus_s l D ct ts a_this_sum a_this a_this_base a_this_result v_inverse t31_4.1 zm _ _ xsm zs _ _ xss hzm hzs sz) cal_X7_subtractModulus 0 rfl rfl mw_X7_multiply_rbr_3 cwi_X7_subtractModulus cws_X7_subtractModulus rfl ⟨by decide, by decide⟩ rfl rfl (Nat.le_of_ble_eq_true rfl) ⟨by decide, by decide⟩ [1, 0] [2, 3] [3, 2, 0, 1] rfl (by decide) rfl (by decide) (by decide) (fun _ => rfl) (by decide) dX7_multiply_86 (q := 89) rfl (fun u8 hu8 => ?_)
                refine j_lv (lv' := [(0, .ref a_this), (1, .ref a_this_result), (2, .ref a_this_base), (3, .ref a_this_result), (4, .long t31_4.2), (6, .int (dn 0))]) [0, 1, 2, 3, 4, 5] rfl ?_
                exact KJ64_6 u8 (by subst hu8; first | rfl | (simp only [X7_multiply_m64, if_neg c7]; done) | (simp only [X7_multiply_m64, if_neg c7]; rfl))
              · skip
                refine j_aload_n X 0 dX7_multiply_67 rfl (q := 68) rfl ?_
                refine j_get (f := 2) X 0 inT7 rfl rfl (by decide) mw_X7_multiply_rbr_0 rfl dX7_multiply_68 (q := 71) rfl ?_
                refine j_aload_n X 0 dX7_multiply_71 rfl (q := 72) rfl ?_
                refine j_get (f := 0) X 0 inT7 rfl rfl (by decide) mw_X7_multiply_rbr_1 rfl dX7_multiply_72 (q := 75) rfl ?_
                refine j_callSi (As := [.ref a_this_sum, .ref (ts zm)]) (rest := []) (wn := (fun u10 => [(a_this, .inr (7, [.ref (ts zm), .ref (ts zs), .ref a_this_sum, .ref a_this_base, .ref a_this_result, .int v_inverse])), (a_this_sum, .inl (ct 0, 8, .inl t31_4.1)), (a_this_result, .inl (ct 0, 8, .inl f_result)), (a_this_base, .inl (ct 0, 8, .inl f_base))])) (wr := [(a_this, .inr (7, [.ref (ts zm), .ref (ts zs), .ref a_this_sum, .ref a_this_base, .ref a_this_result, .int v_inverse])), (a_this_result, .inl (ct 0, 8, .inl f_result)), (a_this_base, .inl (ct 0, 8, .inl f_base))]) X (fun sz => c_X7_isBelow_t l D ct ts a_this_sum t31_4.1 zm _ _ xsm hzm sz) cal_X7_isBelow mw_X7_multiply_rbr_4 cwt_X7_isBelow rfl ⟨by decide, by decide⟩ rfl rfl (Nat.le_of_ble_eq_true rfl) ⟨by decide, by decide⟩ [1] [0, 2, 3] [0, 3, 1, 2] rfl (by decide) rfl (by decide) (by decide) (fun _ => rfl) (by decide) dX7_multiply_75 (q := 78) rfl (fun r11 u10 hu10 => ?_)
                have hu10 : r11 = f_X7_isBelow t31_4.1 (fun j => xsm.getD j 0) := hu10
                subst hu10
                refine j_if_ne (tgt := 89) X dX7_multiply_78 (by decide) (q := 81) rfl (fun c13 => ?_) (fun c13 => ?_)
                · skip
                  refine j_lv (lv' := [(0, .ref a_this), (1, .ref a_this_result), (2, .ref a_this_base), (3, .ref a_this_result), (4, .long t31_4.2), (6, .int (dn 0))]) [0, 1, 2, 3, 4, 5] rfl ?_
                  exact KJ64_6 t31_4.1 (by first | rfl | (simp only [X7_multiply_m64, if_pos c7, if_neg c13]; done) | (simp only [X7_multiply_m64, if_pos c7, if_neg c13]; rfl))
                · skip
                  refine j_aload_n X 0 dX7_multiply_81 rfl (q := 82) rfl ?_
                  refine j_aload_n X 0 dX7_multiply_82 rfl (q := 83) rfl ?_
                  refine j_get (f := 2) X 0 inT7 rfl rfl (by decide) mw_X7_multiply_rbr_0 rfl dX7_multiply_83 (q := 86) rfl ?_
                  refine j_callVv (As := [.ref a_this_sum]) (rest := []) (wn := (fun u14 => [(a_this, .inr (7, [.ref (ts zm), .ref (ts zs), .ref a_this_sum, .ref a_this_base, .ref a_this_result, .int v_inverse])), (a_this_sum, .inl (ct 0, 8, .inl u14)), (a_this_result, .inl (ct 0, 8, .inl f_result)), (a_this_base, .inl (ct 0, 8, .inl f_base))])) (wr := [(a_this_result, .inl (ct 0, 8, .inl f_result)), (a_this_base, .inl (ct 0, 8, .inl f_base))]) X (fun sz => c_X7_subtractModulus_s l D ct ts a_this_sum a_this a_this_base a_this_result v_inverse t31_4.1 zm _ _ xsm zs _ _ xss hzm hzs sz) cal_X7_subtractModulus 0 rfl rfl mw_X7_multiply_rbr_3 cwi_X7_subtractModulus cws_X7_subtractModulus rfl ⟨by decide, by decide⟩ rfl rfl (Nat.le_of_ble_eq_true rfl) ⟨by decide, by decide⟩ [1, 0] [2, 3] [3, 2, 0, 1] rfl (by decide) rfl (by decide) (by decide) (fun _ => rfl) (by decide) dX7_multiply_86 (q := 89) rfl (fun u14 hu14 => ?_)
                  refine j_lv (lv' := [(0, .ref a_this), (1, .ref a_this_result), (2, .ref a_this_base), (3, .ref a_this_result), (4, .long t31_4.2), (6, .int (dn 0))]) [0, 1, 2, 3, 4, 5] rfl ?_
                  exact KJ64_6 u14 (by subst hu14; first | rfl | (simp only [X7_multiply_m64, if_pos c7, if_pos c13]; done) | (simp only [X7_multiply_m64, if_pos c7, if_pos c13]; rfl))
            · skip
              exact absurd (show dn 0 < 0 by decide) c5
          | succ r31_4 ih31_4 =>
            intro t31_4 hk_t31_4 e_t31_4 
            rw [dn_s]
            refine j_iload X 5 dX7_multiply_31 rfl (q := 33) rfl ?_
            refine j_if_lt (tgt := 60) X dX7_multiply_33 (by decide) (q := 36) rfl (fun c20 => ?_) (fun c20 => ?_)
            · skip
              have c20 : r31_4 < 0 := (nI_ltI (by omega) (by omega)).mp c20
              exfalso; omega
            · skip
              have c20 : ¬ r31_4 < 0 := fun h => c20 ((nI_ltI (by omega) (by omega)).mpr h)
              refine j_aload_n X 0 dX7_multiply_36 rfl (q := 37) rfl ?_
              refine j_aload_n X 1 dX7_multiply_37 rfl (q := 38) rfl ?_
              refine j_aload_n X 2 dX7_multiply_38 rfl (q := 39) rfl ?_
              refine j_iload X 5 dX7_multiply_39 rfl (q := 41) rfl ?_
              refine k_iald X 3 rfl (vp_in_nI (by omega) (by omega)) (nI_clamp (by omega)) dX7_multiply_41 (q := 42) rfl ?_
              refine j_i2l X dX7_multiply_42 (q := 43) rfl ?_
              refine j_ldc2 X mw_X7_multiply_rbr_2 dX7_multiply_43 (q := 46) rfl ?_
              refine j_land X dX7_multiply_46 (q := 47) rfl ?_
              refine j_lload X 4 dX7_multiply_47 rfl (q := 49) rfl ?_
              refine j_callVl (As := [.ref a_this_result, .long (((f_base r31_4).toInt64) &&& ((4294967295 : Int64))), .long t31_4.2]) (rest := []) (wn := (fun u21 => [(a_this, .inr (7, [.ref (ts zm), .ref (ts zs), .ref a_this_sum, .ref a_this_base, .ref a_this_result, .int v_inverse])), (a_this_sum, .inl (ct 0, 8, .inl u21)), (a_this_result, .inl (ct 0, 8, .inl f_result)), (a_this_base, .inl (ct 0, 8, .inl f_base))])) (wr := [(a_this_base, .inl (ct 0, 8, .inl f_base))]) X (fun sz => c_X7_addProduct_r l D ct ts a_this_result a_this a_this_sum a_this_base v_inverse f_result t31_4.1 (((f_base r31_4).toInt64) &&& ((4294967295 : Int64))) t31_4.2 zm _ _ xsm zs _ _ xss hzm hzs sz) cal_X7_addProduct 0 rfl rfl mw_X7_multiply_rbr_5 cwi_X7_addProduct cws_X7_addProduct rfl ⟨by decide, by decide⟩ rfl rfl (Nat.le_of_ble_eq_true rfl) ⟨by decide, by decide⟩ [2, 0, 1] [3] [2, 3, 1, 0] rfl (by decide) rfl (by decide) (by decide) (fun _ => rfl) (by decide) dX7_multiply_49 (q := 52) rfl (fun r22 u21 hu21 => ?_)
              obtain ⟨w23, e_w23, rfl, rfl⟩ : ∃ w, w = f_X7_addProduct v_inverse f_result t31_4.1 (((f_base r31_4).toInt64) &&& ((4294967295 : Int64))) t31_4.2 xsm ∧ r22 = w.1 ∧ u21 = w.2 := ⟨_, rfl, congrArg Prod.fst hu21, congrArg Prod.snd hu21⟩
              refine j_lstore (lv' := [(4, .long w23.1), (0, .ref a_this), (1, .ref a_this_result), (2, .ref a_this_base), (3, .ref a_this_result), (6, .int (nI r31_4))]) X dX7_multiply_52 (by decide) rfl (q := 54) rfl ?_
              refine j_iinc (v := dn r31_4) (lv' := [(6, .int (dn r31_4)), (4, .long w23.1), (0, .ref a_this), (1, .ref a_this_result), (2, .ref a_this_base), (3, .ref a_this_result)]) X 5 dX7_multiply_54 rfl (dn_dec _) (by decide) rfl (q := 57) rfl ?_
              refine j_goto (tgt := 31) X dX7_multiply_57 (by decide) ?_
              refine j_lv (lv' := [(0, .ref a_this), (1, .ref a_this_result), (2, .ref a_this_base), (3, .ref a_this_result), (4, .long w23.1), (6, .int (dn r31_4))]) [2, 3, 4, 5, 1, 0] rfl ?_
              have hb : (X7_multiply_l31 v_inverse f_base f_result xsm) r31_4 t31_4 = (w23.2, w23.1) := (by subst e_w23; rfl)
              exact ih31_4 ((w23.2, w23.1)) (by omega) (by rw [e_t31_4, itd_s, hb]) 
        exact LP31_4 8 ((t3_1, y3)) (by omega) rfl 
      · skip
        have c2 : ¬ 8 ≤ 8 := fun h => c2 ((nI_leI (by omega) (by omega)).mpr h)
        exfalso; omega
    | succ r3_1 ih3_1 =>
      intro k3_1 t3_1 hk_t3_1 e_t3_1 
      refine j_iload X 4 dX7_multiply_3 rfl (q := 5) rfl ?_
      refine j_bipush (v := nI 8) X dX7_multiply_5 (by decide) (q := 7) rfl ?_
      refine j_icmp_ge (tgt := 24) X dX7_multiply_7 (by decide) (q := 10) rfl (fun c24 => ?_) (fun c24 => ?_)
      · skip
        have c24 : 8 ≤ k3_1 := (nI_leI (by omega) (by omega)).mp c24
        exfalso; omega
      · skip
        have c24 : ¬ 8 ≤ k3_1 := fun h => c24 ((nI_leI (by omega) (by omega)).mpr h)
        refine j_aload_n X 0 dX7_multiply_10 rfl (q := 11) rfl ?_
        refine j_get (f := 2) X 0 inT7 rfl rfl (by decide) mw_X7_multiply_rbr_0 rfl dX7_multiply_11 (q := 14) rfl ?_
        refine j_iload X 4 dX7_multiply_14 rfl (q := 16) rfl ?_
        refine j_iconst (v := nI 0) X dX7_multiply_16 (by decide) (q := 17) rfl ?_
        refine k_iast (ws2 := [(a_this, .inr (7, [.ref (ts zm), .ref (ts zs), .ref a_this_sum, .ref a_this_base, .ref a_this_result, .int v_inverse])), (a_this_sum, .inl (ct 0, 8, .inl (upd t3_1 k3_1 (nI 0)))), (a_this_result, .inl (ct 0, 8, .inl f_result)), (a_this_base, .inl (ct 0, 8, .inl f_base))]) X 1 rfl (vp_in_nI (by omega) (by omega)) (nI_clamp (by omega)) dX7_multiply_17 rfl (q := 18) rfl ?_
        refine j_iinc (v := nI (k3_1 + 1)) (lv' := [(4, .int (nI (k3_1 + 1))), (0, .ref a_this), (1, .ref a_this_result), (2, .ref a_this_base), (3, .ref a_this_result)]) X 4 dX7_multiply_18 rfl (nI_inc _ 1) (by decide) rfl (q := 21) rfl ?_
        refine j_goto (tgt := 3) X dX7_multiply_21 (by decide) ?_
        refine j_lv (lv' := [(0, .ref a_this), (1, .ref a_this_result), (2, .ref a_this_base), (3, .ref a_this_result), (4, .int (nI (k3_1 + 1)))]) [1, 2, 3, 4, 0] rfl ?_
        have hb : X7_multiply_l3 k3_1 t3_1 = upd t3_1 k3_1 (nI 0) := rfl
        exact ih3_1 (k3_1 + 1) (upd t3_1 k3_1 (nI 0)) (by omega) (by rw [itr_s, ← e_t3_1]; exact hb.symm) 
  exact LP3_1 8 0 f_sum (by omega) (itr_0 _ _).symm 
theorem mw_X7_multiply_rta_0 : Cond.fieldLink "GuardedTree$Modulus" 9 "GuardedTree$Modulus" "sum" "[I" ∈ tb := tb_at 186 (by decide +kernel) (by decide +kernel)
theorem mw_X7_multiply_rta_1 : Cond.fieldLink "GuardedTree$Modulus" 19 "GuardedTree$Modulus" "modulus" "[I" ∈ tb := tb_at 184 (by decide +kernel) (by decide +kernel)
theorem mw_X7_multiply_rta_2 : Cond.constantLong "GuardedTree$Modulus" 29 4294967295 ∈ tb := tb_at 556 (by decide +kernel) (by decide +kernel)
theorem mw_X7_multiply_rta_3 : Cond.methodLink "GuardedTree$Modulus" 35 yX7_subtractModulus ∈ tb := tb_at 564 (by decide +kernel) (by decide +kernel)
theorem mw_X7_multiply_rta_4 : Cond.methodLink "GuardedTree$Modulus" 31 yX7_isBelow ∈ tb := tb_at 561 (by decide +kernel) (by decide +kernel)
theorem mw_X7_multiply_rta_5 : Cond.methodLink "GuardedTree$Modulus" 46 yX7_addProduct ∈ tb := tb_at 557 (by decide +kernel) (by decide +kernel)
set_option maxHeartbeats 4000000 in
set_option maxRecDepth 100000 in
theorem c_X7_multiply_rta (l : Launch) (D : va_G) (ct : Nat → ClassId) (ts : Nat → Nat) (a_this a_this_sum a_p3 a_this_result a_this_base : Nat) (v_inverse : Int32) (f_sum : Nat → Int32) (f_p3 : Nat → Int32) (f_result : Nat → Int32) (z2 : Nat) (tC2 : String) (tn2 : String) (xs2 : List Int32) (zm : Nat) (tCm : String) (tnm : String) (xsm : List Int32) (zs : Nat) (tCs : String) (tns : String) (xss : List Int32)   (hz2 : SXL[z2]? = some (tC2, tn2, 8, xs2)) (hzm : SXL[zm]? = some (tCm, tnm, 8, xsm)) (hzs : SXL[zs]? = some (tCs, tns, 8, xss)) (sz : Nat) : Met l yX7_multiply (Cond.code yX7_multiply cX7_multiply 7 none :: tb) { frames := 1, cells := 0, slots := 0, locals := 34 } (PcG D ct SXL ts [.ref a_this, .ref a_this_result, .ref (ts z2), .ref a_p3] [(a_this, .inr (7, [.ref (ts zm), .ref (ts zs), .ref a_this_sum, .ref a_this_base, .ref a_this_result, .int v_inverse])), (a_this_sum, .inl (ct 0, 8, .inl f_sum)), (a_p3, .inl (ct 0, 8, .inl f_p3)), (a_this_result, .inl (ct 0, 8, .inl f_result))] sz) (va_Qv (fun u : (Nat → Int32) × (Nat → Int32) => u = f_X7_multiply v_inverse f_sum f_p3 (fun j => xs2.getD j 0) f_result xsm) (fun u => BG D ct (va_A [(a_this, .inr (7, [.ref (ts zm), .ref (ts zs), .ref a_this_sum, .ref a_this_base, .ref a_this_result, .int v_inverse])), (a_this_sum, .inl (ct 0, 8, .inl f_sum)), (a_p3, .inl (ct 0, 8, .inl f_p3)), (a_this_result, .inl (ct 0, 8, .inl f_result))] sz) [(a_this, .inr (7, [.ref (ts zm), .ref (ts zs), .ref a_this_sum, .ref a_this_base, .ref a_this_result, .int v_inverse])), (a_this_sum, .inl (ct 0, 8, .inl u.2)), (a_p3, .inl (ct 0, 8, .inl u.1)), (a_this_result, .inl (ct 0, 8, .inl f_result))]) (va_A [(a_this, .inr (7, [.ref (ts zm), .ref (ts zs), .ref a_this_sum, .ref a_this_base, .ref a_this_result, .int v_inverse])), (a_this_sum, .inl (ct 0, 8, .inl f_sum)), (a_p3, .inl (ct 0, 8, .inl f_p3)), (a_this_result, .inl (ct 0, 8, .inl f_result))] sz)) 0 0 (va_A [(a_this, .inr (7, [.ref (ts zm), .ref (ts zs), .ref a_this_sum, .ref a_this_base, .ref a_this_result, .int v_inverse])), (a_this_sum, .inl (ct 0, 8, .inl f_sum)), (a_p3, .inl (ct 0, 8, .inl f_p3)), (a_this_result, .inl (ct 0, 8, .inl f_result))] sz) := by
  refine metJ (QcF := fun A => va_Qv (fun u : (Nat → Int32) × (Nat → Int32) => u = f_X7_multiply v_inverse f_sum f_p3 (fun j => xs2.getD j 0) f_result xsm) (fun u => BG D ct A [(a_this, .inr (7, [.ref (ts zm), .ref (ts zs), .ref a_this_sum, .ref a_this_base, .ref a_this_result, .int v_inverse])), (a_this_sum, .inl (ct 0, 8, .inl u.2)), (a_p3, .inl (ct 0, 8, .inl u.1)), (a_this_result, .inl (ct 0, 8, .inl f_result))]) A) (by decide) (Nat.le_of_ble_eq_true rfl) ?_
  intro p e s m below meth c A X hnm
  obtain ⟨Q, hQ⟩ : ∃ Q, Q = MQ below (va_Qv (fun u : (Nat → Int32) × (Nat → Int32) => u = f_X7_multiply v_inverse f_sum f_p3 (fun j => xs2.getD j 0) f_result xsm) (fun u => BG D ct A [(a_this, .inr (7, [.ref (ts zm), .ref (ts zs), .ref a_this_sum, .ref a_this_base, .ref a_this_result, .int v_inverse])), (a_this_sum, .inl (ct 0, 8, .inl u.2)), (a_p3, .inl (ct 0, 8, .inl u.1)), (a_this_result, .inl (ct 0, 8, .inl f_result))]) A) [.ref a_this, .ref a_this_result, .ref (ts z2), .ref a_p3].toArray s 0 0 A := ⟨_, rfl⟩
  rw [← hQ]
  refine j_lve (lv' := [(0, .ref a_this), (1, .ref a_this_result), (2, .ref (ts z2)), (3, .ref a_p3)]) rfl ?_
  refine j_iconst (v := nI 0) X dX7_multiply_0 (by decide) (q := 1) rfl ?_
  refine j_istore (lv' := [(4, .int (nI 0)), (0, .ref a_this), (1, .ref a_this_result), (2, .ref (ts z2)), (3, .ref a_p3)]) X dX7_multiply_1 (by decide) rfl (q := 3) rfl ?_
  refine j_lv (lv' := [(0, .ref a_this), (1, .ref a_this_result), (2, .ref (ts z2)), (3, .ref a_p3), (4, .int (nI 0))]) [1, 2, 3, 4, 0] rfl ?_
  have LP3_1 : ∀ (r3_1 k3_1 : Nat) (t3_1 : (Nat → Int32)), k3_1 + r3_1 = 8 → t3_1 = itr X7_multiply_l3 f_sum k3_1 → J p l e { frames := 1, cells := 0, slots := 0, locals := 34 } s m [.ref a_this, .ref a_this_result, .ref (ts z2), .ref a_p3].toArray below meth c D A 7 Q 0 0 [(a_this, .inr (7, [.ref (ts zm), .ref (ts zs), .ref a_this_sum, .ref a_this_base, .ref a_this_result, .int v_inverse])), (a_this_sum, .inl (ct 0, 8, .inl t3_1)), (a_p3, .inl (ct 0, 8, .inl f_p3)), (a_this_result, .inl (ct 0, 8, .inl f_result))] [(0, .ref a_this), (1, .ref a_this_result), (2, .ref (ts z2)), (3, .ref a_p3), (4, .int (nI k3_1))] [] 3 := by
    intro r3_1
    induction r3_1 with
    | zero =>
      intro k3_1 t3_1 hk_t3_1 e_t3_1 
      have hkk_t3_1 : 8 = k3_1 := by omega
      subst hkk_t3_1
      refine j_iload X 4 dX7_multiply_3 rfl (q := 5) rfl ?_
      refine j_bipush (v := nI 8) X dX7_multiply_5 (by decide) (q := 7) rfl ?_
      refine j_icmp_ge (tgt := 24) X dX7_multiply_7 (by decide) (q := 10) rfl (fun c2 => ?_) (fun c2 => ?_)
      · skip
        have c2 : 8 ≤ 8 := (nI_leI (by omega) (by omega)).mp c2
        refine j_lconst (v := 0) X dX7_multiply_24 (by decide) (q := 25) rfl ?_
        refine j_topl (fun y3 e_y3 => ?_)
        refine j_lstore (lv' := [(4, .long y3), (0, .ref a_this), (1, .ref a_this_result), (2, .ref (ts z2)), (3, .ref a_p3)]) X dX7_multiply_25 (by decide) rfl (q := 27) rfl ?_
        refine j_bipush (v := nI 7) X dX7_multiply_27 (by decide) (q := 29) rfl ?_
        refine j_istore (lv' := [(6, .int (nI 7)), (4, .long y3), (0, .ref a_this), (1, .ref a_this_result), (2, .ref (ts z2)), (3, .ref a_p3)]) X dX7_multiply_29 (by decide) rfl (q := 31) rfl ?_
        refine j_lv (lv' := [(0, .ref a_this), (1, .ref a_this_result), (2, .ref (ts z2)), (3, .ref a_p3), (4, .long y3), (6, .int (nI 7))]) [2, 3, 4, 5, 1, 0] rfl ?_
        have LP31_4 : ∀ (r31_4 : Nat) (t31_4 : (Nat → Int32) × (Int64)), r31_4 ≤ 8 → itd (X7_multiply_l31 v_inverse (fun j => xs2.getD j 0) f_result xsm) 8 ((t3_1, y3)) = itd (X7_multiply_l31 v_inverse (fun j => xs2.getD j 0) f_result xsm) r31_4 t31_4 → J p l e { frames := 1, cells := 0, slots := 0, locals := 34 } s m [.ref a_this, .ref a_this_result, .ref (ts z2), .ref a_p3].toArray below meth c D A 7 Q 0 0 [(a_this, .inr (7, [.ref (ts zm), .ref (ts zs), .ref a_this_sum, .ref a_this_base, .ref a_this_result, .int v_inverse])), (a_this_sum, .inl (ct 0, 8, .inl t31_4.1)), (a_p3, .inl (ct 0, 8, .inl f_p3)), (a_this_result, .inl (ct 0, 8, .inl f_result))] [(0, .ref a_this), (1, .ref a_this_result), (2, .ref (ts z2)), (3, .ref a_p3), (4, .long t31_4.2), (6, .int (dn r31_4))] [] 31 := by
          intro r31_4
          induction r31_4 with
          | zero =>
            intro t31_4 hk_t31_4 e0_t31_4 
            have e_t31_4 : t31_4 = itd (X7_multiply_l31 v_inverse (fun j => xs2.getD j 0) f_result xsm) 8 ((t3_1, y3)) := (e0_t31_4.trans (itd_0 _ _)).symm
            refine j_iload X 5 dX7_multiply_31 rfl (q := 33) rfl ?_
            refine j_if_lt (tgt := 60) X dX7_multiply_33 (by decide) (q := 36) rfl (fun c5 => ?_) (fun c5 => ?_)
            · skip
              refine j_lload X 4 dX7_multiply_60 rfl (q := 62) rfl ?_
              refine j_lconst (v := 0) X dX7_multiply_62 (by decide) (q := 63) rfl ?_
              refine j_lcmp X dX7_multiply_63 (q := 64) rfl ?_
              have KJ64_6 : ∀ g64_6 : (Nat → Int32), g64_6 = X7_multiply_m64 xsm t31_4 → J p l e { frames := 1, cells := 0, slots := 0, locals := 34 } s m [.ref a_this, .ref a_this_result, .ref (ts z2), .ref a_p3].toArray below meth c D A 7 Q 0 0 [(a_this, .inr (7, [.ref (ts zm), .ref (ts zs), .ref a_this_sum, .ref a_this_base, .ref a_this_result, .int v_inverse])), (a_this_sum, .inl (ct 0, 8, .inl g64_6)), (a_p3, .inl (ct 0, 8, .inl f_p3)), (a_this_result, .inl (ct 0, 8, .inl f_result))] [(0, .ref a_this), (1, .ref a_this_result), (2, .ref (ts z2)), (3, .ref a_p3), (4, .long t31_4.2), (6, .int (dn 0))] [] 89 := by
                intro g64_6 e_g64_6
                refine j_iconst (v := nI 0) X dX7_multiply_89 (by decide) (q := 90) rfl ?_
                refine j_istore (lv' := [(6, .int (nI 0)), (0, .ref a_this), (1, .ref a_this_result), (2, .ref (ts z2)), (3, .ref a_p3), (4, .long t31_4.2)]) X dX7_multiply_90 (by decide) rfl (q := 92) rfl ?_
                refine j_lv (lv' := [(0, .ref a_this), (1, .ref a_this_result), (2, .ref (ts z2)), (3, .ref a_p3), (4, .long t31_4.2), (6, .int (nI 0))]) [1, 2, 3, 4, 5, 0] rfl ?_
                have LP92_16 : ∀ (r92_16 k92_16 : Nat) (t92_16 : (Nat → Int32)), k92_16 + r92_16 = 8 → t92_16 = itr (X7_multiply_l92 g64_6) f_p3 k92_16 → J p l e { frames := 1, cells := 0, slots := 0, locals := 34 } s m [.ref a_this, .ref a_this_result, .ref (ts z2), .ref a_p3].toArray below meth c D A 7 Q 0 0 [(a_this, .inr (7, [.ref (ts zm), .ref (ts zs), .ref a_this_sum, .ref a_this_base, .ref a_this_result, .int v_inverse])), (a_this_sum, .inl (ct 0, 8, .inl g64_6)), (a_p3, .inl (ct 0, 8, .inl t92_16)), (a_this_result, .inl (ct 0, 8, .inl f_result))] [(0, .ref a_this), (1, .ref a_this_result), (2, .ref (ts z2)), (3, .ref a_p3), (4, .long t31_4.2), (6, .int (nI k92_16))] [] 92 := by
                  intro r92_16
                  induction r92_16 with
                  | zero =>
                    intro k92_16 t92_16 hk_t92_16 e_t92_16 
                    have hkk_t92_16 : 8 = k92_16 := by omega
                    subst hkk_t92_16
                    refine j_iload X 5 dX7_multiply_92 rfl (q := 94) rfl ?_
                    refine j_bipush (v := nI 8) X dX7_multiply_94 (by decide) (q := 96) rfl ?_
                    refine j_icmp_ge (tgt := 116) X dX7_multiply_96 (by decide) (q := 99) rfl (fun c17 => ?_) (fun c17 => ?_)
                    · skip
                      have c17 : 8 ≤ 8 := (nI_leI (by omega) (by omega)).mp c17
                      rw [hQ]
                      exact j_vret X ((t92_16, g64_6)) dX7_multiply_116 (by subst e_t3_1; subst e_y3; subst e_t31_4; subst e_g64_6; subst e_t92_16; rfl) rfl
                    · skip
                      have c17 : ¬ 8 ≤ 8 := fun h => c17 ((nI_leI (by omega) (by omega)).mpr h)
                      exfalso; omega
                  | succ r92_16 ih92_16 =>
                    intro k92_16 t92_16 hk_t92_16 e_t92_16 
                    refine j_iload X 5 dX7_multiply_92 rfl (q := 94) rfl ?_
                    refine j_bipush (v := nI 8) X dX7_multiply_94 (by decide) (q := 96) rfl ?_
                    refine j_icmp_ge (tgt := 116) X dX7_multiply_96 (by decide) (q := 99) rfl (fun c18 => ?_) (fun c18 => ?_)
                    · skip
                      have c18 : 8 ≤ k92_16 := (nI_leI (by omega) (by omega)).mp c18
                      exfalso; omega
                    · skip
                      have c18 : ¬ 8 ≤ k92_16 := fun h => c18 ((nI_leI (by omega) (by omega)).mpr h)
                      refine j_aload_n X 3 dX7_multiply_99 rfl (q := 100) rfl ?_
                      refine j_iload X 5 dX7_multiply_100 rfl (q := 102) rfl ?_
                      refine j_aload_n X 0 dX7_multiply_102 rfl (q := 103) rfl ?_
                      refine j_get (f := 2) X 0 inT7 rfl rfl (by decide) mw_X7_multiply_rta_0 rfl dX7_multiply_103 (q := 106) rfl ?_
                      refine j_iload X 5 dX7_multiply_106 rfl (q := 108) rfl ?_
                      refine k_iald X 1 rfl (vp_in_nI (by omega) (by omega)) (nI_clamp (by omega)) dX7_multiply_108 (q := 109) rfl ?_
                      refine j_topi (fun y19 e_y19 => ?_)
                      refine k_iast (ws2 := [(a_this, .inr (7, [.ref (ts zm), .ref (ts zs), .ref a_this_sum, .ref a_this_base, .ref a_this_result, .int v_inverse])), (a_this_sum, .inl (ct 0, 8, .inl g64_6)), (a_p3, .inl (ct 0, 8, .inl (upd t92_16 k92_16 y19))), (a_this_result, .inl (ct 0, 8, .inl f_result))]) X 2 rfl (vp_in_nI (by omega) (by omega)) (nI_clamp (by omega)) dX7_multiply_109 rfl (q := 110) rfl ?_
                      refine j_iinc (v := nI (k92_16 + 1)) (lv' := [(6, .int (nI (k92_16 + 1))), (0, .ref a_this), (1, .ref a_this_result), (2, .ref (ts z2)), (3, .ref a_p3), (4, .long t31_4.2)]) X 5 dX7_multiply_110 rfl (nI_inc _ 1) (by decide) rfl (q := 113) rfl ?_
                      refine j_goto (tgt := 92) X dX7_multiply_113 (by decide) ?_
                      refine j_lv (lv' := [(0, .ref a_this), (1, .ref a_this_result), (2, .ref (ts z2)), (3, .ref a_p3), (4, .long t31_4.2), (6, .int (nI (k92_16 + 1)))]) [1, 2, 3, 4, 5, 0] rfl ?_
                      have hb : (X7_multiply_l92 g64_6) k92_16 t92_16 = upd t92_16 k92_16 y19 := (by subst e_y19; rfl)
                      exact ih92_16 (k92_16 + 1) (upd t92_16 k92_16 y19) (by omega) (by rw [itr_s, ← e_t92_16]; exact hb.symm) 
                exact LP92_16 8 0 f_p3 (by omega) (itr_0 _ _).symm 
              refine j_if_ne (tgt := 81) X dX7_multiply_64 (by decide) (q := 67) rfl (fun c7 => ?_) (fun c7 => ?_)
              · skip
                refine j_aload_n X 0 dX7_multiply_81 rfl (q := 82) rfl ?_
                refine j_aload_n X 0 dX7_multiply_82 rfl (q := 83) rfl ?_
                refine j_get (f := 2) X 0 inT7 rfl rfl (by decide) mw_X7_multiply_rta_0 rfl dX7_multiply_83 (q := 86) rfl ?_
                refine j_callVv (As := [.ref a_this_sum]) (rest := []) (wn := (fun u8 => [(a_this, .inr (7, [.ref (ts zm), .ref (ts zs), .ref a_this_sum, .ref a_this_base, .ref a_this_result, .int v_inverse])), (a_this_sum, .inl (ct 0, 8, .inl u8)), (a_p3, .inl (ct 0, 8, .inl f_p3)), (a_this_result, .inl (ct 0, 8, .inl f_result))])) (wr := [(a_p3, .inl (ct 0, 8, .inl f_p3)), (a_this_result, .inl (ct 0, 8, .inl f_result))]) X (fun sz => c_X7_subtractModulus_s l D ct ts a_this_sum a_this a_this_base a_this_result v_inverse t31_4.1 zm _ _ xsm zs _ _ xss hzm hzs sz) cal_X7_subtractModulus 0 rfl rfl mw_X7_multiply_rta_3 cwi_X7_subtractModulus cws_X7_subtractModulus rfl ⟨by decide, by decide⟩ rfl rfl (Nat.le_of_ble_eq_true rfl) ⟨by decide, by decide⟩ [1, 0] [2, 3] [3, 2, 0, 1] rfl (by decide) rfl (by decide) (by decide) (fun _ => rfl) (by decide) dX7_multiply_86 (q := 89) rfl (fun u8 hu8 => ?_)
                refine j_lv (lv' := [(0, .ref a_this), (1, .ref a_this_result), (2, .ref (ts z2)), (3, .ref a_p3), (4, .long t31_4.2), (6, .int (dn 0))]) [0, 1, 2, 3, 4, 5] rfl ?_
                exact KJ64_6 u8 (by subst hu8; first | rfl | (simp only [X7_multiply_m64, if_neg c7]; done) | (simp only [X7_multiply_m64, if_neg c7]; rfl))
              · skip
                refine j_aload_n X 0 dX7_multiply_67 rfl (q := 68) rfl ?_
                refine j_get (f := 2) X 0 inT7 rfl rfl (by decide) mw_X7_multiply_rta_0 rfl dX7_multiply_68 (q := 71) rfl ?_
                refine j_aload_n X 0 dX7_multiply_71 rfl (q := 72) rfl ?_
                refine j_get (f := 0) X 0 inT7 rfl rfl (by decide) mw_X7_multiply_rta_1 rfl dX7_multiply_72 (q := 75) rfl ?_
                refine j_callSi (As := [.ref a_this_sum, .ref (ts zm)]) (rest := []) (wn := (fun u10 => [(a_this, .inr (7, [.ref (ts zm), .ref (ts zs), .ref a_this_sum, .ref a_this_base, .ref a_this_result, .int v_inverse])), (a_this_sum, .inl (ct 0, 8, .inl t31_4.1)), (a_p3, .inl (ct 0, 8, .inl f_p3)), (a_this_result, .inl (ct 0, 8, .inl f_result))])) (wr := [(a_this, .inr (7, [.ref (ts zm), .ref (ts zs), .ref a_this_sum, .ref a_this_base, .ref a_this_result, .int v_inverse])), (a_p3, .inl (ct 0, 8, .inl f_p3)), (a_this_result, .inl (ct 0, 8, .inl f_result))]) X (fun sz => c_X7_isBelow_t l D ct ts a_this_sum t31_4.1 zm _ _ xsm hzm sz) cal_X7_isBelow mw_X7_multiply_rta_4 cwt_X7_isBelow rfl ⟨by decide, by decide⟩ rfl rfl (Nat.le_of_ble_eq_true rfl) ⟨by decide, by decide⟩ [1] [0, 2, 3] [0, 3, 1, 2] rfl (by decide) rfl (by decide) (by decide) (fun _ => rfl) (by decide) dX7_multiply_75 (q := 78) rfl (fun r11 u10 hu10 => ?_)
                have hu10 : r11 = f_X7_isBelow t31_4.1 (fun j => xsm.getD j 0) := hu10
                subst hu10
                refine j_if_ne (tgt := 89) X dX7_multiply_78 (by decide) (q := 81) rfl (fun c13 => ?_) (fun c13 => ?_)
                · skip
                  refine j_lv (lv' := [(0, .ref a_this), (1, .ref a_this_result), (2, .ref (ts z2)), (3, .ref a_p3), (4, .long t31_4.2), (6, .int (dn 0))]) [0, 1, 2, 3, 4, 5] rfl ?_
                  exact KJ64_6 t31_4.1 (by first | rfl | (simp only [X7_multiply_m64, if_pos c7, if_neg c13]; done) | (simp only [X7_multiply_m64, if_pos c7, if_neg c13]; rfl))
                · skip
                  refine j_aload_n X 0 dX7_multiply_81 rfl (q := 82) rfl ?_
                  refine j_aload_n X 0 dX7_multiply_82 rfl (q := 83) rfl ?_
                  refine j_get (f := 2) X 0 inT7 rfl rfl (by decide) mw_X7_multiply_rta_0 rfl dX7_multiply_83 (q := 86) rfl ?_
                  refine j_callVv (As := [.ref a_this_sum]) (rest := []) (wn := (fun u14 => [(a_this, .inr (7, [.ref (ts zm), .ref (ts zs), .ref a_this_sum, .ref a_this_base, .ref a_this_result, .int v_inverse])), (a_this_sum, .inl (ct 0, 8, .inl u14)), (a_p3, .inl (ct 0, 8, .inl f_p3)), (a_this_result, .inl (ct 0, 8, .inl f_result))])) (wr := [(a_p3, .inl (ct 0, 8, .inl f_p3)), (a_this_result, .inl (ct 0, 8, .inl f_result))]) X (fun sz => c_X7_subtractModulus_s l D ct ts a_this_sum a_this a_this_base a_this_result v_inverse t31_4.1 zm _ _ xsm zs _ _ xss hzm hzs sz) cal_X7_subtractModulus 0 rfl rfl mw_X7_multiply_rta_3 cwi_X7_subtractModulus cws_X7_subtractModulus rfl ⟨by decide, by decide⟩ rfl rfl (Nat.le_of_ble_eq_true rfl) ⟨by decide, by decide⟩ [1, 0] [2, 3] [3, 2, 0, 1] rfl (by decide) rfl (by decide) (by decide) (fun _ => rfl) (by decide) dX7_multiply_86 (q := 89) rfl (fun u14 hu14 => ?_)
                  refine j_lv (lv' := [(0, .ref a_this), (1, .ref a_this_result), (2, .ref (ts z2)), (3, .ref a_p3), (4, .long t31_4.2), (6, .int (dn 0))]) [0, 1, 2, 3, 4, 5] rfl ?_
                  exact KJ64_6 u14 (by subst hu14; first | rfl | (simp only [X7_multiply_m64, if_pos c7, if_pos c13]; done) | (simp only [X7_multiply_m64, if_pos c7, if_pos c13]; rfl))
            · skip
              exact absurd (show dn 0 < 0 by decide) c5
          | succ r31_4 ih31_4 =>
            intro t31_4 hk_t31_4 e_t31_4 
            rw [dn_s]
            refine j_iload X 5 dX7_multiply_31 rfl (q := 33) rfl ?_
            refine j_if_lt (tgt := 60) X dX7_multiply_33 (by decide) (q := 36) rfl (fun c20 => ?_) (fun c20 => ?_)
            · skip
              have c20 : r31_4 < 0 := (nI_ltI (by omega) (by omega)).mp c20
              exfalso; omega
            · skip
              have c20 : ¬ r31_4 < 0 := fun h => c20 ((nI_ltI (by omega) (by omega)).mpr h)
              refine j_aload_n X 0 dX7_multiply_36 rfl (q := 37) rfl ?_
              refine j_aload_n X 1 dX7_multiply_37 rfl (q := 38) rfl ?_
              refine j_aload_n X 2 dX7_multiply_38 rfl (q := 39) rfl ?_
              refine j_iload X 5 dX7_multiply_39 rfl (q := 41) rfl ?_
              refine k_ti X z2 hz2 (vp_in_nI (by omega) (by omega)) (nI_clamp (by omega)) dX7_multiply_41 (q := 42) rfl ?_
              refine j_i2l X dX7_multiply_42 (q := 43) rfl ?_
              refine j_ldc2 X mw_X7_multiply_rta_2 dX7_multiply_43 (q := 46) rfl ?_
              refine j_land X dX7_multiply_46 (q := 47) rfl ?_
              refine j_lload X 4 dX7_multiply_47 rfl (q := 49) rfl ?_
              refine j_callVl (As := [.ref a_this_result, .long (((xs2.getD r31_4 0).toInt64) &&& ((4294967295 : Int64))), .long t31_4.2]) (rest := []) (wn := (fun u21 => [(a_this, .inr (7, [.ref (ts zm), .ref (ts zs), .ref a_this_sum, .ref a_this_base, .ref a_this_result, .int v_inverse])), (a_this_sum, .inl (ct 0, 8, .inl u21)), (a_p3, .inl (ct 0, 8, .inl f_p3)), (a_this_result, .inl (ct 0, 8, .inl f_result))])) (wr := [(a_p3, .inl (ct 0, 8, .inl f_p3))]) X (fun sz => c_X7_addProduct_r l D ct ts a_this_result a_this a_this_sum a_this_base v_inverse f_result t31_4.1 (((xs2.getD r31_4 0).toInt64) &&& ((4294967295 : Int64))) t31_4.2 zm _ _ xsm zs _ _ xss hzm hzs sz) cal_X7_addProduct 0 rfl rfl mw_X7_multiply_rta_5 cwi_X7_addProduct cws_X7_addProduct rfl ⟨by decide, by decide⟩ rfl rfl (Nat.le_of_ble_eq_true rfl) ⟨by decide, by decide⟩ [3, 0, 1] [2] [2, 3, 0, 1] rfl (by decide) rfl (by decide) (by decide) (fun _ => rfl) (by decide) dX7_multiply_49 (q := 52) rfl (fun r22 u21 hu21 => ?_)
              obtain ⟨w23, e_w23, rfl, rfl⟩ : ∃ w, w = f_X7_addProduct v_inverse f_result t31_4.1 (((xs2.getD r31_4 0).toInt64) &&& ((4294967295 : Int64))) t31_4.2 xsm ∧ r22 = w.1 ∧ u21 = w.2 := ⟨_, rfl, congrArg Prod.fst hu21, congrArg Prod.snd hu21⟩
              refine j_lstore (lv' := [(4, .long w23.1), (0, .ref a_this), (1, .ref a_this_result), (2, .ref (ts z2)), (3, .ref a_p3), (6, .int (nI r31_4))]) X dX7_multiply_52 (by decide) rfl (q := 54) rfl ?_
              refine j_iinc (v := dn r31_4) (lv' := [(6, .int (dn r31_4)), (4, .long w23.1), (0, .ref a_this), (1, .ref a_this_result), (2, .ref (ts z2)), (3, .ref a_p3)]) X 5 dX7_multiply_54 rfl (dn_dec _) (by decide) rfl (q := 57) rfl ?_
              refine j_goto (tgt := 31) X dX7_multiply_57 (by decide) ?_
              refine j_lv (lv' := [(0, .ref a_this), (1, .ref a_this_result), (2, .ref (ts z2)), (3, .ref a_p3), (4, .long w23.1), (6, .int (dn r31_4))]) [2, 3, 4, 5, 1, 0] rfl ?_
              have hb : (X7_multiply_l31 v_inverse (fun j => xs2.getD j 0) f_result xsm) r31_4 t31_4 = (w23.2, w23.1) := (by subst e_w23; rfl)
              exact ih31_4 ((w23.2, w23.1)) (by omega) (by rw [e_t31_4, itd_s, hb]) 
        exact LP31_4 8 ((t3_1, y3)) (by omega) rfl 
      · skip
        have c2 : ¬ 8 ≤ 8 := fun h => c2 ((nI_leI (by omega) (by omega)).mpr h)
        exfalso; omega
    | succ r3_1 ih3_1 =>
      intro k3_1 t3_1 hk_t3_1 e_t3_1 
      refine j_iload X 4 dX7_multiply_3 rfl (q := 5) rfl ?_
      refine j_bipush (v := nI 8) X dX7_multiply_5 (by decide) (q := 7) rfl ?_
      refine j_icmp_ge (tgt := 24) X dX7_multiply_7 (by decide) (q := 10) rfl (fun c24 => ?_) (fun c24 => ?_)
      · skip
        have c24 : 8 ≤ k3_1 := (nI_leI (by omega) (by omega)).mp c24
        exfalso; omega
      · skip
        have c24 : ¬ 8 ≤ k3_1 := fun h => c24 ((nI_leI (by omega) (by omega)).mpr h)
        refine j_aload_n X 0 dX7_multiply_10 rfl (q := 11) rfl ?_
        refine j_get (f := 2) X 0 inT7 rfl rfl (by decide) mw_X7_multiply_rta_0 rfl dX7_multiply_11 (q := 14) rfl ?_
        refine j_iload X 4 dX7_multiply_14 rfl (q := 16) rfl ?_
        refine j_iconst (v := nI 0) X dX7_multiply_16 (by decide) (q := 17) rfl ?_
        refine k_iast (ws2 := [(a_this, .inr (7, [.ref (ts zm), .ref (ts zs), .ref a_this_sum, .ref a_this_base, .ref a_this_result, .int v_inverse])), (a_this_sum, .inl (ct 0, 8, .inl (upd t3_1 k3_1 (nI 0)))), (a_p3, .inl (ct 0, 8, .inl f_p3)), (a_this_result, .inl (ct 0, 8, .inl f_result))]) X 1 rfl (vp_in_nI (by omega) (by omega)) (nI_clamp (by omega)) dX7_multiply_17 rfl (q := 18) rfl ?_
        refine j_iinc (v := nI (k3_1 + 1)) (lv' := [(4, .int (nI (k3_1 + 1))), (0, .ref a_this), (1, .ref a_this_result), (2, .ref (ts z2)), (3, .ref a_p3)]) X 4 dX7_multiply_18 rfl (nI_inc _ 1) (by decide) rfl (q := 21) rfl ?_
        refine j_goto (tgt := 3) X dX7_multiply_21 (by decide) ?_
        refine j_lv (lv' := [(0, .ref a_this), (1, .ref a_this_result), (2, .ref (ts z2)), (3, .ref a_p3), (4, .int (nI (k3_1 + 1)))]) [1, 2, 3, 4, 0] rfl ?_
        have hb : X7_multiply_l3 k3_1 t3_1 = upd t3_1 k3_1 (nI 0) := rfl
        exact ih3_1 (k3_1 + 1) (upd t3_1 k3_1 (nI 0)) (by omega) (by rw [itr_s, ← e_t3_1]; exact hb.symm) 
  exact LP3_1 8 0 f_sum (by omega) (itr_0 _ _).symm 
theorem dX7_power_0 : decode cX7_power 0 = .ok (.aload_n 0, 1) := by decide +kernel
theorem dX7_power_1 : decode cX7_power 1 = .ok (.aload_n 1, 1) := by decide +kernel
theorem dX7_power_2 : decode cX7_power 2 = .ok (.aload_n 0, 1) := by decide +kernel
theorem dX7_power_3 : decode cX7_power 3 = .ok (.getfield 22, 3) := by decide +kernel
theorem dX7_power_6 : decode cX7_power 6 = .ok (.aload_n 0, 1) := by decide +kernel
theorem dX7_power_7 : decode cX7_power 7 = .ok (.getfield 13, 3) := by decide +kernel
theorem dX7_power_10 : decode cX7_power 10 = .ok (.invokevirtual 39, 3) := by decide +kernel
theorem dX7_power_13 : decode cX7_power 13 = .ok (.aload_n 0, 1) := by decide +kernel
theorem dX7_power_14 : decode cX7_power 14 = .ok (.getstatic 43, 3) := by decide +kernel
theorem dX7_power_17 : decode cX7_power 17 = .ok (.aload_n 0, 1) := by decide +kernel
theorem dX7_power_18 : decode cX7_power 18 = .ok (.getfield 22, 3) := by decide +kernel
theorem dX7_power_21 : decode cX7_power 21 = .ok (.aload_n 0, 1) := by decide +kernel
theorem dX7_power_22 : decode cX7_power 22 = .ok (.getfield 16, 3) := by decide +kernel
theorem dX7_power_25 : decode cX7_power 25 = .ok (.invokevirtual 39, 3) := by decide +kernel
theorem dX7_power_28 : decode cX7_power 28 = .ok (.iconst 0, 1) := by decide +kernel
theorem dX7_power_29 : decode cX7_power 29 = .ok (.istore 4, 2) := by decide +kernel
theorem dX7_power_31 : decode cX7_power 31 = .ok (.iconst 0, 1) := by decide +kernel
theorem dX7_power_32 : decode cX7_power 32 = .ok (.istore 5, 2) := by decide +kernel
theorem dX7_power_34 : decode cX7_power 34 = .ok (.iload 5, 2) := by decide +kernel
theorem dX7_power_36 : decode cX7_power 36 = .ok (.sipush 256, 3) := by decide +kernel
theorem dX7_power_39 : decode cX7_power 39 = .ok (.if_icmp .ge 70, 3) := by decide +kernel
theorem dX7_power_42 : decode cX7_power 42 = .ok (.iload 4, 2) := by decide +kernel
theorem dX7_power_44 : decode cX7_power 44 = .ok (.ifCond .eq 19, 3) := by decide +kernel
theorem dX7_power_47 : decode cX7_power 47 = .ok (.aload_n 0, 1) := by decide +kernel
theorem dX7_power_48 : decode cX7_power 48 = .ok (.aload_n 0, 1) := by decide +kernel
theorem dX7_power_49 : decode cX7_power 49 = .ok (.getfield 16, 3) := by decide +kernel
theorem dX7_power_52 : decode cX7_power 52 = .ok (.aload_n 0, 1) := by decide +kernel
theorem dX7_power_53 : decode cX7_power 53 = .ok (.getfield 16, 3) := by decide +kernel
theorem dX7_power_56 : decode cX7_power 56 = .ok (.aload_n 0, 1) := by decide +kernel
theorem dX7_power_57 : decode cX7_power 57 = .ok (.getfield 16, 3) := by decide +kernel
theorem dX7_power_60 : decode cX7_power 60 = .ok (.invokevirtual 39, 3) := by decide +kernel
theorem dX7_power_63 : decode cX7_power 63 = .ok (.aload_n 2, 1) := by decide +kernel
theorem dX7_power_64 : decode cX7_power 64 = .ok (.iload 5, 2) := by decide +kernel
theorem dX7_power_66 : decode cX7_power 66 = .ok (.bipush 32, 2) := by decide +kernel
theorem dX7_power_68 : decode cX7_power 68 = .ok (.idiv, 1) := by decide +kernel
theorem dX7_power_69 : decode cX7_power 69 = .ok (.iaload, 1) := by decide +kernel
theorem dX7_power_70 : decode cX7_power 70 = .ok (.bipush 31, 2) := by decide +kernel
theorem dX7_power_72 : decode cX7_power 72 = .ok (.iload 5, 2) := by decide +kernel
theorem dX7_power_74 : decode cX7_power 74 = .ok (.bipush 32, 2) := by decide +kernel
theorem dX7_power_76 : decode cX7_power 76 = .ok (.irem, 1) := by decide +kernel
theorem dX7_power_77 : decode cX7_power 77 = .ok (.isub, 1) := by decide +kernel
theorem dX7_power_78 : decode cX7_power 78 = .ok (.iushr, 1) := by decide +kernel
theorem dX7_power_79 : decode cX7_power 79 = .ok (.iconst 1, 1) := by decide +kernel
theorem dX7_power_80 : decode cX7_power 80 = .ok (.iand, 1) := by decide +kernel
theorem dX7_power_81 : decode cX7_power 81 = .ok (.ifCond .eq 22, 3) := by decide +kernel
theorem dX7_power_84 : decode cX7_power 84 = .ok (.aload_n 0, 1) := by decide +kernel
theorem dX7_power_85 : decode cX7_power 85 = .ok (.aload_n 0, 1) := by decide +kernel
theorem dX7_power_86 : decode cX7_power 86 = .ok (.getfield 16, 3) := by decide +kernel
theorem dX7_power_89 : decode cX7_power 89 = .ok (.aload_n 0, 1) := by decide +kernel
theorem dX7_power_90 : decode cX7_power 90 = .ok (.getfield 13, 3) := by decide +kernel
theorem dX7_power_93 : decode cX7_power 93 = .ok (.aload_n 0, 1) := by decide +kernel
theorem dX7_power_94 : decode cX7_power 94 = .ok (.getfield 16, 3) := by decide +kernel
theorem dX7_power_97 : decode cX7_power 97 = .ok (.invokevirtual 39, 3) := by decide +kernel
theorem dX7_power_100 : decode cX7_power 100 = .ok (.iconst 1, 1) := by decide +kernel
theorem dX7_power_101 : decode cX7_power 101 = .ok (.istore 4, 2) := by decide +kernel
theorem dX7_power_103 : decode cX7_power 103 = .ok (.iinc 5 1, 3) := by decide +kernel
theorem dX7_power_106 : decode cX7_power 106 = .ok (.goto (-72), 3) := by decide +kernel
theorem dX7_power_109 : decode cX7_power 109 = .ok (.aload_n 0, 1) := by decide +kernel
theorem dX7_power_110 : decode cX7_power 110 = .ok (.aload_n 0, 1) := by decide +kernel
theorem dX7_power_111 : decode cX7_power 111 = .ok (.getfield 16, 3) := by decide +kernel
theorem dX7_power_114 : decode cX7_power 114 = .ok (.getstatic 43, 3) := by decide +kernel
theorem dX7_power_117 : decode cX7_power 117 = .ok (.aload_n 3, 1) := by decide +kernel
theorem dX7_power_118 : decode cX7_power 118 = .ok (.invokevirtual 39, 3) := by decide +kernel
theorem dX7_power_121 : decode cX7_power 121 = .ok (.return_, 1) := by decide +kernel
noncomputable def X7_power_m81 (v_inverse : Int32) (f_p2 : Nat → Int32) (xsm : List Int32) (u1 : (Nat → Int32) × (Nat → Int32)) (t34_5 : (Nat → Int32) × (Nat → Int32) × (Int32)) (k34_5 : Nat) (g44_10 : (Nat → Int32) × (Nat → Int32)) : (Int32) × (Nat → Int32) × (Nat → Int32) :=
  if ((ur32 (f_p2 (k34_5 / 32)) (31 - (k34_5 % 32))) &&& (nI 1)) = 0 then
  ((t34_5.2.2, g44_10.1, g44_10.2))
  else
  (let u16 := f_X7_multiply v_inverse g44_10.1 g44_10.2 u1.1 g44_10.2 xsm
  (nI 1, u16.2, u16.1))
noncomputable def X7_power_m44 (v_inverse : Int32) (xsm : List Int32) (t34_5 : (Nat → Int32) × (Nat → Int32) × (Int32)) : (Nat → Int32) × (Nat → Int32) :=
  if t34_5.2.2 = 0 then
  ((t34_5.2.1, t34_5.1))
  else
  (let u12 := f_X7_multiply v_inverse t34_5.2.1 t34_5.1 t34_5.1 t34_5.1 xsm
  (u12.2, u12.1))
noncomputable def X7_power_l34 (v_inverse : Int32) (f_p2 : Nat → Int32) (xsm : List Int32) (u1 : (Nat → Int32) × (Nat → Int32)) (k34_5 : Nat) (t34_5 : (Nat → Int32) × (Nat → Int32) × (Int32)) : (Nat → Int32) × (Nat → Int32) × (Int32) :=
  let g44_10 := X7_power_m44 v_inverse xsm t34_5
  let g81_14 := X7_power_m81 v_inverse f_p2 xsm u1 t34_5 k34_5 g44_10
  (g81_14.2.2, g81_14.2.1, g81_14.1)
noncomputable def f_X7_power (v_inverse : Int32) (f_sum : Nat → Int32) (f_base : Nat → Int32) (f_p1 : Nat → Int32) (f_result : Nat → Int32) (f_p3 : Nat → Int32) (f_p2 : Nat → Int32) (xsm : List Int32) (xss : List Int32) : (Nat → Int32) × (Nat → Int32) × (Nat → Int32) × (Nat → Int32) :=
  let u1 := f_X7_multiply v_inverse f_sum f_base (fun j => xss.getD j 0) f_p1 xsm
  let u3 := f_X7_multiply v_inverse u1.2 f_result (fun j => xss.getD j 0) (fun j => tab_Modulus_ONE.getD j 0) xsm
  let t34_5 := itr (X7_power_l34 v_inverse f_p2 xsm u1) ((u3.1, u3.2, nI 0)) 256
  let u7 := f_X7_multiply v_inverse t34_5.2.1 f_p3 (fun j => tab_Modulus_ONE.getD j 0) t34_5.1 xsm
  (u7.1, u1.1, t34_5.1, u7.2)
theorem cal_X7_power : Cal yX7_power cX7_power 6 none 3 := ⟨tb_at 113 (by decide +kernel) (by decide +kernel), tb_at 551 (by decide +kernel) (by decide +kernel), by decide +kernel, by decide +kernel, by decide +kernel⟩
theorem cwi_X7_power : Cond.instanceMethod yX7_power ∈ tb := tb_at 549 (by decide +kernel) (by decide +kernel)
theorem cws_X7_power : Cond.selects yX7_power.cls yX7_power yX7_power ∈ tb := tb_at 550 (by decide +kernel) (by decide +kernel)
theorem mw_X7_power_taa_0 : Cond.fieldLink "GuardedTree$Modulus" 22 "GuardedTree$Modulus" "square" "[I" ∈ tb := tb_at 185 (by decide +kernel) (by decide +kernel)
theorem mw_X7_power_taa_1 : Cond.fieldLink "GuardedTree$Modulus" 13 "GuardedTree$Modulus" "base" "[I" ∈ tb := tb_at 187 (by decide +kernel) (by decide +kernel)
theorem mw_X7_power_taa_2 : Cond.fieldLink "GuardedTree$Modulus" 43 "GuardedTree$Modulus" "ONE" "[I" ∈ tb := tb_at 568 (by decide +kernel) (by decide +kernel)
theorem mw_X7_power_taa_3 : Cond.fieldLink "GuardedTree$Modulus" 16 "GuardedTree$Modulus" "result" "[I" ∈ tb := tb_at 188 (by decide +kernel) (by decide +kernel)
theorem mw_X7_power_taa_4 : Cond.methodLink "GuardedTree$Modulus" 39 yX7_multiply ∈ tb := tb_at 552 (by decide +kernel) (by decide +kernel)
set_option maxHeartbeats 4000000 in
set_option maxRecDepth 100000 in
theorem c_X7_power_taa (l : Launch) (D : va_G) (ct : Nat → ClassId) (ts : Nat → Nat) (a_this a_this_sum a_this_base a_this_result a_p3 a_p2 : Nat) (v_inverse : Int32) (f_sum : Nat → Int32) (f_base : Nat → Int32) (f_result : Nat → Int32) (f_p3 : Nat → Int32) (f_p2 : Nat → Int32) (z1 : Nat) (tC1 : String) (tn1 : String) (xs1 : List Int32) (zm : Nat) (tCm : String) (tnm : String) (xsm : List Int32) (zs : Nat) (tCs : String) (tns : String) (xss : List Int32)   (hz1 : SXL[z1]? = some (tC1, tn1, 8, xs1)) (hzm : SXL[zm]? = some (tCm, tnm, 8, xsm)) (hzs : SXL[zs]? = some (tCs, tns, 8, xss)) (sz : Nat) : Met l yX7_power (Cond.code yX7_power cX7_power 6 none :: tb) { frames := 2, cells := 0, slots := 0, locals := 60 } (PcG D ct SXL ts [.ref a_this, .ref (ts z1), .ref a_p2, .ref a_p3] [(a_this, .inr (7, [.ref (ts zm), .ref (ts zs), .ref a_this_sum, .ref a_this_base, .ref a_this_result, .int v_inverse])), (a_this_sum, .inl (ct 0, 8, .inl f_sum)), (a_this_base, .inl (ct 0, 8, .inl f_base)), (a_this_result, .inl (ct 0, 8, .inl f_result)), (a_p3, .inl (ct 0, 8, .inl f_p3)), (a_p2, .inl (ct 0, 8, .inl f_p2))] sz) (va_Qv (fun u : (Nat → Int32) × (Nat → Int32) × (Nat → Int32) × (Nat → Int32) => u = f_X7_power v_inverse f_sum f_base (fun j => xs1.getD j 0) f_result f_p3 f_p2 xsm xss) (fun u => BG D ct (va_A [(a_this, .inr (7, [.ref (ts zm), .ref (ts zs), .ref a_this_sum, .ref a_this_base, .ref a_this_result, .int v_inverse])), (a_this_sum, .inl (ct 0, 8, .inl f_sum)), (a_this_base, .inl (ct 0, 8, .inl f_base)), (a_this_result, .inl (ct 0, 8, .inl f_result)), (a_p3, .inl (ct 0, 8, .inl f_p3)), (a_p2, .inl (ct 0, 8, .inl f_p2))] sz) [(a_this, .inr (7, [.ref (ts zm), .ref (ts zs), .ref a_this_sum, .ref a_this_base, .ref a_this_result, .int v_inverse])), (a_this_sum, .inl (ct 0, 8, .inl u.2.2.2)), (a_this_base, .inl (ct 0, 8, .inl u.2.1)), (a_this_result, .inl (ct 0, 8, .inl u.2.2.1)), (a_p3, .inl (ct 0, 8, .inl u.1)), (a_p2, .inl (ct 0, 8, .inl f_p2))]) (va_A [(a_this, .inr (7, [.ref (ts zm), .ref (ts zs), .ref a_this_sum, .ref a_this_base, .ref a_this_result, .int v_inverse])), (a_this_sum, .inl (ct 0, 8, .inl f_sum)), (a_this_base, .inl (ct 0, 8, .inl f_base)), (a_this_result, .inl (ct 0, 8, .inl f_result)), (a_p3, .inl (ct 0, 8, .inl f_p3)), (a_p2, .inl (ct 0, 8, .inl f_p2))] sz)) 0 0 (va_A [(a_this, .inr (7, [.ref (ts zm), .ref (ts zs), .ref a_this_sum, .ref a_this_base, .ref a_this_result, .int v_inverse])), (a_this_sum, .inl (ct 0, 8, .inl f_sum)), (a_this_base, .inl (ct 0, 8, .inl f_base)), (a_this_result, .inl (ct 0, 8, .inl f_result)), (a_p3, .inl (ct 0, 8, .inl f_p3)), (a_p2, .inl (ct 0, 8, .inl f_p2))] sz) := by
  refine metJ (QcF := fun A => va_Qv (fun u : (Nat → Int32) × (Nat → Int32) × (Nat → Int32) × (Nat → Int32) => u = f_X7_power v_inverse f_sum f_base (fun j => xs1.getD j 0) f_result f_p3 f_p2 xsm xss) (fun u => BG D ct A [(a_this, .inr (7, [.ref (ts zm), .ref (ts zs), .ref a_this_sum, .ref a_this_base, .ref a_this_result, .int v_inverse])), (a_this_sum, .inl (ct 0, 8, .inl u.2.2.2)), (a_this_base, .inl (ct 0, 8, .inl u.2.1)), (a_this_result, .inl (ct 0, 8, .inl u.2.2.1)), (a_p3, .inl (ct 0, 8, .inl u.1)), (a_p2, .inl (ct 0, 8, .inl f_p2))]) A) (by decide) (Nat.le_of_ble_eq_true rfl) ?_
  intro p e s m below meth c A X hnm
  obtain ⟨Q, hQ⟩ : ∃ Q, Q = MQ below (va_Qv (fun u : (Nat → Int32) × (Nat → Int32) × (Nat → Int32) × (Nat → Int32) => u = f_X7_power v_inverse f_sum f_base (fun j => xs1.getD j 0) f_result f_p3 f_p2 xsm xss) (fun u => BG D ct A [(a_this, .inr (7, [.ref (ts zm), .ref (ts zs), .ref a_this_sum, .ref a_this_base, .ref a_this_result, .int v_inverse])), (a_this_sum, .inl (ct 0, 8, .inl u.2.2.2)), (a_this_base, .inl (ct 0, 8, .inl u.2.1)), (a_this_result, .inl (ct 0, 8, .inl u.2.2.1)), (a_p3, .inl (ct 0, 8, .inl u.1)), (a_p2, .inl (ct 0, 8, .inl f_p2))]) A) [.ref a_this, .ref (ts z1), .ref a_p2, .ref a_p3].toArray s 0 0 A := ⟨_, rfl⟩
  rw [← hQ]
  refine j_lve (lv' := [(0, .ref a_this), (1, .ref (ts z1)), (2, .ref a_p2), (3, .ref a_p3)]) rfl ?_
  refine j_aload_n X 0 dX7_power_0 rfl (q := 1) rfl ?_
  refine j_aload_n X 1 dX7_power_1 rfl (q := 2) rfl ?_
  refine j_aload_n X 0 dX7_power_2 rfl (q := 3) rfl ?_
  refine j_get (f := 1) X 0 inT7 rfl rfl (by decide) mw_X7_power_taa_0 rfl dX7_power_3 (q := 6) rfl ?_
  refine j_aload_n X 0 dX7_power_6 rfl (q := 7) rfl ?_
  refine j_get (f := 3) X 0 inT7 rfl rfl (by decide) mw_X7_power_taa_1 rfl dX7_power_7 (q := 10) rfl ?_
  refine j_callVv (As := [.ref (ts z1), .ref (ts zs), .ref a_this_base]) (rest := []) (wn := (fun u1 => [(a_this, .inr (7, [.ref (ts zm), .ref (ts zs), .ref a_this_sum, .ref a_this_base, .ref a_this_result, .int v_inverse])), (a_this_sum, .inl (ct 0, 8, .inl u1.2)), (a_this_base, .inl (ct 0, 8, .inl u1.1)), (a_this_result, .inl (ct 0, 8, .inl f_result)), (a_p3, .inl (ct 0, 8, .inl f_p3)), (a_p2, .inl (ct 0, 8, .inl f_p2))])) (wr := [(a_this_result, .inl (ct 0, 8, .inl f_result)), (a_p3, .inl (ct 0, 8, .inl f_p3)), (a_p2, .inl (ct 0, 8, .inl f_p2))]) X (fun sz => c_X7_multiply_ttb l D ct ts a_this a_this_sum a_this_base a_this_result v_inverse f_sum f_base z1 _ _ xs1 zs _ _ xss zm _ _ xsm zs _ _ xss hz1 hzs hzm hzs sz) cal_X7_multiply 0 rfl rfl mw_X7_power_taa_4 cwi_X7_multiply cws_X7_multiply rfl ⟨by decide, by decide⟩ rfl rfl (Nat.le_of_ble_eq_true rfl) ⟨by decide, by decide⟩ [0, 1, 2] [3, 4, 5] [3, 4, 5, 0, 1, 2] rfl (by decide) rfl (by decide) (by decide) (fun _ => rfl) (by decide) dX7_power_10 (q := 13) rfl (fun u1 hu1 => ?_)
  refine j_aload_n X 0 dX7_power_13 rfl (q := 14) rfl ?_
  refine j_gets X 8 (show SXL[8]? = _ from rfl) mw_X7_power_taa_2 dX7_power_14 (q := 17) rfl ?_
  refine j_aload_n X 0 dX7_power_17 rfl (q := 18) rfl ?_
  refine j_get (f := 1) X 0 inT7 rfl rfl (by decide) mw_X7_power_taa_0 rfl dX7_power_18 (q := 21) rfl ?_
  refine j_aload_n X 0 dX7_power_21 rfl (q := 22) rfl ?_
  refine j_get (f := 4) X 0 inT7 rfl rfl (by decide) mw_X7_power_taa_3 rfl dX7_power_22 (q := 25) rfl ?_
  refine j_callVv (As := [.ref (ts 8), .ref (ts zs), .ref a_this_result]) (rest := []) (wn := (fun u3 => [(a_this, .inr (7, [.ref (ts zm), .ref (ts zs), .ref a_this_sum, .ref a_this_base, .ref a_this_result, .int v_inverse])), (a_this_sum, .inl (ct 0, 8, .inl u3.2)), (a_this_base, .inl (ct 0, 8, .inl u1.1)), (a_this_result, .inl (ct 0, 8, .inl u3.1)), (a_p3, .inl (ct 0, 8, .inl f_p3)), (a_p2, .inl (ct 0, 8, .inl f_p2))])) (wr := [(a_this_base, .inl (ct 0, 8, .inl u1.1)), (a_p3, .inl (ct 0, 8, .inl f_p3)), (a_p2, .inl (ct 0, 8, .inl f_p2))]) X (fun sz => c_X7_multiply_ttr l D ct ts a_this a_this_sum a_this_result a_this_base v_inverse u1.2 f_result 8 _ _ tab_Modulus_ONE zs _ _ xss zm _ _ xsm zs _ _ xss (show SXL[8]? = _ from rfl) hzs hzm hzs sz) cal_X7_multiply 0 rfl rfl mw_X7_power_taa_4 cwi_X7_multiply cws_X7_multiply rfl ⟨by decide, by decide⟩ rfl rfl (Nat.le_of_ble_eq_true rfl) ⟨by decide, by decide⟩ [0, 1, 3] [2, 4, 5] [3, 4, 0, 5, 1, 2] rfl (by decide) rfl (by decide) (by decide) (fun _ => rfl) (by decide) dX7_power_25 (q := 28) rfl (fun u3 hu3 => ?_)
  refine j_iconst (v := nI 0) X dX7_power_28 (by decide) (q := 29) rfl ?_
  refine j_istore (lv' := [(4, .int (nI 0)), (0, .ref a_this), (1, .ref (ts z1)), (2, .ref a_p2), (3, .ref a_p3)]) X dX7_power_29 (by decide) rfl (q := 31) rfl ?_
  refine j_iconst (v := nI 0) X dX7_power_31 (by decide) (q := 32) rfl ?_
  refine j_istore (lv' := [(5, .int (nI 0)), (4, .int (nI 0)), (0, .ref a_this), (1, .ref (ts z1)), (2, .ref a_p2), (3, .ref a_p3)]) X dX7_power_32 (by decide) rfl (q := 34) rfl ?_
  refine j_lv (lv' := [(0, .ref a_this), (1, .ref (ts z1)), (2, .ref a_p2), (3, .ref a_p3), (4, .int (nI 0)), (5, .int (nI 0))]) [2, 3, 4, 5, 1, 0] rfl ?_
  have LP34_5 : ∀ (r34_5 k34_5 : Nat) (t34_5 : (Nat → Int32) × (Nat → Int32) × (Int32)), k34_5 + r34_5 = 256 → t34_5 = itr (X7_power_l34 v_inverse f_p2 xsm u1) ((u3.1, u3.2, nI 0)) k34_5 → J p l e { frames := 2, cells := 0, slots := 0, locals := 60 } s m [.ref a_this, .ref (ts z1), .ref a_p2, .ref a_p3].toArray below meth c D A 6 Q 0 0 [(a_this, .inr (7, [.ref (ts zm), .ref (ts zs), .ref a_this_sum, .ref a_this_base, .ref a_this_result, .int v_inverse])), (a_this_sum, .inl (ct 0, 8, .inl t34_5.2.1)), (a_this_base, .inl (ct 0, 8, .inl u1.1)), (a_this_result, .inl (ct 0, 8, .inl t34_5.1)), (a_p3, .inl (ct 0, 8, .inl f_p3)), (a_p2, .inl (ct 0, 8, .inl f_p2))] [(0, .ref a_this), (1, .ref (ts z1)), (2, .ref a_p2), (3, .ref a_p3), (4, .int t34_5.2.2), (5, .int (nI k34_5))] [] 34 := by
    intro r34_5
    induction r34_5 with
    | zero =>
      intro k34_5 t34_5 hk_t34_5 e_t34_5 
      have hkk_t34_5 : 256 = k34_5 := by omega
      subst hkk_t34_5
      refine j_iload X 5 dX7_power_34 rfl (q := 36) rfl ?_
      refine j_sipush (v := nI 256) X dX7_power_36 (by decide) (q := 39) rfl ?_
      refine j_icmp_ge (tgt := 109) X dX7_power_39 (by decide) (q := 42) rfl (fun c6 => ?_) (fun c6 => ?_)
      · skip
        have c6 : 256 ≤ 256 := (nI_leI (by omega) (by omega)).mp c6
        refine j_aload_n X 0 dX7_power_109 rfl (q := 110) rfl ?_
        refine j_aload_n X 0 dX7_power_110 rfl (q := 111) rfl ?_
        refine j_get (f := 4) X 0 inT7 rfl rfl (by decide) mw_X7_power_taa_3 rfl dX7_power_111 (q := 114) rfl ?_
        refine j_gets X 8 (show SXL[8]? = _ from rfl) mw_X7_power_taa_2 dX7_power_114 (q := 117) rfl ?_
        refine j_aload_n X 3 dX7_power_117 rfl (q := 118) rfl ?_
        refine j_callVv (As := [.ref a_this_result, .ref (ts 8), .ref a_p3]) (rest := []) (wn := (fun u7 => [(a_this, .inr (7, [.ref (ts zm), .ref (ts zs), .ref a_this_sum, .ref a_this_base, .ref a_this_result, .int v_inverse])), (a_this_sum, .inl (ct 0, 8, .inl u7.2)), (a_this_base, .inl (ct 0, 8, .inl u1.1)), (a_this_result, .inl (ct 0, 8, .inl t34_5.1)), (a_p3, .inl (ct 0, 8, .inl u7.1)), (a_p2, .inl (ct 0, 8, .inl f_p2))])) (wr := [(a_this_base, .inl (ct 0, 8, .inl u1.1)), (a_p2, .inl (ct 0, 8, .inl f_p2))]) X (fun sz => c_X7_multiply_rta l D ct ts a_this a_this_sum a_p3 a_this_result a_this_base v_inverse t34_5.2.1 f_p3 t34_5.1 8 _ _ tab_Modulus_ONE zm _ _ xsm zs _ _ xss (show SXL[8]? = _ from rfl) hzm hzs sz) cal_X7_multiply 0 rfl rfl mw_X7_power_taa_4 cwi_X7_multiply cws_X7_multiply rfl ⟨by decide, by decide⟩ rfl rfl (Nat.le_of_ble_eq_true rfl) ⟨by decide, by decide⟩ [0, 1, 4, 3] [2, 5] [2, 3, 0, 5, 4, 1] rfl (by decide) rfl (by decide) (by decide) (fun _ => rfl) (by decide) dX7_power_118 (q := 121) rfl (fun u7 hu7 => ?_)
        rw [hQ]
        exact j_vret X ((u7.1, u1.1, t34_5.1, u7.2)) dX7_power_121 (by subst hu1; subst hu3; subst e_t34_5; subst hu7; rfl) rfl
      · skip
        have c6 : ¬ 256 ≤ 256 := fun h => c6 ((nI_leI (by omega) (by omega)).mpr h)
        exfalso; omega
    | succ r34_5 ih34_5 =>
      intro k34_5 t34_5 hk_t34_5 e_t34_5 
      refine j_iload X 5 dX7_power_34 rfl (q := 36) rfl ?_
      refine j_sipush (v := nI 256) X dX7_power_36 (by decide) (q := 39) rfl ?_
      refine j_icmp_ge (tgt := 109) X dX7_power_39 (by decide) (q := 42) rfl (fun c9 => ?_) (fun c9 => ?_)
      · skip
        have c9 : 256 ≤ k34_5 := (nI_leI (by omega) (by omega)).mp c9
        exfalso; omega
      · skip
        have c9 : ¬ 256 ≤ k34_5 := fun h => c9 ((nI_leI (by omega) (by omega)).mpr h)
        refine j_iload X 4 dX7_power_42 rfl (q := 44) rfl ?_
        have KJ44_10 : ∀ g44_10 : (Nat → Int32) × (Nat → Int32), g44_10 = X7_power_m44 v_inverse xsm t34_5 → J p l e { frames := 2, cells := 0, slots := 0, locals := 60 } s m [.ref a_this, .ref (ts z1), .ref a_p2, .ref a_p3].toArray below meth c D A 6 Q 0 0 [(a_this, .inr (7, [.ref (ts zm), .ref (ts zs), .ref a_this_sum, .ref a_this_base, .ref a_this_result, .int v_inverse])), (a_this_sum, .inl (ct 0, 8, .inl g44_10.1)), (a_this_base, .inl (ct 0, 8, .inl u1.1)), (a_this_result, .inl (ct 0, 8, .inl g44_10.2)), (a_p3, .inl (ct 0, 8, .inl f_p3)), (a_p2, .inl (ct 0, 8, .inl f_p2))] [(0, .ref a_this), (1, .ref (ts z1)), (2, .ref a_p2), (3, .ref a_p3), (4, .int t34_5.2.2), (5, .int (nI k34_5))] [] 63 := by
          intro g44_10 e_g44_10
          refine j_aload_n X 2 dX7_power_63 rfl (q := 64) rfl ?_
          refine j_iload X 5 dX7_power_64 rfl (q := 66) rfl ?_
          refine j_bipush (v := nI 32) X dX7_power_66 (by decide) (q := 68) rfl ?_
          refine j_idiv X dX7_power_68 (by decide) (q := 69) rfl ?_
          refine j_eqi (pk_div (by omega) (by omega) (by omega)) ?_
          refine k_iald X 5 rfl (vp_in_nI (by omega) (by omega)) (nI_clamp (by omega)) dX7_power_69 (q := 70) rfl ?_
          refine j_bipush (v := nI 31) X dX7_power_70 (by decide) (q := 72) rfl ?_
          refine j_iload X 5 dX7_power_72 rfl (q := 74) rfl ?_
          refine j_bipush (v := nI 32) X dX7_power_74 (by decide) (q := 76) rfl ?_
          refine j_irem X dX7_power_76 (by decide) (q := 77) rfl ?_
          refine j_eqi (pk_rem (by omega) (by omega) (by omega)) ?_
          refine j_isub X dX7_power_77 (q := 78) rfl ?_
          refine j_eqi (pk_sub (by omega)) ?_
          refine j_iushr X dX7_power_78 (q := 79) rfl ?_
          refine j_eqi (show _ = ur32 (f_p2 (k34_5 / 32)) (31 - (k34_5 % 32)) from rfl) ?_
          refine j_iconst (v := nI 1) X dX7_power_79 (by decide) (q := 80) rfl ?_
          refine j_iand X dX7_power_80 (q := 81) rfl ?_
          have KJ81_14 : ∀ g81_14 : (Int32) × (Nat → Int32) × (Nat → Int32), g81_14 = X7_power_m81 v_inverse f_p2 xsm u1 t34_5 k34_5 g44_10 → J p l e { frames := 2, cells := 0, slots := 0, locals := 60 } s m [.ref a_this, .ref (ts z1), .ref a_p2, .ref a_p3].toArray below meth c D A 6 Q 0 0 [(a_this, .inr (7, [.ref (ts zm), .ref (ts zs), .ref a_this_sum, .ref a_this_base, .ref a_this_result, .int v_inverse])), (a_this_sum, .inl (ct 0, 8, .inl g81_14.2.1)), (a_this_base, .inl (ct 0, 8, .inl u1.1)), (a_this_result, .inl (ct 0, 8, .inl g81_14.2.2)), (a_p3, .inl (ct 0, 8, .inl f_p3)), (a_p2, .inl (ct 0, 8, .inl f_p2))] [(0, .ref a_this), (1, .ref (ts z1)), (2, .ref a_p2), (3, .ref a_p3), (4, .int g81_14.1), (5, .int (nI k34_5))] [] 103 := by
            intro g81_14 e_g81_14
            refine j_iinc (v := nI (k34_5 + 1)) (lv' := [(5, .int (nI (k34_5 + 1))), (0, .ref a_this), (1, .ref (ts z1)), (2, .ref a_p2), (3, .ref a_p3), (4, .int g81_14.1)]) X 5 dX7_power_103 rfl (nI_inc _ 1) (by decide) rfl (q := 106) rfl ?_
            refine j_goto (tgt := 34) X dX7_power_106 (by decide) ?_
            refine j_lv (lv' := [(0, .ref a_this), (1, .ref (ts z1)), (2, .ref a_p2), (3, .ref a_p3), (4, .int g81_14.1), (5, .int (nI (k34_5 + 1)))]) [1, 2, 3, 4, 5, 0] rfl ?_
            have hb : (X7_power_l34 v_inverse f_p2 xsm u1) k34_5 t34_5 = (g81_14.2.2, g81_14.2.1, g81_14.1) := (by subst e_g44_10; subst e_g81_14; rfl)
            exact ih34_5 (k34_5 + 1) ((g81_14.2.2, g81_14.2.1, g81_14.1)) (by omega) (by rw [itr_s, ← e_t34_5]; exact hb.symm) 
          refine j_if_eq (tgt := 103) X dX7_power_81 (by decide) (q := 84) rfl (fun c15 => ?_) (fun c15 => ?_)
          · skip
            refine j_lv (lv' := [(0, .ref a_this), (1, .ref (ts z1)), (2, .ref a_p2), (3, .ref a_p3), (4, .int t34_5.2.2), (5, .int (nI k34_5))]) [0, 1, 2, 3, 4, 5] rfl ?_
            exact KJ81_14 ((t34_5.2.2, g44_10.1, g44_10.2)) (by first | rfl | (simp only [X7_power_m81, if_pos c15]; done) | (simp only [X7_power_m81, if_pos c15]; rfl))
          · skip
            refine j_aload_n X 0 dX7_power_84 rfl (q := 85) rfl ?_
            refine j_aload_n X 0 dX7_power_85 rfl (q := 86) rfl ?_
            refine j_get (f := 4) X 0 inT7 rfl rfl (by decide) mw_X7_power_taa_3 rfl dX7_power_86 (q := 89) rfl ?_
            refine j_aload_n X 0 dX7_power_89 rfl (q := 90) rfl ?_
            refine j_get (f := 3) X 0 inT7 rfl rfl (by decide) mw_X7_power_taa_1 rfl dX7_power_90 (q := 93) rfl ?_
            refine j_aload_n X 0 dX7_power_93 rfl (q := 94) rfl ?_
            refine j_get (f := 4) X 0 inT7 rfl rfl (by decide) mw_X7_power_taa_3 rfl dX7_power_94 (q := 97) rfl ?_
            refine j_callVv (As := [.ref a_this_result, .ref a_this_base, .ref a_this_result]) (rest := []) (wn := (fun u16 => [(a_this, .inr (7, [.ref (ts zm), .ref (ts zs), .ref a_this_sum, .ref a_this_base, .ref a_this_result, .int v_inverse])), (a_this_sum, .inl (ct 0, 8, .inl u16.2)), (a_this_base, .inl (ct 0, 8, .inl u1.1)), (a_this_result, .inl (ct 0, 8, .inl u16.1)), (a_p3, .inl (ct 0, 8, .inl f_p3)), (a_p2, .inl (ct 0, 8, .inl f_p2))])) (wr := [(a_p3, .inl (ct 0, 8, .inl f_p3)), (a_p2, .inl (ct 0, 8, .inl f_p2))]) X (fun sz => c_X7_multiply_rbr l D ct ts a_this a_this_sum a_this_result a_this_base v_inverse g44_10.1 g44_10.2 u1.1 zm _ _ xsm zs _ _ xss hzm hzs sz) cal_X7_multiply 0 rfl rfl mw_X7_power_taa_4 cwi_X7_multiply cws_X7_multiply rfl ⟨by decide, by decide⟩ rfl rfl (Nat.le_of_ble_eq_true rfl) ⟨by decide, by decide⟩ [0, 1, 3, 2] [4, 5] [2, 3, 5, 4, 0, 1] rfl (by decide) rfl (by decide) (by decide) (fun _ => rfl) (by decide) dX7_power_97 (q := 100) rfl (fun u16 hu16 => ?_)
            refine j_iconst (v := nI 1) X dX7_power_100 (by decide) (q := 101) rfl ?_
            refine j_istore (lv' := [(4, .int (nI 1)), (0, .ref a_this), (1, .ref (ts z1)), (2, .ref a_p2), (3, .ref a_p3), (5, .int (nI k34_5))]) X dX7_power_101 (by decide) rfl (q := 103) rfl ?_
            refine j_lv (lv' := [(0, .ref a_this), (1, .ref (ts z1)), (2, .ref a_p2), (3, .ref a_p3), (4, .int (nI 1)), (5, .int (nI k34_5))]) [1, 2, 3, 4, 0, 5] rfl ?_
            exact KJ81_14 ((nI 1, u16.2, u16.1)) (by subst hu16; first | rfl | (simp only [X7_power_m81, if_neg c15]; done) | (simp only [X7_power_m81, if_neg c15]; rfl))
        refine j_if_eq (tgt := 63) X dX7_power_44 (by decide) (q := 47) rfl (fun c11 => ?_) (fun c11 => ?_)
        · skip
          refine j_lv (lv' := [(0, .ref a_this), (1, .ref (ts z1)), (2, .ref a_p2), (3, .ref a_p3), (4, .int t34_5.2.2), (5, .int (nI k34_5))]) [0, 1, 2, 3, 4, 5] rfl ?_
          exact KJ44_10 ((t34_5.2.1, t34_5.1)) (by first | rfl | (simp only [X7_power_m44, if_pos c11]; done) | (simp only [X7_power_m44, if_pos c11]; rfl))
        · skip
          refine j_aload_n X 0 dX7_power_47 rfl (q := 48) rfl ?_
          refine j_aload_n X 0 dX7_power_48 rfl (q := 49) rfl ?_
          refine j_get (f := 4) X 0 inT7 rfl rfl (by decide) mw_X7_power_taa_3 rfl dX7_power_49 (q := 52) rfl ?_
          refine j_aload_n X 0 dX7_power_52 rfl (q := 53) rfl ?_
          refine j_get (f := 4) X 0 inT7 rfl rfl (by decide) mw_X7_power_taa_3 rfl dX7_power_53 (q := 56) rfl ?_
          refine j_aload_n X 0 dX7_power_56 rfl (q := 57) rfl ?_
          refine j_get (f := 4) X 0 inT7 rfl rfl (by decide) mw_X7_power_taa_3 rfl dX7_power_57 (q := 60) rfl ?_
          refine j_callVv (As := [.ref a_this_result, .ref a_this_result, .ref a_this_result]) (rest := []) (wn := (fun u12 => [(a_this, .inr (7, [.ref (ts zm), .ref (ts zs), .ref a_this_sum, .ref a_this_base, .ref a_this_result, .int v_inverse])), (a_this_sum, .inl (ct 0, 8, .inl u12.2)), (a_this_base, .inl (ct 0, 8, .inl u1.1)), (a_this_result, .inl (ct 0, 8, .inl u12.1)), (a_p3, .inl (ct 0, 8, .inl f_p3)), (a_p2, .inl (ct 0, 8, .inl f_p2))])) (wr := [(a_this_base, .inl (ct 0, 8, .inl u1.1)), (a_p3, .inl (ct 0, 8, .inl f_p3)), (a_p2, .inl (ct 0, 8, .inl f_p2))]) X (fun sz => c_X7_multiply_rrr l D ct ts a_this a_this_sum a_this_result a_this_base v_inverse t34_5.2.1 t34_5.1 zm _ _ xsm zs _ _ xss hzm hzs sz) cal_X7_multiply 0 rfl rfl mw_X7_power_taa_4 cwi_X7_multiply cws_X7_multiply rfl ⟨by decide, by decide⟩ rfl rfl (Nat.le_of_ble_eq_true rfl) ⟨by decide, by decide⟩ [0, 1, 3] [2, 4, 5] [3, 4, 0, 5, 1, 2] rfl (by decide) rfl (by decide) (by decide) (fun _ => rfl) (by decide) dX7_power_60 (q := 63) rfl (fun u12 hu12 => ?_)
          refine j_lv (lv' := [(0, .ref a_this), (1, .ref (ts z1)), (2, .ref a_p2), (3, .ref a_p3), (4, .int t34_5.2.2), (5, .int (nI k34_5))]) [0, 1, 2, 3, 4, 5] rfl ?_
          exact KJ44_10 ((u12.2, u12.1)) (by subst hu12; first | rfl | (simp only [X7_power_m44, if_neg c11]; done) | (simp only [X7_power_m44, if_neg c11]; rfl))
  exact LP34_5 256 0 ((u3.1, u3.2, nI 0)) (by omega) (itr_0 _ _).symm 
