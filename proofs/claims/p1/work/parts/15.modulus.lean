theorem dX7_isBelow_0 : decode cX7_isBelow 0 = .ok (.iconst 0, 1) := by decide +kernel
theorem dX7_isBelow_1 : decode cX7_isBelow 1 = .ok (.istore_n 2, 1) := by decide +kernel
theorem dX7_isBelow_2 : decode cX7_isBelow 2 = .ok (.iload_n 2, 1) := by decide +kernel
theorem dX7_isBelow_3 : decode cX7_isBelow 3 = .ok (.bipush 8, 2) := by decide +kernel
theorem dX7_isBelow_5 : decode cX7_isBelow 5 = .ok (.if_icmp .ge 44, 3) := by decide +kernel
theorem dX7_isBelow_8 : decode cX7_isBelow 8 = .ok (.aload_n 0, 1) := by decide +kernel
theorem dX7_isBelow_9 : decode cX7_isBelow 9 = .ok (.iload_n 2, 1) := by decide +kernel
theorem dX7_isBelow_10 : decode cX7_isBelow 10 = .ok (.iaload, 1) := by decide +kernel
theorem dX7_isBelow_11 : decode cX7_isBelow 11 = .ok (.aload_n 1, 1) := by decide +kernel
theorem dX7_isBelow_12 : decode cX7_isBelow 12 = .ok (.iload_n 2, 1) := by decide +kernel
theorem dX7_isBelow_13 : decode cX7_isBelow 13 = .ok (.iaload, 1) := by decide +kernel
theorem dX7_isBelow_14 : decode cX7_isBelow 14 = .ok (.if_icmp .eq 29, 3) := by decide +kernel
theorem dX7_isBelow_17 : decode cX7_isBelow 17 = .ok (.aload_n 0, 1) := by decide +kernel
theorem dX7_isBelow_18 : decode cX7_isBelow 18 = .ok (.iload_n 2, 1) := by decide +kernel
theorem dX7_isBelow_19 : decode cX7_isBelow 19 = .ok (.iaload, 1) := by decide +kernel
theorem dX7_isBelow_20 : decode cX7_isBelow 20 = .ok (.i2l, 1) := by decide +kernel
theorem dX7_isBelow_21 : decode cX7_isBelow 21 = .ok (.ldc2_w 29, 3) := by decide +kernel
theorem dX7_isBelow_24 : decode cX7_isBelow 24 = .ok (.land, 1) := by decide +kernel
theorem dX7_isBelow_25 : decode cX7_isBelow 25 = .ok (.aload_n 1, 1) := by decide +kernel
theorem dX7_isBelow_26 : decode cX7_isBelow 26 = .ok (.iload_n 2, 1) := by decide +kernel
theorem dX7_isBelow_27 : decode cX7_isBelow 27 = .ok (.iaload, 1) := by decide +kernel
theorem dX7_isBelow_28 : decode cX7_isBelow 28 = .ok (.i2l, 1) := by decide +kernel
theorem dX7_isBelow_29 : decode cX7_isBelow 29 = .ok (.ldc2_w 29, 3) := by decide +kernel
theorem dX7_isBelow_32 : decode cX7_isBelow 32 = .ok (.land, 1) := by decide +kernel
theorem dX7_isBelow_33 : decode cX7_isBelow 33 = .ok (.lcmp, 1) := by decide +kernel
theorem dX7_isBelow_34 : decode cX7_isBelow 34 = .ok (.ifCond .ge 7, 3) := by decide +kernel
theorem dX7_isBelow_37 : decode cX7_isBelow 37 = .ok (.iconst 1, 1) := by decide +kernel
theorem dX7_isBelow_38 : decode cX7_isBelow 38 = .ok (.goto 4, 3) := by decide +kernel
theorem dX7_isBelow_41 : decode cX7_isBelow 41 = .ok (.iconst 0, 1) := by decide +kernel
theorem dX7_isBelow_42 : decode cX7_isBelow 42 = .ok (.ireturn, 1) := by decide +kernel
theorem dX7_isBelow_43 : decode cX7_isBelow 43 = .ok (.iinc 2 1, 3) := by decide +kernel
theorem dX7_isBelow_46 : decode cX7_isBelow 46 = .ok (.goto (-44), 3) := by decide +kernel
theorem dX7_isBelow_49 : decode cX7_isBelow 49 = .ok (.iconst 0, 1) := by decide +kernel
theorem dX7_isBelow_50 : decode cX7_isBelow 50 = .ok (.ireturn, 1) := by decide +kernel
noncomputable def X7_isBelow_l2 (f_p1 : Nat → Int32) (f_p2 : Nat → Int32) (k2_1 : Nat) (t2_1 : Unit) : (Unit) ⊕ (Int32) :=
  if (f_p1 k2_1) = (f_p2 k2_1) then
  (.inl (()))
  else
  (if 0 ≤ (lg_cmp (((f_p1 k2_1).toInt64) &&& ((4294967295 : Int64))) (((f_p2 k2_1).toInt64) &&& ((4294967295 : Int64)))) then
  (.inr (nI 0))
  else
  (.inr (nI 1)))
noncomputable def f_X7_isBelow (f_p1 : Nat → Int32) (f_p2 : Nat → Int32) : Int32 :=
  match itx (X7_isBelow_l2 f_p1 f_p2) 8 0 (()) with
  | .inl t2_1 => (nI 0)
  | .inr r_2 => r_2
theorem cal_X7_isBelow : Cal yX7_isBelow cX7_isBelow 3 (some .boolean) 2 := ⟨tb_at 113 (by decide +kernel) (by decide +kernel), tb_at 563 (by decide +kernel) (by decide +kernel), by decide +kernel, by decide +kernel, by decide +kernel⟩
theorem cwt_X7_isBelow : Cond.static yX7_isBelow ∈ tb := tb_at 562 (by decide +kernel) (by decide +kernel)
theorem mw_X7_isBelow_t_0 : Cond.constantLong "GuardedTree$Modulus" 29 4294967295 ∈ tb := tb_at 556 (by decide +kernel) (by decide +kernel)
set_option maxHeartbeats 4000000 in
set_option maxRecDepth 100000 in
theorem c_X7_isBelow_t (l : Launch) (D : va_G) (ct : Nat → ClassId) (ts : Nat → Nat) (a_p1 : Nat) (f_p1 : Nat → Int32) (z2 : Nat) (tC2 : String) (tn2 : String) (xs2 : List Int32)   (hz2 : SXL[z2]? = some (tC2, tn2, 8, xs2)) (sz : Nat) : Met l yX7_isBelow (Cond.code yX7_isBelow cX7_isBelow 3 (some .boolean) :: tb) { frames := 0, cells := 0, slots := 0, locals := 0 } (PcG D ct SXL ts [.ref a_p1, .ref (ts z2)] [(a_p1, .inl (ct 0, 8, .inl f_p1))] sz) (va_Qi (fun (r : Int32) (u : Unit) => r = f_X7_isBelow f_p1 (fun j => xs2.getD j 0)) (fun u => BG D ct (va_A [(a_p1, .inl (ct 0, 8, .inl f_p1))] sz) [(a_p1, .inl (ct 0, 8, .inl f_p1))]) (va_A [(a_p1, .inl (ct 0, 8, .inl f_p1))] sz)) 0 0 (va_A [(a_p1, .inl (ct 0, 8, .inl f_p1))] sz) := by
  refine metJ (QcF := fun A => va_Qi (fun (r : Int32) (u : Unit) => r = f_X7_isBelow f_p1 (fun j => xs2.getD j 0)) (fun u => BG D ct A [(a_p1, .inl (ct 0, 8, .inl f_p1))]) A) (by decide) (Nat.le_of_ble_eq_true rfl) ?_
  intro p e s m below meth c A X hnm
  obtain ⟨Q, hQ⟩ : ∃ Q, Q = MQ below (va_Qi (fun (r : Int32) (u : Unit) => r = f_X7_isBelow f_p1 (fun j => xs2.getD j 0)) (fun u => BG D ct A [(a_p1, .inl (ct 0, 8, .inl f_p1))]) A) [.ref a_p1, .ref (ts z2)].toArray s 0 0 A := ⟨_, rfl⟩
  rw [← hQ]
  refine j_lve (lv' := [(0, .ref a_p1), (1, .ref (ts z2))]) rfl ?_
  refine j_iconst (v := nI 0) X dX7_isBelow_0 (by decide) (q := 1) rfl ?_
  refine j_istore_n (lv' := [(2, .int (nI 0)), (0, .ref a_p1), (1, .ref (ts z2))]) X dX7_isBelow_1 (by decide) rfl (q := 2) rfl ?_
  refine j_lv (lv' := [(0, .ref a_p1), (1, .ref (ts z2)), (2, .int (nI 0))]) [1, 2, 0] rfl ?_
  have LP2_1 : ∀ (r2_1 k2_1 : Nat) (t2_1 : Unit), k2_1 + r2_1 = 8 → itx (X7_isBelow_l2 f_p1 (fun j => xs2.getD j 0)) 8 0 (()) = itx (X7_isBelow_l2 f_p1 (fun j => xs2.getD j 0)) r2_1 k2_1 t2_1 → J p l e { frames := 0, cells := 0, slots := 0, locals := 0 } s m [.ref a_p1, .ref (ts z2)].toArray below meth c D A 3 Q 0 0 [(a_p1, .inl (ct 0, 8, .inl f_p1))] [(0, .ref a_p1), (1, .ref (ts z2)), (2, .int (nI k2_1))] [] 2 := by
    intro r2_1
    induction r2_1 with
    | zero =>
      intro k2_1 t2_1 hk_t2_1 e_t2_1 
      have hkk_t2_1 : 8 = k2_1 := by omega
      subst hkk_t2_1
      have hX_t2_1 := e_t2_1.trans (itx_0 _ _ _)
      refine j_iload_n X 2 dX7_isBelow_2 rfl (q := 3) rfl ?_
      refine j_bipush (v := nI 8) X dX7_isBelow_3 (by decide) (q := 5) rfl ?_
      refine j_icmp_ge (tgt := 49) X dX7_isBelow_5 (by decide) (q := 8) rfl (fun c2 => ?_) (fun c2 => ?_)
      · skip
        have c2 : 8 ≤ 8 := (nI_leI (by omega) (by omega)).mp c2
        refine j_iconst (v := nI 0) X dX7_isBelow_49 (by decide) (q := 50) rfl ?_
        rw [hQ]
        exact j_zret X (()) (by decide) dX7_isBelow_50 (by first | rfl | (simp only [f_X7_isBelow, hX_t2_1]; done) | (simp only [f_X7_isBelow, hX_t2_1]; rfl)) rfl
      · skip
        have c2 : ¬ 8 ≤ 8 := fun h => c2 ((nI_leI (by omega) (by omega)).mpr h)
        exfalso; omega
    | succ r2_1 ih2_1 =>
      intro k2_1 t2_1 hk_t2_1 e_t2_1 
      refine j_iload_n X 2 dX7_isBelow_2 rfl (q := 3) rfl ?_
      refine j_bipush (v := nI 8) X dX7_isBelow_3 (by decide) (q := 5) rfl ?_
      refine j_icmp_ge (tgt := 49) X dX7_isBelow_5 (by decide) (q := 8) rfl (fun c3 => ?_) (fun c3 => ?_)
      · skip
        have c3 : 8 ≤ k2_1 := (nI_leI (by omega) (by omega)).mp c3
        exfalso; omega
      · skip
        have c3 : ¬ 8 ≤ k2_1 := fun h => c3 ((nI_leI (by omega) (by omega)).mpr h)
        refine j_aload_n X 0 dX7_isBelow_8 rfl (q := 9) rfl ?_
        refine j_iload_n X 2 dX7_isBelow_9 rfl (q := 10) rfl ?_
        refine k_iald X 0 rfl (vp_in_nI (by omega) (by omega)) (nI_clamp (by omega)) dX7_isBelow_10 (q := 11) rfl ?_
        refine j_aload_n X 1 dX7_isBelow_11 rfl (q := 12) rfl ?_
        refine j_iload_n X 2 dX7_isBelow_12 rfl (q := 13) rfl ?_
        refine k_ti X z2 hz2 (vp_in_nI (by omega) (by omega)) (nI_clamp (by omega)) dX7_isBelow_13 (q := 14) rfl ?_
        refine j_icmp_eq (tgt := 43) X dX7_isBelow_14 (by decide) (q := 17) rfl (fun c4 => ?_) (fun c4 => ?_)
        · skip
          refine j_iinc (v := nI (k2_1 + 1)) (lv' := [(2, .int (nI (k2_1 + 1))), (0, .ref a_p1), (1, .ref (ts z2))]) X 2 dX7_isBelow_43 rfl (nI_inc _ 1) (by decide) rfl (q := 46) rfl ?_
          refine j_goto (tgt := 2) X dX7_isBelow_46 (by decide) ?_
          refine j_lv (lv' := [(0, .ref a_p1), (1, .ref (ts z2)), (2, .int (nI (k2_1 + 1)))]) [1, 2, 0] rfl ?_
          have hb : (X7_isBelow_l2 f_p1 (fun j => xs2.getD j 0)) k2_1 t2_1 = .inl (()) := (by first | rfl | (simp only [X7_isBelow_l2, if_pos c4]; done) | (simp only [X7_isBelow_l2, if_pos c4]; rfl))
          exact ih2_1 (k2_1 + 1) (()) (by omega) (e_t2_1.trans (itx_in hb)) 
        · skip
          refine j_aload_n X 0 dX7_isBelow_17 rfl (q := 18) rfl ?_
          refine j_iload_n X 2 dX7_isBelow_18 rfl (q := 19) rfl ?_
          refine k_iald X 0 rfl (vp_in_nI (by omega) (by omega)) (nI_clamp (by omega)) dX7_isBelow_19 (q := 20) rfl ?_
          refine j_i2l X dX7_isBelow_20 (q := 21) rfl ?_
          refine j_ldc2 X mw_X7_isBelow_t_0 dX7_isBelow_21 (q := 24) rfl ?_
          refine j_land X dX7_isBelow_24 (q := 25) rfl ?_
          refine j_aload_n X 1 dX7_isBelow_25 rfl (q := 26) rfl ?_
          refine j_iload_n X 2 dX7_isBelow_26 rfl (q := 27) rfl ?_
          refine k_ti X z2 hz2 (vp_in_nI (by omega) (by omega)) (nI_clamp (by omega)) dX7_isBelow_27 (q := 28) rfl ?_
          refine j_i2l X dX7_isBelow_28 (q := 29) rfl ?_
          refine j_ldc2 X mw_X7_isBelow_t_0 dX7_isBelow_29 (q := 32) rfl ?_
          refine j_land X dX7_isBelow_32 (q := 33) rfl ?_
          refine j_lcmp X dX7_isBelow_33 (q := 34) rfl ?_
          refine j_if_ge (tgt := 41) X dX7_isBelow_34 (by decide) (q := 37) rfl (fun c5 => ?_) (fun c5 => ?_)
          · skip
            refine j_iconst (v := nI 0) X dX7_isBelow_41 (by decide) (q := 42) rfl ?_
            have hX_6b : (X7_isBelow_l2 f_p1 (fun j => xs2.getD j 0)) k2_1 t2_1 = .inr (nI 0) := (by first | rfl | (simp only [X7_isBelow_l2, if_neg c4, if_pos c5]; done) | (simp only [X7_isBelow_l2, if_neg c4, if_pos c5]; rfl))
            have hX_6 := e_t2_1.trans (itx_out hX_6b)
            rw [hQ]
            exact j_zret X (()) (by decide) dX7_isBelow_42 (by first | rfl | (simp only [f_X7_isBelow, hX_6]; done) | (simp only [f_X7_isBelow, hX_6]; rfl)) rfl
          · skip
            refine j_iconst (v := nI 1) X dX7_isBelow_37 (by decide) (q := 38) rfl ?_
            refine j_goto (tgt := 42) X dX7_isBelow_38 (by decide) ?_
            have hX_7b : (X7_isBelow_l2 f_p1 (fun j => xs2.getD j 0)) k2_1 t2_1 = .inr (nI 1) := (by first | rfl | (simp only [X7_isBelow_l2, if_neg c4, if_neg c5]; done) | (simp only [X7_isBelow_l2, if_neg c4, if_neg c5]; rfl))
            have hX_7 := e_t2_1.trans (itx_out hX_7b)
            rw [hQ]
            exact j_zret X (()) (by decide) dX7_isBelow_42 (by first | rfl | (simp only [f_X7_isBelow, hX_7]; done) | (simp only [f_X7_isBelow, hX_7]; rfl)) rfl
  exact LP2_1 8 0 (()) (by omega) rfl 
theorem dX7_subtractModulus_0 : decode cX7_subtractModulus 0 = .ok (.lconst 0, 1) := by decide +kernel
theorem dX7_subtractModulus_1 : decode cX7_subtractModulus 1 = .ok (.lstore_n 2, 1) := by decide +kernel
theorem dX7_subtractModulus_2 : decode cX7_subtractModulus 2 = .ok (.bipush 7, 2) := by decide +kernel
theorem dX7_subtractModulus_4 : decode cX7_subtractModulus 4 = .ok (.istore 4, 2) := by decide +kernel
theorem dX7_subtractModulus_6 : decode cX7_subtractModulus 6 = .ok (.iload 4, 2) := by decide +kernel
theorem dX7_subtractModulus_8 : decode cX7_subtractModulus 8 = .ok (.ifCond .lt 48, 3) := by decide +kernel
theorem dX7_subtractModulus_11 : decode cX7_subtractModulus 11 = .ok (.aload_n 1, 1) := by decide +kernel
theorem dX7_subtractModulus_12 : decode cX7_subtractModulus 12 = .ok (.iload 4, 2) := by decide +kernel
theorem dX7_subtractModulus_14 : decode cX7_subtractModulus 14 = .ok (.iaload, 1) := by decide +kernel
theorem dX7_subtractModulus_15 : decode cX7_subtractModulus 15 = .ok (.i2l, 1) := by decide +kernel
theorem dX7_subtractModulus_16 : decode cX7_subtractModulus 16 = .ok (.ldc2_w 29, 3) := by decide +kernel
theorem dX7_subtractModulus_19 : decode cX7_subtractModulus 19 = .ok (.land, 1) := by decide +kernel
theorem dX7_subtractModulus_20 : decode cX7_subtractModulus 20 = .ok (.aload_n 0, 1) := by decide +kernel
theorem dX7_subtractModulus_21 : decode cX7_subtractModulus 21 = .ok (.getfield 19, 3) := by decide +kernel
theorem dX7_subtractModulus_24 : decode cX7_subtractModulus 24 = .ok (.iload 4, 2) := by decide +kernel
theorem dX7_subtractModulus_26 : decode cX7_subtractModulus 26 = .ok (.iaload, 1) := by decide +kernel
theorem dX7_subtractModulus_27 : decode cX7_subtractModulus 27 = .ok (.i2l, 1) := by decide +kernel
theorem dX7_subtractModulus_28 : decode cX7_subtractModulus 28 = .ok (.ldc2_w 29, 3) := by decide +kernel
theorem dX7_subtractModulus_31 : decode cX7_subtractModulus 31 = .ok (.land, 1) := by decide +kernel
theorem dX7_subtractModulus_32 : decode cX7_subtractModulus 32 = .ok (.lsub, 1) := by decide +kernel
theorem dX7_subtractModulus_33 : decode cX7_subtractModulus 33 = .ok (.lload_n 2, 1) := by decide +kernel
theorem dX7_subtractModulus_34 : decode cX7_subtractModulus 34 = .ok (.ladd, 1) := by decide +kernel
theorem dX7_subtractModulus_35 : decode cX7_subtractModulus 35 = .ok (.lstore 5, 2) := by decide +kernel
theorem dX7_subtractModulus_37 : decode cX7_subtractModulus 37 = .ok (.aload_n 1, 1) := by decide +kernel
theorem dX7_subtractModulus_38 : decode cX7_subtractModulus 38 = .ok (.iload 4, 2) := by decide +kernel
theorem dX7_subtractModulus_40 : decode cX7_subtractModulus 40 = .ok (.lload 5, 2) := by decide +kernel
theorem dX7_subtractModulus_42 : decode cX7_subtractModulus 42 = .ok (.l2i, 1) := by decide +kernel
theorem dX7_subtractModulus_43 : decode cX7_subtractModulus 43 = .ok (.iastore, 1) := by decide +kernel
theorem dX7_subtractModulus_44 : decode cX7_subtractModulus 44 = .ok (.lload 5, 2) := by decide +kernel
theorem dX7_subtractModulus_46 : decode cX7_subtractModulus 46 = .ok (.bipush 32, 2) := by decide +kernel
theorem dX7_subtractModulus_48 : decode cX7_subtractModulus 48 = .ok (.lshr, 1) := by decide +kernel
theorem dX7_subtractModulus_49 : decode cX7_subtractModulus 49 = .ok (.lstore_n 2, 1) := by decide +kernel
theorem dX7_subtractModulus_50 : decode cX7_subtractModulus 50 = .ok (.iinc 4 (-1), 3) := by decide +kernel
theorem dX7_subtractModulus_53 : decode cX7_subtractModulus 53 = .ok (.goto (-47), 3) := by decide +kernel
theorem dX7_subtractModulus_56 : decode cX7_subtractModulus 56 = .ok (.return_, 1) := by decide +kernel
noncomputable def X7_subtractModulus_l6 (xsm : List Int32) (r6_2 : Nat) (t6_2 : (Nat → Int32) × (Int64)) : (Nat → Int32) × (Int64) :=
  let y5 := ((((t6_2.1 r6_2).toInt64) &&& ((4294967295 : Int64))) - (((xsm.getD r6_2 0).toInt64) &&& ((4294967295 : Int64)))) + t6_2.2
  let y6 := y5 >>> ((nI 32).toInt64 &&& 63)
  (upd t6_2.1 r6_2 y5.toInt32, y6)
noncomputable def f_X7_subtractModulus (f_p1 : Nat → Int32) (xsm : List Int32) : (Nat → Int32) :=
  let y1 := (0 : Int64)
  let t6_2 := itd (X7_subtractModulus_l6 xsm) 8 ((f_p1, y1))
  t6_2.1
theorem cal_X7_subtractModulus : Cal yX7_subtractModulus cX7_subtractModulus 7 none 1 := ⟨tb_at 113 (by decide +kernel) (by decide +kernel), tb_at 567 (by decide +kernel) (by decide +kernel), by decide +kernel, by decide +kernel, by decide +kernel⟩
theorem cwi_X7_subtractModulus : Cond.instanceMethod yX7_subtractModulus ∈ tb := tb_at 566 (by decide +kernel) (by decide +kernel)
theorem cws_X7_subtractModulus : Cond.selects yX7_subtractModulus.cls yX7_subtractModulus yX7_subtractModulus ∈ tb := tb_at 5 (by decide +kernel) (by decide +kernel)
theorem mw_X7_subtractModulus_s_0 : Cond.constantLong "GuardedTree$Modulus" 29 4294967295 ∈ tb := tb_at 556 (by decide +kernel) (by decide +kernel)
theorem mw_X7_subtractModulus_s_1 : Cond.fieldLink "GuardedTree$Modulus" 19 "GuardedTree$Modulus" "modulus" "[I" ∈ tb := tb_at 184 (by decide +kernel) (by decide +kernel)
set_option maxHeartbeats 4000000 in
set_option maxRecDepth 100000 in
theorem c_X7_subtractModulus_s (l : Launch) (D : va_G) (ct : Nat → ClassId) (ts : Nat → Nat) (a_this_sum a_this a_this_base a_this_result : Nat) (v_inverse : Int32) (f_sum : Nat → Int32) (zm : Nat) (tCm : String) (tnm : String) (xsm : List Int32) (zs : Nat) (tCs : String) (tns : String) (xss : List Int32)   (hzm : SXL[zm]? = some (tCm, tnm, 8, xsm)) (hzs : SXL[zs]? = some (tCs, tns, 8, xss)) (sz : Nat) : Met l yX7_subtractModulus (Cond.code yX7_subtractModulus cX7_subtractModulus 7 none :: tb) { frames := 0, cells := 0, slots := 0, locals := 0 } (PcG D ct SXL ts [.ref a_this, .ref a_this_sum] [(a_this_sum, .inl (ct 0, 8, .inl f_sum)), (a_this, .inr (7, [.ref (ts zm), .ref (ts zs), .ref a_this_sum, .ref a_this_base, .ref a_this_result, .int v_inverse]))] sz) (va_Qv (fun u : (Nat → Int32) => u = f_X7_subtractModulus f_sum xsm) (fun u => BG D ct (va_A [(a_this_sum, .inl (ct 0, 8, .inl f_sum)), (a_this, .inr (7, [.ref (ts zm), .ref (ts zs), .ref a_this_sum, .ref a_this_base, .ref a_this_result, .int v_inverse]))] sz) [(a_this_sum, .inl (ct 0, 8, .inl u)), (a_this, .inr (7, [.ref (ts zm), .ref (ts zs), .ref a_this_sum, .ref a_this_base, .ref a_this_result, .int v_inverse]))]) (va_A [(a_this_sum, .inl (ct 0, 8, .inl f_sum)), (a_this, .inr (7, [.ref (ts zm), .ref (ts zs), .ref a_this_sum, .ref a_this_base, .ref a_this_result, .int v_inverse]))] sz)) 0 0 (va_A [(a_this_sum, .inl (ct 0, 8, .inl f_sum)), (a_this, .inr (7, [.ref (ts zm), .ref (ts zs), .ref a_this_sum, .ref a_this_base, .ref a_this_result, .int v_inverse]))] sz) := by
  refine metJ (QcF := fun A => va_Qv (fun u : (Nat → Int32) => u = f_X7_subtractModulus f_sum xsm) (fun u => BG D ct A [(a_this_sum, .inl (ct 0, 8, .inl u)), (a_this, .inr (7, [.ref (ts zm), .ref (ts zs), .ref a_this_sum, .ref a_this_base, .ref a_this_result, .int v_inverse]))]) A) (by decide) (Nat.le_of_ble_eq_true rfl) ?_
  intro p e s m below meth c A X hnm
  obtain ⟨Q, hQ⟩ : ∃ Q, Q = MQ below (va_Qv (fun u : (Nat → Int32) => u = f_X7_subtractModulus f_sum xsm) (fun u => BG D ct A [(a_this_sum, .inl (ct 0, 8, .inl u)), (a_this, .inr (7, [.ref (ts zm), .ref (ts zs), .ref a_this_sum, .ref a_this_base, .ref a_this_result, .int v_inverse]))]) A) [.ref a_this, .ref a_this_sum].toArray s 0 0 A := ⟨_, rfl⟩
  rw [← hQ]
  refine j_lve (lv' := [(0, .ref a_this), (1, .ref a_this_sum)]) rfl ?_
  refine j_lconst (v := 0) X dX7_subtractModulus_0 (by decide) (q := 1) rfl ?_
  refine j_topl (fun y1 e_y1 => ?_)
  refine j_lstore_n (lv' := [(2, .long y1), (0, .ref a_this), (1, .ref a_this_sum)]) X dX7_subtractModulus_1 (by decide) rfl (q := 2) rfl ?_
  refine j_bipush (v := nI 7) X dX7_subtractModulus_2 (by decide) (q := 4) rfl ?_
  refine j_istore (lv' := [(4, .int (nI 7)), (2, .long y1), (0, .ref a_this), (1, .ref a_this_sum)]) X dX7_subtractModulus_4 (by decide) rfl (q := 6) rfl ?_
  refine j_lv (lv' := [(0, .ref a_this), (1, .ref a_this_sum), (2, .long y1), (4, .int (nI 7))]) [2, 3, 1, 0] rfl ?_
  have LP6_2 : ∀ (r6_2 : Nat) (t6_2 : (Nat → Int32) × (Int64)), r6_2 ≤ 8 → itd (X7_subtractModulus_l6 xsm) 8 ((f_sum, y1)) = itd (X7_subtractModulus_l6 xsm) r6_2 t6_2 → J p l e { frames := 0, cells := 0, slots := 0, locals := 0 } s m [.ref a_this, .ref a_this_sum].toArray below meth c D A 7 Q 0 0 [(a_this_sum, .inl (ct 0, 8, .inl t6_2.1)), (a_this, .inr (7, [.ref (ts zm), .ref (ts zs), .ref a_this_sum, .ref a_this_base, .ref a_this_result, .int v_inverse]))] [(0, .ref a_this), (1, .ref a_this_sum), (2, .long t6_2.2), (4, .int (dn r6_2))] [] 6 := by
    intro r6_2
    induction r6_2 with
    | zero =>
      intro t6_2 hk_t6_2 e0_t6_2 
      have e_t6_2 : t6_2 = itd (X7_subtractModulus_l6 xsm) 8 ((f_sum, y1)) := (e0_t6_2.trans (itd_0 _ _)).symm
      refine j_iload X 3 dX7_subtractModulus_6 rfl (q := 8) rfl ?_
      refine j_if_lt (tgt := 56) X dX7_subtractModulus_8 (by decide) (q := 11) rfl (fun c3 => ?_) (fun c3 => ?_)
      · skip
        rw [hQ]
        exact j_vret X t6_2.1 dX7_subtractModulus_56 (by subst e_y1; subst e_t6_2; rfl) rfl
      · skip
        exact absurd (show dn 0 < 0 by decide) c3
    | succ r6_2 ih6_2 =>
      intro t6_2 hk_t6_2 e_t6_2 
      rw [dn_s]
      refine j_iload X 3 dX7_subtractModulus_6 rfl (q := 8) rfl ?_
      refine j_if_lt (tgt := 56) X dX7_subtractModulus_8 (by decide) (q := 11) rfl (fun c4 => ?_) (fun c4 => ?_)
      · skip
        have c4 : r6_2 < 0 := (nI_ltI (by omega) (by omega)).mp c4
        exfalso; omega
      · skip
        have c4 : ¬ r6_2 < 0 := fun h => c4 ((nI_ltI (by omega) (by omega)).mpr h)
        refine j_aload_n X 1 dX7_subtractModulus_11 rfl (q := 12) rfl ?_
        refine j_iload X 3 dX7_subtractModulus_12 rfl (q := 14) rfl ?_
        refine k_iald X 0 rfl (vp_in_nI (by omega) (by omega)) (nI_clamp (by omega)) dX7_subtractModulus_14 (q := 15) rfl ?_
        refine j_i2l X dX7_subtractModulus_15 (q := 16) rfl ?_
        refine j_ldc2 X mw_X7_subtractModulus_s_0 dX7_subtractModulus_16 (q := 19) rfl ?_
        refine j_land X dX7_subtractModulus_19 (q := 20) rfl ?_
        refine j_aload_n X 0 dX7_subtractModulus_20 rfl (q := 21) rfl ?_
        refine j_get (f := 0) X 1 inT7 rfl rfl (by decide) mw_X7_subtractModulus_s_1 rfl dX7_subtractModulus_21 (q := 24) rfl ?_
        refine j_iload X 3 dX7_subtractModulus_24 rfl (q := 26) rfl ?_
        refine k_ti X zm hzm (vp_in_nI (by omega) (by omega)) (nI_clamp (by omega)) dX7_subtractModulus_26 (q := 27) rfl ?_
        refine j_i2l X dX7_subtractModulus_27 (q := 28) rfl ?_
        refine j_ldc2 X mw_X7_subtractModulus_s_0 dX7_subtractModulus_28 (q := 31) rfl ?_
        refine j_land X dX7_subtractModulus_31 (q := 32) rfl ?_
        refine j_lsub X dX7_subtractModulus_32 (q := 33) rfl ?_
        refine j_lload_n X 2 dX7_subtractModulus_33 rfl (q := 34) rfl ?_
        refine j_ladd X dX7_subtractModulus_34 (q := 35) rfl ?_
        refine j_topl (fun y5 e_y5 => ?_)
        refine j_lstore (lv' := [(5, .long y5), (0, .ref a_this), (1, .ref a_this_sum), (2, .long t6_2.2), (4, .int (nI r6_2))]) X dX7_subtractModulus_35 (by decide) rfl (q := 37) rfl ?_
        refine j_aload_n X 2 dX7_subtractModulus_37 rfl (q := 38) rfl ?_
        refine j_iload X 4 dX7_subtractModulus_38 rfl (q := 40) rfl ?_
        refine j_lload X 0 dX7_subtractModulus_40 rfl (q := 42) rfl ?_
        refine j_l2i X dX7_subtractModulus_42 (q := 43) rfl ?_
        refine k_iast (ws2 := [(a_this_sum, .inl (ct 0, 8, .inl (upd t6_2.1 r6_2 y5.toInt32))), (a_this, .inr (7, [.ref (ts zm), .ref (ts zs), .ref a_this_sum, .ref a_this_base, .ref a_this_result, .int v_inverse]))]) X 0 rfl (vp_in_nI (by omega) (by omega)) (nI_clamp (by omega)) dX7_subtractModulus_43 rfl (q := 44) rfl ?_
        refine j_lload X 0 dX7_subtractModulus_44 rfl (q := 46) rfl ?_
        refine j_bipush (v := nI 32) X dX7_subtractModulus_46 (by decide) (q := 48) rfl ?_
        refine j_lshr X dX7_subtractModulus_48 (q := 49) rfl ?_
        refine j_topl (fun y6 e_y6 => ?_)
        refine j_lstore_n (lv' := [(2, .long y6), (5, .long y5), (0, .ref a_this), (1, .ref a_this_sum), (4, .int (nI r6_2))]) X dX7_subtractModulus_49 (by decide) rfl (q := 50) rfl ?_
        refine j_iinc (v := dn r6_2) (lv' := [(4, .int (dn r6_2)), (2, .long y6), (5, .long y5), (0, .ref a_this), (1, .ref a_this_sum)]) X 4 dX7_subtractModulus_50 rfl (dn_dec _) (by decide) rfl (q := 53) rfl ?_
        refine j_goto (tgt := 6) X dX7_subtractModulus_53 (by decide) ?_
        refine j_lv (lv' := [(0, .ref a_this), (1, .ref a_this_sum), (2, .long y6), (4, .int (dn r6_2))]) [3, 4, 1, 0] rfl ?_
        have hb : (X7_subtractModulus_l6 xsm) r6_2 t6_2 = (upd t6_2.1 r6_2 y5.toInt32, y6) := (by subst e_y5; subst e_y6; rfl)
        exact ih6_2 ((upd t6_2.1 r6_2 y5.toInt32, y6)) (by omega) (by rw [e_t6_2, itd_s, hb]) 
  exact LP6_2 8 ((f_sum, y1)) (by omega) rfl 
theorem dX7_addProduct_0 : decode cX7_addProduct 0 = .ok (.bipush 7, 2) := by decide +kernel
theorem dX7_addProduct_2 : decode cX7_addProduct 2 = .ok (.istore 6, 2) := by decide +kernel
theorem dX7_addProduct_4 : decode cX7_addProduct 4 = .ok (.aload_n 1, 1) := by decide +kernel
theorem dX7_addProduct_5 : decode cX7_addProduct 5 = .ok (.iload 6, 2) := by decide +kernel
theorem dX7_addProduct_7 : decode cX7_addProduct 7 = .ok (.iaload, 1) := by decide +kernel
theorem dX7_addProduct_8 : decode cX7_addProduct 8 = .ok (.i2l, 1) := by decide +kernel
theorem dX7_addProduct_9 : decode cX7_addProduct 9 = .ok (.ldc2_w 29, 3) := by decide +kernel
theorem dX7_addProduct_12 : decode cX7_addProduct 12 = .ok (.land, 1) := by decide +kernel
theorem dX7_addProduct_13 : decode cX7_addProduct 13 = .ok (.lload_n 2, 1) := by decide +kernel
theorem dX7_addProduct_14 : decode cX7_addProduct 14 = .ok (.lmul, 1) := by decide +kernel
theorem dX7_addProduct_15 : decode cX7_addProduct 15 = .ok (.aload_n 0, 1) := by decide +kernel
theorem dX7_addProduct_16 : decode cX7_addProduct 16 = .ok (.getfield 9, 3) := by decide +kernel
theorem dX7_addProduct_19 : decode cX7_addProduct 19 = .ok (.iload 6, 2) := by decide +kernel
theorem dX7_addProduct_21 : decode cX7_addProduct 21 = .ok (.iaload, 1) := by decide +kernel
theorem dX7_addProduct_22 : decode cX7_addProduct 22 = .ok (.i2l, 1) := by decide +kernel
theorem dX7_addProduct_23 : decode cX7_addProduct 23 = .ok (.ldc2_w 29, 3) := by decide +kernel
theorem dX7_addProduct_26 : decode cX7_addProduct 26 = .ok (.land, 1) := by decide +kernel
theorem dX7_addProduct_27 : decode cX7_addProduct 27 = .ok (.ladd, 1) := by decide +kernel
theorem dX7_addProduct_28 : decode cX7_addProduct 28 = .ok (.lstore 7, 2) := by decide +kernel
theorem dX7_addProduct_30 : decode cX7_addProduct 30 = .ok (.lload 7, 2) := by decide +kernel
theorem dX7_addProduct_32 : decode cX7_addProduct 32 = .ok (.l2i, 1) := by decide +kernel
theorem dX7_addProduct_33 : decode cX7_addProduct 33 = .ok (.aload_n 0, 1) := by decide +kernel
theorem dX7_addProduct_34 : decode cX7_addProduct 34 = .ok (.getfield 25, 3) := by decide +kernel
theorem dX7_addProduct_37 : decode cX7_addProduct 37 = .ok (.imul, 1) := by decide +kernel
theorem dX7_addProduct_38 : decode cX7_addProduct 38 = .ok (.i2l, 1) := by decide +kernel
theorem dX7_addProduct_39 : decode cX7_addProduct 39 = .ok (.ldc2_w 29, 3) := by decide +kernel
theorem dX7_addProduct_42 : decode cX7_addProduct 42 = .ok (.land, 1) := by decide +kernel
theorem dX7_addProduct_43 : decode cX7_addProduct 43 = .ok (.lstore 9, 2) := by decide +kernel
theorem dX7_addProduct_45 : decode cX7_addProduct 45 = .ok (.aload_n 0, 1) := by decide +kernel
theorem dX7_addProduct_46 : decode cX7_addProduct 46 = .ok (.getfield 19, 3) := by decide +kernel
theorem dX7_addProduct_49 : decode cX7_addProduct 49 = .ok (.iload 6, 2) := by decide +kernel
theorem dX7_addProduct_51 : decode cX7_addProduct 51 = .ok (.iaload, 1) := by decide +kernel
theorem dX7_addProduct_52 : decode cX7_addProduct 52 = .ok (.i2l, 1) := by decide +kernel
theorem dX7_addProduct_53 : decode cX7_addProduct 53 = .ok (.ldc2_w 29, 3) := by decide +kernel
theorem dX7_addProduct_56 : decode cX7_addProduct 56 = .ok (.land, 1) := by decide +kernel
theorem dX7_addProduct_57 : decode cX7_addProduct 57 = .ok (.lload 9, 2) := by decide +kernel
theorem dX7_addProduct_59 : decode cX7_addProduct 59 = .ok (.lmul, 1) := by decide +kernel
theorem dX7_addProduct_60 : decode cX7_addProduct 60 = .ok (.lload 7, 2) := by decide +kernel
theorem dX7_addProduct_62 : decode cX7_addProduct 62 = .ok (.ldc2_w 29, 3) := by decide +kernel
theorem dX7_addProduct_65 : decode cX7_addProduct 65 = .ok (.land, 1) := by decide +kernel
theorem dX7_addProduct_66 : decode cX7_addProduct 66 = .ok (.ladd, 1) := by decide +kernel
theorem dX7_addProduct_67 : decode cX7_addProduct 67 = .ok (.bipush 32, 2) := by decide +kernel
theorem dX7_addProduct_69 : decode cX7_addProduct 69 = .ok (.lushr, 1) := by decide +kernel
theorem dX7_addProduct_70 : decode cX7_addProduct 70 = .ok (.lstore 11, 2) := by decide +kernel
theorem dX7_addProduct_72 : decode cX7_addProduct 72 = .ok (.lload 7, 2) := by decide +kernel
theorem dX7_addProduct_74 : decode cX7_addProduct 74 = .ok (.bipush 32, 2) := by decide +kernel
theorem dX7_addProduct_76 : decode cX7_addProduct 76 = .ok (.lushr, 1) := by decide +kernel
theorem dX7_addProduct_77 : decode cX7_addProduct 77 = .ok (.lstore 7, 2) := by decide +kernel
theorem dX7_addProduct_79 : decode cX7_addProduct 79 = .ok (.iload 6, 2) := by decide +kernel
theorem dX7_addProduct_81 : decode cX7_addProduct 81 = .ok (.iconst 1, 1) := by decide +kernel
theorem dX7_addProduct_82 : decode cX7_addProduct 82 = .ok (.isub, 1) := by decide +kernel
theorem dX7_addProduct_83 : decode cX7_addProduct 83 = .ok (.istore 13, 2) := by decide +kernel
theorem dX7_addProduct_85 : decode cX7_addProduct 85 = .ok (.iload 13, 2) := by decide +kernel
theorem dX7_addProduct_87 : decode cX7_addProduct 87 = .ok (.ifCond .lt 91, 3) := by decide +kernel
theorem dX7_addProduct_90 : decode cX7_addProduct 90 = .ok (.lload 7, 2) := by decide +kernel
theorem dX7_addProduct_92 : decode cX7_addProduct 92 = .ok (.aload_n 1, 1) := by decide +kernel
theorem dX7_addProduct_93 : decode cX7_addProduct 93 = .ok (.iload 13, 2) := by decide +kernel
theorem dX7_addProduct_95 : decode cX7_addProduct 95 = .ok (.iaload, 1) := by decide +kernel
theorem dX7_addProduct_96 : decode cX7_addProduct 96 = .ok (.i2l, 1) := by decide +kernel
theorem dX7_addProduct_97 : decode cX7_addProduct 97 = .ok (.ldc2_w 29, 3) := by decide +kernel
theorem dX7_addProduct_100 : decode cX7_addProduct 100 = .ok (.land, 1) := by decide +kernel
theorem dX7_addProduct_101 : decode cX7_addProduct 101 = .ok (.lload_n 2, 1) := by decide +kernel
theorem dX7_addProduct_102 : decode cX7_addProduct 102 = .ok (.lmul, 1) := by decide +kernel
theorem dX7_addProduct_103 : decode cX7_addProduct 103 = .ok (.aload_n 0, 1) := by decide +kernel
theorem dX7_addProduct_104 : decode cX7_addProduct 104 = .ok (.getfield 9, 3) := by decide +kernel
theorem dX7_addProduct_107 : decode cX7_addProduct 107 = .ok (.iload 13, 2) := by decide +kernel
theorem dX7_addProduct_109 : decode cX7_addProduct 109 = .ok (.iaload, 1) := by decide +kernel
theorem dX7_addProduct_110 : decode cX7_addProduct 110 = .ok (.i2l, 1) := by decide +kernel
theorem dX7_addProduct_111 : decode cX7_addProduct 111 = .ok (.ldc2_w 29, 3) := by decide +kernel
theorem dX7_addProduct_114 : decode cX7_addProduct 114 = .ok (.land, 1) := by decide +kernel
theorem dX7_addProduct_115 : decode cX7_addProduct 115 = .ok (.ladd, 1) := by decide +kernel
theorem dX7_addProduct_116 : decode cX7_addProduct 116 = .ok (.ladd, 1) := by decide +kernel
theorem dX7_addProduct_117 : decode cX7_addProduct 117 = .ok (.lstore 7, 2) := by decide +kernel
theorem dX7_addProduct_119 : decode cX7_addProduct 119 = .ok (.lload 11, 2) := by decide +kernel
theorem dX7_addProduct_121 : decode cX7_addProduct 121 = .ok (.aload_n 0, 1) := by decide +kernel
theorem dX7_addProduct_122 : decode cX7_addProduct 122 = .ok (.getfield 19, 3) := by decide +kernel
theorem dX7_addProduct_125 : decode cX7_addProduct 125 = .ok (.iload 13, 2) := by decide +kernel
theorem dX7_addProduct_127 : decode cX7_addProduct 127 = .ok (.iaload, 1) := by decide +kernel
theorem dX7_addProduct_128 : decode cX7_addProduct 128 = .ok (.i2l, 1) := by decide +kernel
theorem dX7_addProduct_129 : decode cX7_addProduct 129 = .ok (.ldc2_w 29, 3) := by decide +kernel
theorem dX7_addProduct_132 : decode cX7_addProduct 132 = .ok (.land, 1) := by decide +kernel
theorem dX7_addProduct_133 : decode cX7_addProduct 133 = .ok (.lload 9, 2) := by decide +kernel
theorem dX7_addProduct_135 : decode cX7_addProduct 135 = .ok (.lmul, 1) := by decide +kernel
theorem dX7_addProduct_136 : decode cX7_addProduct 136 = .ok (.lload 7, 2) := by decide +kernel
theorem dX7_addProduct_138 : decode cX7_addProduct 138 = .ok (.ldc2_w 29, 3) := by decide +kernel
theorem dX7_addProduct_141 : decode cX7_addProduct 141 = .ok (.land, 1) := by decide +kernel
theorem dX7_addProduct_142 : decode cX7_addProduct 142 = .ok (.ladd, 1) := by decide +kernel
theorem dX7_addProduct_143 : decode cX7_addProduct 143 = .ok (.ladd, 1) := by decide +kernel
theorem dX7_addProduct_144 : decode cX7_addProduct 144 = .ok (.lstore 11, 2) := by decide +kernel
theorem dX7_addProduct_146 : decode cX7_addProduct 146 = .ok (.aload_n 0, 1) := by decide +kernel
theorem dX7_addProduct_147 : decode cX7_addProduct 147 = .ok (.getfield 9, 3) := by decide +kernel
theorem dX7_addProduct_150 : decode cX7_addProduct 150 = .ok (.iload 13, 2) := by decide +kernel
theorem dX7_addProduct_152 : decode cX7_addProduct 152 = .ok (.iconst 1, 1) := by decide +kernel
theorem dX7_addProduct_153 : decode cX7_addProduct 153 = .ok (.iadd, 1) := by decide +kernel
theorem dX7_addProduct_154 : decode cX7_addProduct 154 = .ok (.lload 11, 2) := by decide +kernel
theorem dX7_addProduct_156 : decode cX7_addProduct 156 = .ok (.l2i, 1) := by decide +kernel
theorem dX7_addProduct_157 : decode cX7_addProduct 157 = .ok (.iastore, 1) := by decide +kernel
theorem dX7_addProduct_158 : decode cX7_addProduct 158 = .ok (.lload 7, 2) := by decide +kernel
theorem dX7_addProduct_160 : decode cX7_addProduct 160 = .ok (.bipush 32, 2) := by decide +kernel
theorem dX7_addProduct_162 : decode cX7_addProduct 162 = .ok (.lushr, 1) := by decide +kernel
theorem dX7_addProduct_163 : decode cX7_addProduct 163 = .ok (.lstore 7, 2) := by decide +kernel
theorem dX7_addProduct_165 : decode cX7_addProduct 165 = .ok (.lload 11, 2) := by decide +kernel
theorem dX7_addProduct_167 : decode cX7_addProduct 167 = .ok (.bipush 32, 2) := by decide +kernel
theorem dX7_addProduct_169 : decode cX7_addProduct 169 = .ok (.lushr, 1) := by decide +kernel
theorem dX7_addProduct_170 : decode cX7_addProduct 170 = .ok (.lstore 11, 2) := by decide +kernel
theorem dX7_addProduct_172 : decode cX7_addProduct 172 = .ok (.iinc 13 (-1), 3) := by decide +kernel
theorem dX7_addProduct_175 : decode cX7_addProduct 175 = .ok (.goto (-90), 3) := by decide +kernel
theorem dX7_addProduct_178 : decode cX7_addProduct 178 = .ok (.lload 4, 2) := by decide +kernel
theorem dX7_addProduct_180 : decode cX7_addProduct 180 = .ok (.lload 7, 2) := by decide +kernel
theorem dX7_addProduct_182 : decode cX7_addProduct 182 = .ok (.ladd, 1) := by decide +kernel
theorem dX7_addProduct_183 : decode cX7_addProduct 183 = .ok (.lload 11, 2) := by decide +kernel
theorem dX7_addProduct_185 : decode cX7_addProduct 185 = .ok (.ladd, 1) := by decide +kernel
theorem dX7_addProduct_186 : decode cX7_addProduct 186 = .ok (.lstore 13, 2) := by decide +kernel
theorem dX7_addProduct_188 : decode cX7_addProduct 188 = .ok (.aload_n 0, 1) := by decide +kernel
theorem dX7_addProduct_189 : decode cX7_addProduct 189 = .ok (.getfield 9, 3) := by decide +kernel
theorem dX7_addProduct_192 : decode cX7_addProduct 192 = .ok (.iconst 0, 1) := by decide +kernel
theorem dX7_addProduct_193 : decode cX7_addProduct 193 = .ok (.lload 13, 2) := by decide +kernel
theorem dX7_addProduct_195 : decode cX7_addProduct 195 = .ok (.l2i, 1) := by decide +kernel
theorem dX7_addProduct_196 : decode cX7_addProduct 196 = .ok (.iastore, 1) := by decide +kernel
theorem dX7_addProduct_197 : decode cX7_addProduct 197 = .ok (.lload 13, 2) := by decide +kernel
theorem dX7_addProduct_199 : decode cX7_addProduct 199 = .ok (.bipush 32, 2) := by decide +kernel
theorem dX7_addProduct_201 : decode cX7_addProduct 201 = .ok (.lushr, 1) := by decide +kernel
theorem dX7_addProduct_202 : decode cX7_addProduct 202 = .ok (.lreturn, 1) := by decide +kernel
noncomputable def X7_addProduct_l85 (x2 : Int64) (y2 : Int64) (f_p1 : Nat → Int32) (xsm : List Int32) (r85_6 : Nat) (t85_6 : (Nat → Int32) × (Int64) × (Int64)) : (Nat → Int32) × (Int64) × (Int64) :=
  let y10 := t85_6.2.2 + (((((f_p1 r85_6).toInt64) &&& ((4294967295 : Int64))) * x2) + (((t85_6.1 r85_6).toInt64) &&& ((4294967295 : Int64))))
  let y11 := t85_6.2.1 + (((((xsm.getD r85_6 0).toInt64) &&& ((4294967295 : Int64))) * y2) + (y10 &&& ((4294967295 : Int64))))
  let y12 := (y10.toUInt64 >>> ((nI 32).toInt64.toUInt64 &&& Int64.toUInt64 63)).toInt64
  let y13 := (y11.toUInt64 >>> ((nI 32).toInt64.toUInt64 &&& Int64.toUInt64 63)).toInt64
  (upd t85_6.1 (r85_6 + 1) y11.toInt32, y13, y12)
noncomputable def f_X7_addProduct (v_inverse : Int32) (f_p1 : Nat → Int32) (f_sum : Nat → Int32) (x2 : Int64) (x3 : Int64) (xsm : List Int32) : Int64 × (Nat → Int32) :=
  let y1 := ((((f_p1 7).toInt64) &&& ((4294967295 : Int64))) * x2) + (((f_sum 7).toInt64) &&& ((4294967295 : Int64)))
  let y2 := ((y1.toInt32 * v_inverse).toInt64) &&& ((4294967295 : Int64))
  let y3 := ((((((xsm.getD 7 0).toInt64) &&& ((4294967295 : Int64))) * y2) + (y1 &&& ((4294967295 : Int64)))).toUInt64 >>> ((nI 32).toInt64.toUInt64 &&& Int64.toUInt64 63)).toInt64
  let y4 := (y1.toUInt64 >>> ((nI 32).toInt64.toUInt64 &&& Int64.toUInt64 63)).toInt64
  let n5 := 7 - 1
  let t85_6 := itd (X7_addProduct_l85 x2 y2 f_p1 xsm) 7 ((f_sum, y3, y4))
  let y8 := (x3 + t85_6.2.2) + t85_6.2.1
  ((y8.toUInt64 >>> ((nI 32).toInt64.toUInt64 &&& Int64.toUInt64 63)).toInt64, upd t85_6.1 0 y8.toInt32)
theorem cal_X7_addProduct : Cal yX7_addProduct cX7_addProduct 15 (some .long) 3 := ⟨tb_at 113 (by decide +kernel) (by decide +kernel), tb_at 560 (by decide +kernel) (by decide +kernel), by decide +kernel, by decide +kernel, by decide +kernel⟩
theorem cwi_X7_addProduct : Cond.instanceMethod yX7_addProduct ∈ tb := tb_at 559 (by decide +kernel) (by decide +kernel)
theorem cws_X7_addProduct : Cond.selects yX7_addProduct.cls yX7_addProduct yX7_addProduct ∈ tb := tb_at 4 (by decide +kernel) (by decide +kernel)
theorem mw_X7_addProduct_t_0 : Cond.constantLong "GuardedTree$Modulus" 29 4294967295 ∈ tb := tb_at 556 (by decide +kernel) (by decide +kernel)
theorem mw_X7_addProduct_t_1 : Cond.fieldLink "GuardedTree$Modulus" 9 "GuardedTree$Modulus" "sum" "[I" ∈ tb := tb_at 186 (by decide +kernel) (by decide +kernel)
theorem mw_X7_addProduct_t_2 : Cond.fieldLink "GuardedTree$Modulus" 25 "GuardedTree$Modulus" "inverse" "I" ∈ tb := tb_at 189 (by decide +kernel) (by decide +kernel)
theorem mw_X7_addProduct_t_3 : Cond.fieldLink "GuardedTree$Modulus" 19 "GuardedTree$Modulus" "modulus" "[I" ∈ tb := tb_at 184 (by decide +kernel) (by decide +kernel)
set_option maxHeartbeats 4000000 in
set_option maxRecDepth 100000 in
theorem c_X7_addProduct_t (l : Launch) (D : va_G) (ct : Nat → ClassId) (ts : Nat → Nat) (a_this a_this_sum a_this_base a_this_result : Nat) (v_inverse : Int32) (f_sum : Nat → Int32) (x2 : Int64) (x3 : Int64) (z1 : Nat) (tC1 : String) (tn1 : String) (xs1 : List Int32) (zm : Nat) (tCm : String) (tnm : String) (xsm : List Int32) (zs : Nat) (tCs : String) (tns : String) (xss : List Int32)   (hz1 : SXL[z1]? = some (tC1, tn1, 8, xs1)) (hzm : SXL[zm]? = some (tCm, tnm, 8, xsm)) (hzs : SXL[zs]? = some (tCs, tns, 8, xss)) (sz : Nat) : Met l yX7_addProduct (Cond.code yX7_addProduct cX7_addProduct 15 (some .long) :: tb) { frames := 0, cells := 0, slots := 0, locals := 0 } (PcG D ct SXL ts [.ref a_this, .ref (ts z1), .long x2, .long x3] [(a_this, .inr (7, [.ref (ts zm), .ref (ts zs), .ref a_this_sum, .ref a_this_base, .ref a_this_result, .int v_inverse])), (a_this_sum, .inl (ct 0, 8, .inl f_sum))] sz) (va_Ql (fun (r : Int64) (u : (Nat → Int32)) => (r, u) = f_X7_addProduct v_inverse (fun j => xs1.getD j 0) f_sum x2 x3 xsm) (fun u => BG D ct (va_A [(a_this, .inr (7, [.ref (ts zm), .ref (ts zs), .ref a_this_sum, .ref a_this_base, .ref a_this_result, .int v_inverse])), (a_this_sum, .inl (ct 0, 8, .inl f_sum))] sz) [(a_this, .inr (7, [.ref (ts zm), .ref (ts zs), .ref a_this_sum, .ref a_this_base, .ref a_this_result, .int v_inverse])), (a_this_sum, .inl (ct 0, 8, .inl u))]) (va_A [(a_this, .inr (7, [.ref (ts zm), .ref (ts zs), .ref a_this_sum, .ref a_this_base, .ref a_this_result, .int v_inverse])), (a_this_sum, .inl (ct 0, 8, .inl f_sum))] sz)) 0 0 (va_A [(a_this, .inr (7, [.ref (ts zm), .ref (ts zs), .ref a_this_sum, .ref a_this_base, .ref a_this_result, .int v_inverse])), (a_this_sum, .inl (ct 0, 8, .inl f_sum))] sz) := by
  refine metJ (QcF := fun A => va_Ql (fun (r : Int64) (u : (Nat → Int32)) => (r, u) = f_X7_addProduct v_inverse (fun j => xs1.getD j 0) f_sum x2 x3 xsm) (fun u => BG D ct A [(a_this, .inr (7, [.ref (ts zm), .ref (ts zs), .ref a_this_sum, .ref a_this_base, .ref a_this_result, .int v_inverse])), (a_this_sum, .inl (ct 0, 8, .inl u))]) A) (by decide) (Nat.le_of_ble_eq_true rfl) ?_
  intro p e s m below meth c A X hnm
  obtain ⟨Q, hQ⟩ : ∃ Q, Q = MQ below (va_Ql (fun (r : Int64) (u : (Nat → Int32)) => (r, u) = f_X7_addProduct v_inverse (fun j => xs1.getD j 0) f_sum x2 x3 xsm) (fun u => BG D ct A [(a_this, .inr (7, [.ref (ts zm), .ref (ts zs), .ref a_this_sum, .ref a_this_base, .ref a_this_result, .int v_inverse])), (a_this_sum, .inl (ct 0, 8, .inl u))]) A) [.ref a_this, .ref (ts z1), .long x2, .long x3].toArray s 0 0 A := ⟨_, rfl⟩
  rw [← hQ]
  refine j_lve (lv' := [(0, .ref a_this), (1, .ref (ts z1)), (2, .long x2), (4, .long x3)]) rfl ?_
  refine j_bipush (v := nI 7) X dX7_addProduct_0 (by decide) (q := 2) rfl ?_
  refine j_istore (lv' := [(6, .int (nI 7)), (0, .ref a_this), (1, .ref (ts z1)), (2, .long x2), (4, .long x3)]) X dX7_addProduct_2 (by decide) rfl (q := 4) rfl ?_
  refine j_aload_n X 2 dX7_addProduct_4 rfl (q := 5) rfl ?_
  refine j_iload X 0 dX7_addProduct_5 rfl (q := 7) rfl ?_
  refine k_ti X z1 hz1 (vp_in_nI (by omega) (by omega)) (nI_clamp (by omega)) dX7_addProduct_7 (q := 8) rfl ?_
  refine j_i2l X dX7_addProduct_8 (q := 9) rfl ?_
  refine j_ldc2 X mw_X7_addProduct_t_0 dX7_addProduct_9 (q := 12) rfl ?_
  refine j_land X dX7_addProduct_12 (q := 13) rfl ?_
  refine j_lload_n X 3 dX7_addProduct_13 rfl (q := 14) rfl ?_
  refine j_lmul X dX7_addProduct_14 (q := 15) rfl ?_
  refine j_aload_n X 1 dX7_addProduct_15 rfl (q := 16) rfl ?_
  refine j_get (f := 2) X 0 inT7 rfl rfl (by decide) mw_X7_addProduct_t_1 rfl dX7_addProduct_16 (q := 19) rfl ?_
  refine j_iload X 0 dX7_addProduct_19 rfl (q := 21) rfl ?_
  refine k_iald X 1 rfl (vp_in_nI (by omega) (by omega)) (nI_clamp (by omega)) dX7_addProduct_21 (q := 22) rfl ?_
  refine j_i2l X dX7_addProduct_22 (q := 23) rfl ?_
  refine j_ldc2 X mw_X7_addProduct_t_0 dX7_addProduct_23 (q := 26) rfl ?_
  refine j_land X dX7_addProduct_26 (q := 27) rfl ?_
  refine j_ladd X dX7_addProduct_27 (q := 28) rfl ?_
  refine j_topl (fun y1 e_y1 => ?_)
  refine j_lstore (lv' := [(7, .long y1), (6, .int (nI 7)), (0, .ref a_this), (1, .ref (ts z1)), (2, .long x2), (4, .long x3)]) X dX7_addProduct_28 (by decide) rfl (q := 30) rfl ?_
  refine j_lload X 0 dX7_addProduct_30 rfl (q := 32) rfl ?_
  refine j_l2i X dX7_addProduct_32 (q := 33) rfl ?_
  refine j_aload_n X 2 dX7_addProduct_33 rfl (q := 34) rfl ?_
  refine j_get (f := 5) X 0 inT7 rfl rfl (by decide) mw_X7_addProduct_t_2 rfl dX7_addProduct_34 (q := 37) rfl ?_
  refine j_imul X dX7_addProduct_37 (q := 38) rfl ?_
  refine j_i2l X dX7_addProduct_38 (q := 39) rfl ?_
  refine j_ldc2 X mw_X7_addProduct_t_0 dX7_addProduct_39 (q := 42) rfl ?_
  refine j_land X dX7_addProduct_42 (q := 43) rfl ?_
  refine j_topl (fun y2 e_y2 => ?_)
  refine j_lstore (lv' := [(9, .long y2), (7, .long y1), (6, .int (nI 7)), (0, .ref a_this), (1, .ref (ts z1)), (2, .long x2), (4, .long x3)]) X dX7_addProduct_43 (by decide) rfl (q := 45) rfl ?_
  refine j_aload_n X 3 dX7_addProduct_45 rfl (q := 46) rfl ?_
  refine j_get (f := 0) X 0 inT7 rfl rfl (by decide) mw_X7_addProduct_t_3 rfl dX7_addProduct_46 (q := 49) rfl ?_
  refine j_iload X 2 dX7_addProduct_49 rfl (q := 51) rfl ?_
  refine k_ti X zm hzm (vp_in_nI (by omega) (by omega)) (nI_clamp (by omega)) dX7_addProduct_51 (q := 52) rfl ?_
  refine j_i2l X dX7_addProduct_52 (q := 53) rfl ?_
  refine j_ldc2 X mw_X7_addProduct_t_0 dX7_addProduct_53 (q := 56) rfl ?_
  refine j_land X dX7_addProduct_56 (q := 57) rfl ?_
  refine j_lload X 0 dX7_addProduct_57 rfl (q := 59) rfl ?_
  refine j_lmul X dX7_addProduct_59 (q := 60) rfl ?_
  refine j_lload X 1 dX7_addProduct_60 rfl (q := 62) rfl ?_
  refine j_ldc2 X mw_X7_addProduct_t_0 dX7_addProduct_62 (q := 65) rfl ?_
  refine j_land X dX7_addProduct_65 (q := 66) rfl ?_
  refine j_ladd X dX7_addProduct_66 (q := 67) rfl ?_
  refine j_bipush (v := nI 32) X dX7_addProduct_67 (by decide) (q := 69) rfl ?_
  refine j_lushr X dX7_addProduct_69 (q := 70) rfl ?_
  refine j_topl (fun y3 e_y3 => ?_)
  refine j_lstore (lv' := [(11, .long y3), (9, .long y2), (7, .long y1), (6, .int (nI 7)), (0, .ref a_this), (1, .ref (ts z1)), (2, .long x2), (4, .long x3)]) X dX7_addProduct_70 (by decide) rfl (q := 72) rfl ?_
  refine j_lload X 2 dX7_addProduct_72 rfl (q := 74) rfl ?_
  refine j_bipush (v := nI 32) X dX7_addProduct_74 (by decide) (q := 76) rfl ?_
  refine j_lushr X dX7_addProduct_76 (q := 77) rfl ?_
  refine j_topl (fun y4 e_y4 => ?_)
  refine j_lstore (lv' := [(7, .long y4), (11, .long y3), (9, .long y2), (6, .int (nI 7)), (0, .ref a_this), (1, .ref (ts z1)), (2, .long x2), (4, .long x3)]) X dX7_addProduct_77 (by decide) rfl (q := 79) rfl ?_
  refine j_iload X 3 dX7_addProduct_79 rfl (q := 81) rfl ?_
  refine j_iconst (v := nI 1) X dX7_addProduct_81 (by decide) (q := 82) rfl ?_
  refine j_isub X dX7_addProduct_82 (q := 83) rfl ?_
  refine j_eqi (pk_sub (by omega)) ?_
  refine j_topn (fun n5 e_n5 => ?_)
  refine j_istore (lv' := [(13, .int (nI n5)), (7, .long y4), (11, .long y3), (9, .long y2), (6, .int (nI 7)), (0, .ref a_this), (1, .ref (ts z1)), (2, .long x2), (4, .long x3)]) X dX7_addProduct_83 (by decide) rfl (q := 85) rfl ?_
  refine j_lv (lv' := [(0, .ref a_this), (1, .ref (ts z1)), (2, .long x2), (4, .long x3), (6, .int (nI 7)), (7, .long y4), (9, .long y2), (11, .long y3), (13, .int (nI n5))]) [5, 6, 7, 8, 4, 1, 3, 2, 0] rfl ?_
  have LP85_6 : ∀ (r85_6 : Nat) (t85_6 : (Nat → Int32) × (Int64) × (Int64)), r85_6 ≤ 7 → itd (X7_addProduct_l85 x2 y2 (fun j => xs1.getD j 0) xsm) 7 ((f_sum, y3, y4)) = itd (X7_addProduct_l85 x2 y2 (fun j => xs1.getD j 0) xsm) r85_6 t85_6 → J p l e { frames := 0, cells := 0, slots := 0, locals := 0 } s m [.ref a_this, .ref (ts z1), .long x2, .long x3].toArray below meth c D A 15 Q 0 0 [(a_this, .inr (7, [.ref (ts zm), .ref (ts zs), .ref a_this_sum, .ref a_this_base, .ref a_this_result, .int v_inverse])), (a_this_sum, .inl (ct 0, 8, .inl t85_6.1))] [(0, .ref a_this), (1, .ref (ts z1)), (2, .long x2), (4, .long x3), (6, .int (nI 7)), (7, .long t85_6.2.2), (9, .long y2), (11, .long t85_6.2.1), (13, .int (dn r85_6))] [] 85 := by
    intro r85_6
    induction r85_6 with
    | zero =>
      intro t85_6 hk_t85_6 e0_t85_6 
      have e_t85_6 : t85_6 = itd (X7_addProduct_l85 x2 y2 (fun j => xs1.getD j 0) xsm) 7 ((f_sum, y3, y4)) := (e0_t85_6.trans (itd_0 _ _)).symm
      refine j_iload X 8 dX7_addProduct_85 rfl (q := 87) rfl ?_
      refine j_if_lt (tgt := 178) X dX7_addProduct_87 (by decide) (q := 90) rfl (fun c7 => ?_) (fun c7 => ?_)
      · skip
        refine j_lload X 3 dX7_addProduct_178 rfl (q := 180) rfl ?_
        refine j_lload X 5 dX7_addProduct_180 rfl (q := 182) rfl ?_
        refine j_ladd X dX7_addProduct_182 (q := 183) rfl ?_
        refine j_lload X 7 dX7_addProduct_183 rfl (q := 185) rfl ?_
        refine j_ladd X dX7_addProduct_185 (q := 186) rfl ?_
        refine j_topl (fun y8 e_y8 => ?_)
        refine j_lstore (lv' := [(13, .long y8), (0, .ref a_this), (1, .ref (ts z1)), (2, .long x2), (4, .long x3), (6, .int (nI 7)), (7, .long t85_6.2.2), (9, .long y2), (11, .long t85_6.2.1)]) X dX7_addProduct_186 (by decide) rfl (q := 188) rfl ?_
        refine j_aload_n X 1 dX7_addProduct_188 rfl (q := 189) rfl ?_
        refine j_get (f := 2) X 0 inT7 rfl rfl (by decide) mw_X7_addProduct_t_1 rfl dX7_addProduct_189 (q := 192) rfl ?_
        refine j_iconst (v := nI 0) X dX7_addProduct_192 (by decide) (q := 193) rfl ?_
        refine j_lload X 0 dX7_addProduct_193 rfl (q := 195) rfl ?_
        refine j_l2i X dX7_addProduct_195 (q := 196) rfl ?_
        refine k_iast (ws2 := [(a_this, .inr (7, [.ref (ts zm), .ref (ts zs), .ref a_this_sum, .ref a_this_base, .ref a_this_result, .int v_inverse])), (a_this_sum, .inl (ct 0, 8, .inl (upd t85_6.1 0 y8.toInt32)))]) X 1 rfl (vp_in_nI (by omega) (by omega)) (nI_clamp (by omega)) dX7_addProduct_196 rfl (q := 197) rfl ?_
        refine j_lload X 0 dX7_addProduct_197 rfl (q := 199) rfl ?_
        refine j_bipush (v := nI 32) X dX7_addProduct_199 (by decide) (q := 201) rfl ?_
        refine j_lushr X dX7_addProduct_201 (q := 202) rfl ?_
        rw [hQ]
        exact j_lret X (upd t85_6.1 0 y8.toInt32) dX7_addProduct_202 (by subst e_y1; subst e_y2; subst e_y3; subst e_y4; subst e_n5; subst e_t85_6; subst e_y8; rfl) rfl
      · skip
        exact absurd (show dn 0 < 0 by decide) c7
    | succ r85_6 ih85_6 =>
      intro t85_6 hk_t85_6 e_t85_6 
      rw [dn_s]
      refine j_iload X 8 dX7_addProduct_85 rfl (q := 87) rfl ?_
      refine j_if_lt (tgt := 178) X dX7_addProduct_87 (by decide) (q := 90) rfl (fun c9 => ?_) (fun c9 => ?_)
      · skip
        have c9 : r85_6 < 0 := (nI_ltI (by omega) (by omega)).mp c9
        exfalso; omega
      · skip
        have c9 : ¬ r85_6 < 0 := fun h => c9 ((nI_ltI (by omega) (by omega)).mpr h)
        refine j_lload X 5 dX7_addProduct_90 rfl (q := 92) rfl ?_
        refine j_aload_n X 1 dX7_addProduct_92 rfl (q := 93) rfl ?_
        refine j_iload X 8 dX7_addProduct_93 rfl (q := 95) rfl ?_
        refine k_ti X z1 hz1 (vp_in_nI (by omega) (by omega)) (nI_clamp (by omega)) dX7_addProduct_95 (q := 96) rfl ?_
        refine j_i2l X dX7_addProduct_96 (q := 97) rfl ?_
        refine j_ldc2 X mw_X7_addProduct_t_0 dX7_addProduct_97 (q := 100) rfl ?_
        refine j_land X dX7_addProduct_100 (q := 101) rfl ?_
        refine j_lload_n X 2 dX7_addProduct_101 rfl (q := 102) rfl ?_
        refine j_lmul X dX7_addProduct_102 (q := 103) rfl ?_
        refine j_aload_n X 0 dX7_addProduct_103 rfl (q := 104) rfl ?_
        refine j_get (f := 2) X 0 inT7 rfl rfl (by decide) mw_X7_addProduct_t_1 rfl dX7_addProduct_104 (q := 107) rfl ?_
        refine j_iload X 8 dX7_addProduct_107 rfl (q := 109) rfl ?_
        refine k_iald X 1 rfl (vp_in_nI (by omega) (by omega)) (nI_clamp (by omega)) dX7_addProduct_109 (q := 110) rfl ?_
        refine j_i2l X dX7_addProduct_110 (q := 111) rfl ?_
        refine j_ldc2 X mw_X7_addProduct_t_0 dX7_addProduct_111 (q := 114) rfl ?_
        refine j_land X dX7_addProduct_114 (q := 115) rfl ?_
        refine j_ladd X dX7_addProduct_115 (q := 116) rfl ?_
        refine j_ladd X dX7_addProduct_116 (q := 117) rfl ?_
        refine j_topl (fun y10 e_y10 => ?_)
        refine j_lstore (lv' := [(7, .long y10), (0, .ref a_this), (1, .ref (ts z1)), (2, .long x2), (4, .long x3), (6, .int (nI 7)), (9, .long y2), (11, .long t85_6.2.1), (13, .int (nI r85_6))]) X dX7_addProduct_117 (by decide) rfl (q := 119) rfl ?_
        refine j_lload X 7 dX7_addProduct_119 rfl (q := 121) rfl ?_
        refine j_aload_n X 1 dX7_addProduct_121 rfl (q := 122) rfl ?_
        refine j_get (f := 0) X 0 inT7 rfl rfl (by decide) mw_X7_addProduct_t_3 rfl dX7_addProduct_122 (q := 125) rfl ?_
        refine j_iload X 8 dX7_addProduct_125 rfl (q := 127) rfl ?_
        refine k_ti X zm hzm (vp_in_nI (by omega) (by omega)) (nI_clamp (by omega)) dX7_addProduct_127 (q := 128) rfl ?_
        refine j_i2l X dX7_addProduct_128 (q := 129) rfl ?_
        refine j_ldc2 X mw_X7_addProduct_t_0 dX7_addProduct_129 (q := 132) rfl ?_
        refine j_land X dX7_addProduct_132 (q := 133) rfl ?_
        refine j_lload X 6 dX7_addProduct_133 rfl (q := 135) rfl ?_
        refine j_lmul X dX7_addProduct_135 (q := 136) rfl ?_
        refine j_lload X 0 dX7_addProduct_136 rfl (q := 138) rfl ?_
        refine j_ldc2 X mw_X7_addProduct_t_0 dX7_addProduct_138 (q := 141) rfl ?_
        refine j_land X dX7_addProduct_141 (q := 142) rfl ?_
        refine j_ladd X dX7_addProduct_142 (q := 143) rfl ?_
        refine j_ladd X dX7_addProduct_143 (q := 144) rfl ?_
        refine j_topl (fun y11 e_y11 => ?_)
        refine j_lstore (lv' := [(11, .long y11), (7, .long y10), (0, .ref a_this), (1, .ref (ts z1)), (2, .long x2), (4, .long x3), (6, .int (nI 7)), (9, .long y2), (13, .int (nI r85_6))]) X dX7_addProduct_144 (by decide) rfl (q := 146) rfl ?_
        refine j_aload_n X 2 dX7_addProduct_146 rfl (q := 147) rfl ?_
        refine j_get (f := 2) X 0 inT7 rfl rfl (by decide) mw_X7_addProduct_t_1 rfl dX7_addProduct_147 (q := 150) rfl ?_
        refine j_iload X 8 dX7_addProduct_150 rfl (q := 152) rfl ?_
        refine j_iconst (v := nI 1) X dX7_addProduct_152 (by decide) (q := 153) rfl ?_
        refine j_iadd X dX7_addProduct_153 (q := 154) rfl ?_
        refine j_eqi (nI_add _ _) ?_
        refine j_lload X 0 dX7_addProduct_154 rfl (q := 156) rfl ?_
        refine j_l2i X dX7_addProduct_156 (q := 157) rfl ?_
        refine k_iast (ws2 := [(a_this, .inr (7, [.ref (ts zm), .ref (ts zs), .ref a_this_sum, .ref a_this_base, .ref a_this_result, .int v_inverse])), (a_this_sum, .inl (ct 0, 8, .inl (upd t85_6.1 (r85_6 + 1) y11.toInt32)))]) X 1 rfl (vp_in_nI (by omega) (by omega)) (nI_clamp (by omega)) dX7_addProduct_157 rfl (q := 158) rfl ?_
        refine j_lload X 1 dX7_addProduct_158 rfl (q := 160) rfl ?_
        refine j_bipush (v := nI 32) X dX7_addProduct_160 (by decide) (q := 162) rfl ?_
        refine j_lushr X dX7_addProduct_162 (q := 163) rfl ?_
        refine j_topl (fun y12 e_y12 => ?_)
        refine j_lstore (lv' := [(7, .long y12), (11, .long y11), (0, .ref a_this), (1, .ref (ts z1)), (2, .long x2), (4, .long x3), (6, .int (nI 7)), (9, .long y2), (13, .int (nI r85_6))]) X dX7_addProduct_163 (by decide) rfl (q := 165) rfl ?_
        refine j_lload X 1 dX7_addProduct_165 rfl (q := 167) rfl ?_
        refine j_bipush (v := nI 32) X dX7_addProduct_167 (by decide) (q := 169) rfl ?_
        refine j_lushr X dX7_addProduct_169 (q := 170) rfl ?_
        refine j_topl (fun y13 e_y13 => ?_)
        refine j_lstore (lv' := [(11, .long y13), (7, .long y12), (0, .ref a_this), (1, .ref (ts z1)), (2, .long x2), (4, .long x3), (6, .int (nI 7)), (9, .long y2), (13, .int (nI r85_6))]) X dX7_addProduct_170 (by decide) rfl (q := 172) rfl ?_
        refine j_iinc (v := dn r85_6) (lv' := [(13, .int (dn r85_6)), (11, .long y13), (7, .long y12), (0, .ref a_this), (1, .ref (ts z1)), (2, .long x2), (4, .long x3), (6, .int (nI 7)), (9, .long y2)]) X 8 dX7_addProduct_172 rfl (dn_dec _) (by decide) rfl (q := 175) rfl ?_
        refine j_goto (tgt := 85) X dX7_addProduct_175 (by decide) ?_
        refine j_lv (lv' := [(0, .ref a_this), (1, .ref (ts z1)), (2, .long x2), (4, .long x3), (6, .int (nI 7)), (7, .long y12), (9, .long y2), (11, .long y13), (13, .int (dn r85_6))]) [3, 4, 5, 6, 7, 2, 8, 1, 0] rfl ?_
        have hb : (X7_addProduct_l85 x2 y2 (fun j => xs1.getD j 0) xsm) r85_6 t85_6 = (upd t85_6.1 (r85_6 + 1) y11.toInt32, y13, y12) := (by subst e_y10; subst e_y11; subst e_y12; subst e_y13; rfl)
        exact ih85_6 ((upd t85_6.1 (r85_6 + 1) y11.toInt32, y13, y12)) (by omega) (by rw [e_t85_6, itd_s, hb]) 
  rw [dn_of (show n5 + 1 = 7 by omega)]
  exact LP85_6 7 ((f_sum, y3, y4)) (by omega) rfl 
theorem mw_X7_addProduct_r_0 : Cond.constantLong "GuardedTree$Modulus" 29 4294967295 ∈ tb := tb_at 556 (by decide +kernel) (by decide +kernel)
theorem mw_X7_addProduct_r_1 : Cond.fieldLink "GuardedTree$Modulus" 9 "GuardedTree$Modulus" "sum" "[I" ∈ tb := tb_at 186 (by decide +kernel) (by decide +kernel)
theorem mw_X7_addProduct_r_2 : Cond.fieldLink "GuardedTree$Modulus" 25 "GuardedTree$Modulus" "inverse" "I" ∈ tb := tb_at 189 (by decide +kernel) (by decide +kernel)
theorem mw_X7_addProduct_r_3 : Cond.fieldLink "GuardedTree$Modulus" 19 "GuardedTree$Modulus" "modulus" "[I" ∈ tb := tb_at 184 (by decide +kernel) (by decide +kernel)
set_option maxHeartbeats 4000000 in
set_option maxRecDepth 100000 in
theorem c_X7_addProduct_r (l : Launch) (D : va_G) (ct : Nat → ClassId) (ts : Nat → Nat) (a_this_result a_this a_this_sum a_this_base : Nat) (v_inverse : Int32) (f_result : Nat → Int32) (f_sum : Nat → Int32) (x2 : Int64) (x3 : Int64) (zm : Nat) (tCm : String) (tnm : String) (xsm : List Int32) (zs : Nat) (tCs : String) (tns : String) (xss : List Int32)   (hzm : SXL[zm]? = some (tCm, tnm, 8, xsm)) (hzs : SXL[zs]? = some (tCs, tns, 8, xss)) (sz : Nat) : Met l yX7_addProduct (Cond.code yX7_addProduct cX7_addProduct 15 (some .long) :: tb) { frames := 0, cells := 0, slots := 0, locals := 0 } (PcG D ct SXL ts [.ref a_this, .ref a_this_result, .long x2, .long x3] [(a_this_result, .inl (ct 0, 8, .inl f_result)), (a_this, .inr (7, [.ref (ts zm), .ref (ts zs), .ref a_this_sum, .ref a_this_base, .ref a_this_result, .int v_inverse])), (a_this_sum, .inl (ct 0, 8, .inl f_sum))] sz) (va_Ql (fun (r : Int64) (u : (Nat → Int32)) => (r, u) = f_X7_addProduct v_inverse f_result f_sum x2 x3 xsm) (fun u => BG D ct (va_A [(a_this_result, .inl (ct 0, 8, .inl f_result)), (a_this, .inr (7, [.ref (ts zm), .ref (ts zs), .ref a_this_sum, .ref a_this_base, .ref a_this_result, .int v_inverse])), (a_this_sum, .inl (ct 0, 8, .inl f_sum))] sz) [(a_this_result, .inl (ct 0, 8, .inl f_result)), (a_this, .inr (7, [.ref (ts zm), .ref (ts zs), .ref a_this_sum, .ref a_this_base, .ref a_this_result, .int v_inverse])), (a_this_sum, .inl (ct 0, 8, .inl u))]) (va_A [(a_this_result, .inl (ct 0, 8, .inl f_result)), (a_this, .inr (7, [.ref (ts zm), .ref (ts zs), .ref a_this_sum, .ref a_this_base, .ref a_this_result, .int v_inverse])), (a_this_sum, .inl (ct 0, 8, .inl f_sum))] sz)) 0 0 (va_A [(a_this_result, .inl (ct 0, 8, .inl f_result)), (a_this, .inr (7, [.ref (ts zm), .ref (ts zs), .ref a_this_sum, .ref a_this_base, .ref a_this_result, .int v_inverse])), (a_this_sum, .inl (ct 0, 8, .inl f_sum))] sz) := by
  refine metJ (QcF := fun A => va_Ql (fun (r : Int64) (u : (Nat → Int32)) => (r, u) = f_X7_addProduct v_inverse f_result f_sum x2 x3 xsm) (fun u => BG D ct A [(a_this_result, .inl (ct 0, 8, .inl f_result)), (a_this, .inr (7, [.ref (ts zm), .ref (ts zs), .ref a_this_sum, .ref a_this_base, .ref a_this_result, .int v_inverse])), (a_this_sum, .inl (ct 0, 8, .inl u))]) A) (by decide) (Nat.le_of_ble_eq_true rfl) ?_
  intro p e s m below meth c A X hnm
  obtain ⟨Q, hQ⟩ : ∃ Q, Q = MQ below (va_Ql (fun (r : Int64) (u : (Nat → Int32)) => (r, u) = f_X7_addProduct v_inverse f_result f_sum x2 x3 xsm) (fun u => BG D ct A [(a_this_result, .inl (ct 0, 8, .inl f_result)), (a_this, .inr (7, [.ref (ts zm), .ref (ts zs), .ref a_this_sum, .ref a_this_base, .ref a_this_result, .int v_inverse])), (a_this_sum, .inl (ct 0, 8, .inl u))]) A) [.ref a_this, .ref a_this_result, .long x2, .long x3].toArray s 0 0 A := ⟨_, rfl⟩
  rw [← hQ]
  refine j_lve (lv' := [(0, .ref a_this), (1, .ref a_this_result), (2, .long x2), (4, .long x3)]) rfl ?_
  refine j_bipush (v := nI 7) X dX7_addProduct_0 (by decide) (q := 2) rfl ?_
  refine j_istore (lv' := [(6, .int (nI 7)), (0, .ref a_this), (1, .ref a_this_result), (2, .long x2), (4, .long x3)]) X dX7_addProduct_2 (by decide) rfl (q := 4) rfl ?_
  refine j_aload_n X 2 dX7_addProduct_4 rfl (q := 5) rfl ?_
  refine j_iload X 0 dX7_addProduct_5 rfl (q := 7) rfl ?_
  refine k_iald X 0 rfl (vp_in_nI (by omega) (by omega)) (nI_clamp (by omega)) dX7_addProduct_7 (q := 8) rfl ?_
  refine j_i2l X dX7_addProduct_8 (q := 9) rfl ?_
  refine j_ldc2 X mw_X7_addProduct_r_0 dX7_addProduct_9 (q := 12) rfl ?_
  refine j_land X dX7_addProduct_12 (q := 13) rfl ?_
  refine j_lload_n X 3 dX7_addProduct_13 rfl (q := 14) rfl ?_
  refine j_lmul X dX7_addProduct_14 (q := 15) rfl ?_
  refine j_aload_n X 1 dX7_addProduct_15 rfl (q := 16) rfl ?_
  refine j_get (f := 2) X 1 inT7 rfl rfl (by decide) mw_X7_addProduct_r_1 rfl dX7_addProduct_16 (q := 19) rfl ?_
  refine j_iload X 0 dX7_addProduct_19 rfl (q := 21) rfl ?_
  refine k_iald X 2 rfl (vp_in_nI (by omega) (by omega)) (nI_clamp (by omega)) dX7_addProduct_21 (q := 22) rfl ?_
  refine j_i2l X dX7_addProduct_22 (q := 23) rfl ?_
  refine j_ldc2 X mw_X7_addProduct_r_0 dX7_addProduct_23 (q := 26) rfl ?_
  refine j_land X dX7_addProduct_26 (q := 27) rfl ?_
  refine j_ladd X dX7_addProduct_27 (q := 28) rfl ?_
  refine j_topl (fun y1 e_y1 => ?_)
  refine j_lstore (lv' := [(7, .long y1), (6, .int (nI 7)), (0, .ref a_this), (1, .ref a_this_result), (2, .long x2), (4, .long x3)]) X dX7_addProduct_28 (by decide) rfl (q := 30) rfl ?_
  refine j_lload X 0 dX7_addProduct_30 rfl (q := 32) rfl ?_
  refine j_l2i X dX7_addProduct_32 (q := 33) rfl ?_
  refine j_aload_n X 2 dX7_addProduct_33 rfl (q := 34) rfl ?_
  refine j_get (f := 5) X 1 inT7 rfl rfl (by decide) mw_X7_addProduct_r_2 rfl dX7_addProduct_34 (q := 37) rfl ?_
  refine j_imul X dX7_addProduct_37 (q := 38) rfl ?_
  refine j_i2l X dX7_addProduct_38 (q := 39) rfl ?_
  refine j_ldc2 X mw_X7_addProduct_r_0 dX7_addProduct_39 (q := 42) rfl ?_
  refine j_land X dX7_addProduct_42 (q := 43) rfl ?_
  refine j_topl (fun y2 e_y2 => ?_)
  refine j_lstore (lv' := [(9, .long y2), (7, .long y1), (6, .int (nI 7)), (0, .ref a_this), (1, .ref a_this_result), (2, .long x2), (4, .long x3)]) X dX7_addProduct_43 (by decide) rfl (q := 45) rfl ?_
  refine j_aload_n X 3 dX7_addProduct_45 rfl (q := 46) rfl ?_
  refine j_get (f := 0) X 1 inT7 rfl rfl (by decide) mw_X7_addProduct_r_3 rfl dX7_addProduct_46 (q := 49) rfl ?_
  refine j_iload X 2 dX7_addProduct_49 rfl (q := 51) rfl ?_
  refine k_ti X zm hzm (vp_in_nI (by omega) (by omega)) (nI_clamp (by omega)) dX7_addProduct_51 (q := 52) rfl ?_
  refine j_i2l X dX7_addProduct_52 (q := 53) rfl ?_
  refine j_ldc2 X mw_X7_addProduct_r_0 dX7_addProduct_53 (q := 56) rfl ?_
  refine j_land X dX7_addProduct_56 (q := 57) rfl ?_
  refine j_lload X 0 dX7_addProduct_57 rfl (q := 59) rfl ?_
  refine j_lmul X dX7_addProduct_59 (q := 60) rfl ?_
  refine j_lload X 1 dX7_addProduct_60 rfl (q := 62) rfl ?_
  refine j_ldc2 X mw_X7_addProduct_r_0 dX7_addProduct_62 (q := 65) rfl ?_
  refine j_land X dX7_addProduct_65 (q := 66) rfl ?_
  refine j_ladd X dX7_addProduct_66 (q := 67) rfl ?_
  refine j_bipush (v := nI 32) X dX7_addProduct_67 (by decide) (q := 69) rfl ?_
  refine j_lushr X dX7_addProduct_69 (q := 70) rfl ?_
  refine j_topl (fun y3 e_y3 => ?_)
  refine j_lstore (lv' := [(11, .long y3), (9, .long y2), (7, .long y1), (6, .int (nI 7)), (0, .ref a_this), (1, .ref a_this_result), (2, .long x2), (4, .long x3)]) X dX7_addProduct_70 (by decide) rfl (q := 72) rfl ?_
  refine j_lload X 2 dX7_addProduct_72 rfl (q := 74) rfl ?_
  refine j_bipush (v := nI 32) X dX7_addProduct_74 (by decide) (q := 76) rfl ?_
  refine j_lushr X dX7_addProduct_76 (q := 77) rfl ?_
  refine j_topl (fun y4 e_y4 => ?_)
  refine j_lstore (lv' := [(7, .long y4), (11, .long y3), (9, .long y2), (6, .int (nI 7)), (0, .ref a_this), (1, .ref a_this_result), (2, .long x2), (4, .long x3)]) X dX7_addProduct_77 (by decide) rfl (q := 79) rfl ?_
  refine j_iload X 3 dX7_addProduct_79 rfl (q := 81) rfl ?_
  refine j_iconst (v := nI 1) X dX7_addProduct_81 (by decide) (q := 82) rfl ?_
  refine j_isub X dX7_addProduct_82 (q := 83) rfl ?_
  refine j_eqi (pk_sub (by omega)) ?_
  refine j_topn (fun n5 e_n5 => ?_)
  refine j_istore (lv' := [(13, .int (nI n5)), (7, .long y4), (11, .long y3), (9, .long y2), (6, .int (nI 7)), (0, .ref a_this), (1, .ref a_this_result), (2, .long x2), (4, .long x3)]) X dX7_addProduct_83 (by decide) rfl (q := 85) rfl ?_
  refine j_lv (lv' := [(0, .ref a_this), (1, .ref a_this_result), (2, .long x2), (4, .long x3), (6, .int (nI 7)), (7, .long y4), (9, .long y2), (11, .long y3), (13, .int (nI n5))]) [5, 6, 7, 8, 4, 1, 3, 2, 0] rfl ?_
  have LP85_6 : ∀ (r85_6 : Nat) (t85_6 : (Nat → Int32) × (Int64) × (Int64)), r85_6 ≤ 7 → itd (X7_addProduct_l85 x2 y2 f_result xsm) 7 ((f_sum, y3, y4)) = itd (X7_addProduct_l85 x2 y2 f_result xsm) r85_6 t85_6 → J p l e { frames := 0, cells := 0, slots := 0, locals := 0 } s m [.ref a_this, .ref a_this_result, .long x2, .long x3].toArray below meth c D A 15 Q 0 0 [(a_this_result, .inl (ct 0, 8, .inl f_result)), (a_this, .inr (7, [.ref (ts zm), .ref (ts zs), .ref a_this_sum, .ref a_this_base, .ref a_this_result, .int v_inverse])), (a_this_sum, .inl (ct 0, 8, .inl t85_6.1))] [(0, .ref a_this), (1, .ref a_this_result), (2, .long x2), (4, .long x3), (6, .int (nI 7)), (7, .long t85_6.2.2), (9, .long y2), (11, .long t85_6.2.1), (13, .int (dn r85_6))] [] 85 := by
    intro r85_6
    induction r85_6 with
    | zero =>
      intro t85_6 hk_t85_6 e0_t85_6 
      have e_t85_6 : t85_6 = itd (X7_addProduct_l85 x2 y2 f_result xsm) 7 ((f_sum, y3, y4)) := (e0_t85_6.trans (itd_0 _ _)).symm
      refine j_iload X 8 dX7_addProduct_85 rfl (q := 87) rfl ?_
      refine j_if_lt (tgt := 178) X dX7_addProduct_87 (by decide) (q := 90) rfl (fun c7 => ?_) (fun c7 => ?_)
      · skip
        refine j_lload X 3 dX7_addProduct_178 rfl (q := 180) rfl ?_
        refine j_lload X 5 dX7_addProduct_180 rfl (q := 182) rfl ?_
        refine j_ladd X dX7_addProduct_182 (q := 183) rfl ?_
        refine j_lload X 7 dX7_addProduct_183 rfl (q := 185) rfl ?_
        refine j_ladd X dX7_addProduct_185 (q := 186) rfl ?_
        refine j_topl (fun y8 e_y8 => ?_)
        refine j_lstore (lv' := [(13, .long y8), (0, .ref a_this), (1, .ref a_this_result), (2, .long x2), (4, .long x3), (6, .int (nI 7)), (7, .long t85_6.2.2), (9, .long y2), (11, .long t85_6.2.1)]) X dX7_addProduct_186 (by decide) rfl (q := 188) rfl ?_
        refine j_aload_n X 1 dX7_addProduct_188 rfl (q := 189) rfl ?_
        refine j_get (f := 2) X 1 inT7 rfl rfl (by decide) mw_X7_addProduct_r_1 rfl dX7_addProduct_189 (q := 192) rfl ?_
        refine j_iconst (v := nI 0) X dX7_addProduct_192 (by decide) (q := 193) rfl ?_
        refine j_lload X 0 dX7_addProduct_193 rfl (q := 195) rfl ?_
        refine j_l2i X dX7_addProduct_195 (q := 196) rfl ?_
        refine k_iast (ws2 := [(a_this_result, .inl (ct 0, 8, .inl f_result)), (a_this, .inr (7, [.ref (ts zm), .ref (ts zs), .ref a_this_sum, .ref a_this_base, .ref a_this_result, .int v_inverse])), (a_this_sum, .inl (ct 0, 8, .inl (upd t85_6.1 0 y8.toInt32)))]) X 2 rfl (vp_in_nI (by omega) (by omega)) (nI_clamp (by omega)) dX7_addProduct_196 rfl (q := 197) rfl ?_
        refine j_lload X 0 dX7_addProduct_197 rfl (q := 199) rfl ?_
        refine j_bipush (v := nI 32) X dX7_addProduct_199 (by decide) (q := 201) rfl ?_
        refine j_lushr X dX7_addProduct_201 (q := 202) rfl ?_
        rw [hQ]
        exact j_lret X (upd t85_6.1 0 y8.toInt32) dX7_addProduct_202 (by subst e_y1; subst e_y2; subst e_y3; subst e_y4; subst e_n5; subst e_t85_6; subst e_y8; rfl) rfl
      · skip
        exact absurd (show dn 0 < 0 by decide) c7
    | succ r85_6 ih85_6 =>
      intro t85_6 hk_t85_6 e_t85_6 
      rw [dn_s]
      refine j_iload X 8 dX7_addProduct_85 rfl (q := 87) rfl ?_
      refine j_if_lt (tgt := 178) X dX7_addProduct_87 (by decide) (q := 90) rfl (fun c9 => ?_) (fun c9 => ?_)
      · skip
        have c9 : r85_6 < 0 := (nI_ltI (by omega) (by omega)).mp c9
        exfalso; omega
      · skip
        have c9 : ¬ r85_6 < 0 := fun h => c9 ((nI_ltI (by omega) (by omega)).mpr h)
        refine j_lload X 5 dX7_addProduct_90 rfl (q := 92) rfl ?_
        refine j_aload_n X 1 dX7_addProduct_92 rfl (q := 93) rfl ?_
        refine j_iload X 8 dX7_addProduct_93 rfl (q := 95) rfl ?_
        refine k_iald X 0 rfl (vp_in_nI (by omega) (by omega)) (nI_clamp (by omega)) dX7_addProduct_95 (q := 96) rfl ?_
        refine j_i2l X dX7_addProduct_96 (q := 97) rfl ?_
        refine j_ldc2 X mw_X7_addProduct_r_0 dX7_addProduct_97 (q := 100) rfl ?_
        refine j_land X dX7_addProduct_100 (q := 101) rfl ?_
        refine j_lload_n X 2 dX7_addProduct_101 rfl (q := 102) rfl ?_
        refine j_lmul X dX7_addProduct_102 (q := 103) rfl ?_
        refine j_aload_n X 0 dX7_addProduct_103 rfl (q := 104) rfl ?_
        refine j_get (f := 2) X 1 inT7 rfl rfl (by decide) mw_X7_addProduct_r_1 rfl dX7_addProduct_104 (q := 107) rfl ?_
        refine j_iload X 8 dX7_addProduct_107 rfl (q := 109) rfl ?_
        refine k_iald X 2 rfl (vp_in_nI (by omega) (by omega)) (nI_clamp (by omega)) dX7_addProduct_109 (q := 110) rfl ?_
        refine j_i2l X dX7_addProduct_110 (q := 111) rfl ?_
        refine j_ldc2 X mw_X7_addProduct_r_0 dX7_addProduct_111 (q := 114) rfl ?_
        refine j_land X dX7_addProduct_114 (q := 115) rfl ?_
        refine j_ladd X dX7_addProduct_115 (q := 116) rfl ?_
        refine j_ladd X dX7_addProduct_116 (q := 117) rfl ?_
        refine j_topl (fun y10 e_y10 => ?_)
        refine j_lstore (lv' := [(7, .long y10), (0, .ref a_this), (1, .ref a_this_result), (2, .long x2), (4, .long x3), (6, .int (nI 7)), (9, .long y2), (11, .long t85_6.2.1), (13, .int (nI r85_6))]) X dX7_addProduct_117 (by decide) rfl (q := 119) rfl ?_
        refine j_lload X 7 dX7_addProduct_119 rfl (q := 121) rfl ?_
        refine j_aload_n X 1 dX7_addProduct_121 rfl (q := 122) rfl ?_
        refine j_get (f := 0) X 1 inT7 rfl rfl (by decide) mw_X7_addProduct_r_3 rfl dX7_addProduct_122 (q := 125) rfl ?_
        refine j_iload X 8 dX7_addProduct_125 rfl (q := 127) rfl ?_
        refine k_ti X zm hzm (vp_in_nI (by omega) (by omega)) (nI_clamp (by omega)) dX7_addProduct_127 (q := 128) rfl ?_
        refine j_i2l X dX7_addProduct_128 (q := 129) rfl ?_
        refine j_ldc2 X mw_X7_addProduct_r_0 dX7_addProduct_129 (q := 132) rfl ?_
        refine j_land X dX7_addProduct_132 (q := 133) rfl ?_
        refine j_lload X 6 dX7_addProduct_133 rfl (q := 135) rfl ?_
        refine j_lmul X dX7_addProduct_135 (q := 136) rfl ?_
        refine j_lload X 0 dX7_addProduct_136 rfl (q := 138) rfl ?_
        refine j_ldc2 X mw_X7_addProduct_r_0 dX7_addProduct_138 (q := 141) rfl ?_
        refine j_land X dX7_addProduct_141 (q := 142) rfl ?_
        refine j_ladd X dX7_addProduct_142 (q := 143) rfl ?_
        refine j_ladd X dX7_addProduct_143 (q := 144) rfl ?_
        refine j_topl (fun y11 e_y11 => ?_)
        refine j_lstore (lv' := [(11, .long y11), (7, .long y10), (0, .ref a_this), (1, .ref a_this_result), (2, .long x2), (4, .long x3), (6, .int (nI 7)), (9, .long y2), (13, .int (nI r85_6))]) X dX7_addProduct_144 (by decide) rfl (q := 146) rfl ?_
        refine j_aload_n X 2 dX7_addProduct_146 rfl (q := 147) rfl ?_
        refine j_get (f := 2) X 1 inT7 rfl rfl (by decide) mw_X7_addProduct_r_1 rfl dX7_addProduct_147 (q := 150) rfl ?_
        refine j_iload X 8 dX7_addProduct_150 rfl (q := 152) rfl ?_
        refine j_iconst (v := nI 1) X dX7_addProduct_152 (by decide) (q := 153) rfl ?_
        refine j_iadd X dX7_addProduct_153 (q := 154) rfl ?_
        refine j_eqi (nI_add _ _) ?_
        refine j_lload X 0 dX7_addProduct_154 rfl (q := 156) rfl ?_
        refine j_l2i X dX7_addProduct_156 (q := 157) rfl ?_
        refine k_iast (ws2 := [(a_this_result, .inl (ct 0, 8, .inl f_result)), (a_this, .inr (7, [.ref (ts zm), .ref (ts zs), .ref a_this_sum, .ref a_this_base, .ref a_this_result, .int v_inverse])), (a_this_sum, .inl (ct 0, 8, .inl (upd t85_6.1 (r85_6 + 1) y11.toInt32)))]) X 2 rfl (vp_in_nI (by omega) (by omega)) (nI_clamp (by omega)) dX7_addProduct_157 rfl (q := 158) rfl ?_
        refine j_lload X 1 dX7_addProduct_158 rfl (q := 160) rfl ?_
        refine j_bipush (v := nI 32) X dX7_addProduct_160 (by decide) (q := 162) rfl ?_
        refine j_lushr X dX7_addProduct_162 (q := 163) rfl ?_
        refine j_topl (fun y12 e_y12 => ?_)
        refine j_lstore (lv' := [(7, .long y12), (11, .long y11), (0, .ref a_this), (1, .ref a_this_result), (2, .long x2), (4, .long x3), (6, .int (nI 7)), (9, .long y2), (13, .int (nI r85_6))]) X dX7_addProduct_163 (by decide) rfl (q := 165) rfl ?_
        refine j_lload X 1 dX7_addProduct_165 rfl (q := 167) rfl ?_
        refine j_bipush (v := nI 32) X dX7_addProduct_167 (by decide) (q := 169) rfl ?_
        refine j_lushr X dX7_addProduct_169 (q := 170) rfl ?_
        refine j_topl (fun y13 e_y13 => ?_)
        refine j_lstore (lv' := [(11, .long y13), (7, .long y12), (0, .ref a_this), (1, .ref a_this_result), (2, .long x2), (4, .long x3), (6, .int (nI 7)), (9, .long y2), (13, .int (nI r85_6))]) X dX7_addProduct_170 (by decide) rfl (q := 172) rfl ?_
        refine j_iinc (v := dn r85_6) (lv' := [(13, .int (dn r85_6)), (11, .long y13), (7, .long y12), (0, .ref a_this), (1, .ref a_this_result), (2, .long x2), (4, .long x3), (6, .int (nI 7)), (9, .long y2)]) X 8 dX7_addProduct_172 rfl (dn_dec _) (by decide) rfl (q := 175) rfl ?_
        refine j_goto (tgt := 85) X dX7_addProduct_175 (by decide) ?_
        refine j_lv (lv' := [(0, .ref a_this), (1, .ref a_this_result), (2, .long x2), (4, .long x3), (6, .int (nI 7)), (7, .long y12), (9, .long y2), (11, .long y13), (13, .int (dn r85_6))]) [3, 4, 5, 6, 7, 2, 8, 1, 0] rfl ?_
        have hb : (X7_addProduct_l85 x2 y2 f_result xsm) r85_6 t85_6 = (upd t85_6.1 (r85_6 + 1) y11.toInt32, y13, y12) := (by subst e_y10; subst e_y11; subst e_y12; subst e_y13; rfl)
        exact ih85_6 ((upd t85_6.1 (r85_6 + 1) y11.toInt32, y13, y12)) (by omega) (by rw [e_t85_6, itd_s, hb]) 
  rw [dn_of (show n5 + 1 = 7 by omega)]
  exact LP85_6 7 ((f_sum, y3, y4)) (by omega) rfl 

