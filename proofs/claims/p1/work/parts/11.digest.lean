theorem mw_X4_spread_0 : Cond.fieldLink "GuardedTree$Digest" 17 "GuardedTree$Digest" "w" "[I" ∈ tb := tb_at 158 (by decide +kernel) (by decide +kernel)
theorem mw_X4_spread_1 : Cond.fieldLink "GuardedTree$Digest" 13 "GuardedTree$Digest" "text" "[B" ∈ tb := tb_at 157 (by decide +kernel) (by decide +kernel)
theorem dX4_spread_0 : decode cX4_spread 0 = .ok (.iconst 0, 1) := by decide +kernel
theorem dX4_spread_1 : decode cX4_spread 1 = .ok (.istore_n 2, 1) := by decide +kernel
theorem dX4_spread_2 : decode cX4_spread 2 = .ok (.iload_n 2, 1) := by decide +kernel
theorem dX4_spread_3 : decode cX4_spread 3 = .ok (.bipush 16, 2) := by decide +kernel
theorem dX4_spread_5 : decode cX4_spread 5 = .ok (.if_icmp .ge 75, 3) := by decide +kernel
theorem dX4_spread_8 : decode cX4_spread 8 = .ok (.iload_n 1, 1) := by decide +kernel
theorem dX4_spread_9 : decode cX4_spread 9 = .ok (.iconst 4, 1) := by decide +kernel
theorem dX4_spread_10 : decode cX4_spread 10 = .ok (.iload_n 2, 1) := by decide +kernel
theorem dX4_spread_11 : decode cX4_spread 11 = .ok (.imul, 1) := by decide +kernel
theorem dX4_spread_12 : decode cX4_spread 12 = .ok (.iadd, 1) := by decide +kernel
theorem dX4_spread_13 : decode cX4_spread 13 = .ok (.istore_n 3, 1) := by decide +kernel
theorem dX4_spread_14 : decode cX4_spread 14 = .ok (.aload_n 0, 1) := by decide +kernel
theorem dX4_spread_15 : decode cX4_spread 15 = .ok (.getfield 17, 3) := by decide +kernel
theorem dX4_spread_18 : decode cX4_spread 18 = .ok (.iload_n 2, 1) := by decide +kernel
theorem dX4_spread_19 : decode cX4_spread 19 = .ok (.aload_n 0, 1) := by decide +kernel
theorem dX4_spread_20 : decode cX4_spread 20 = .ok (.getfield 13, 3) := by decide +kernel
theorem dX4_spread_23 : decode cX4_spread 23 = .ok (.iload_n 3, 1) := by decide +kernel
theorem dX4_spread_24 : decode cX4_spread 24 = .ok (.baload, 1) := by decide +kernel
theorem dX4_spread_25 : decode cX4_spread 25 = .ok (.bipush 24, 2) := by decide +kernel
theorem dX4_spread_27 : decode cX4_spread 27 = .ok (.ishl, 1) := by decide +kernel
theorem dX4_spread_28 : decode cX4_spread 28 = .ok (.aload_n 0, 1) := by decide +kernel
theorem dX4_spread_29 : decode cX4_spread 29 = .ok (.getfield 13, 3) := by decide +kernel
theorem dX4_spread_32 : decode cX4_spread 32 = .ok (.iload_n 3, 1) := by decide +kernel
theorem dX4_spread_33 : decode cX4_spread 33 = .ok (.iconst 1, 1) := by decide +kernel
theorem dX4_spread_34 : decode cX4_spread 34 = .ok (.iadd, 1) := by decide +kernel
theorem dX4_spread_35 : decode cX4_spread 35 = .ok (.baload, 1) := by decide +kernel
theorem dX4_spread_36 : decode cX4_spread 36 = .ok (.sipush 255, 3) := by decide +kernel
theorem dX4_spread_39 : decode cX4_spread 39 = .ok (.iand, 1) := by decide +kernel
theorem dX4_spread_40 : decode cX4_spread 40 = .ok (.bipush 16, 2) := by decide +kernel
theorem dX4_spread_42 : decode cX4_spread 42 = .ok (.ishl, 1) := by decide +kernel
theorem dX4_spread_43 : decode cX4_spread 43 = .ok (.ior, 1) := by decide +kernel
theorem dX4_spread_44 : decode cX4_spread 44 = .ok (.aload_n 0, 1) := by decide +kernel
theorem dX4_spread_45 : decode cX4_spread 45 = .ok (.getfield 13, 3) := by decide +kernel
theorem dX4_spread_48 : decode cX4_spread 48 = .ok (.iload_n 3, 1) := by decide +kernel
theorem dX4_spread_49 : decode cX4_spread 49 = .ok (.iconst 2, 1) := by decide +kernel
theorem dX4_spread_50 : decode cX4_spread 50 = .ok (.iadd, 1) := by decide +kernel
theorem dX4_spread_51 : decode cX4_spread 51 = .ok (.baload, 1) := by decide +kernel
theorem dX4_spread_52 : decode cX4_spread 52 = .ok (.sipush 255, 3) := by decide +kernel
theorem dX4_spread_55 : decode cX4_spread 55 = .ok (.iand, 1) := by decide +kernel
theorem dX4_spread_56 : decode cX4_spread 56 = .ok (.bipush 8, 2) := by decide +kernel
theorem dX4_spread_58 : decode cX4_spread 58 = .ok (.ishl, 1) := by decide +kernel
theorem dX4_spread_59 : decode cX4_spread 59 = .ok (.ior, 1) := by decide +kernel
theorem dX4_spread_60 : decode cX4_spread 60 = .ok (.aload_n 0, 1) := by decide +kernel
theorem dX4_spread_61 : decode cX4_spread 61 = .ok (.getfield 13, 3) := by decide +kernel
theorem dX4_spread_64 : decode cX4_spread 64 = .ok (.iload_n 3, 1) := by decide +kernel
theorem dX4_spread_65 : decode cX4_spread 65 = .ok (.iconst 3, 1) := by decide +kernel
theorem dX4_spread_66 : decode cX4_spread 66 = .ok (.iadd, 1) := by decide +kernel
theorem dX4_spread_67 : decode cX4_spread 67 = .ok (.baload, 1) := by decide +kernel
theorem dX4_spread_68 : decode cX4_spread 68 = .ok (.sipush 255, 3) := by decide +kernel
theorem dX4_spread_71 : decode cX4_spread 71 = .ok (.iand, 1) := by decide +kernel
theorem dX4_spread_72 : decode cX4_spread 72 = .ok (.ior, 1) := by decide +kernel
theorem dX4_spread_73 : decode cX4_spread 73 = .ok (.iastore, 1) := by decide +kernel
theorem dX4_spread_74 : decode cX4_spread 74 = .ok (.iinc 2 1, 3) := by decide +kernel
theorem dX4_spread_77 : decode cX4_spread 77 = .ok (.goto (-75), 3) := by decide +kernel
theorem dX4_spread_80 : decode cX4_spread 80 = .ok (.bipush 16, 2) := by decide +kernel
theorem dX4_spread_82 : decode cX4_spread 82 = .ok (.istore_n 2, 1) := by decide +kernel
theorem dX4_spread_83 : decode cX4_spread 83 = .ok (.iload_n 2, 1) := by decide +kernel
theorem dX4_spread_84 : decode cX4_spread 84 = .ok (.bipush 64, 2) := by decide +kernel
theorem dX4_spread_86 : decode cX4_spread 86 = .ok (.if_icmp .ge 110, 3) := by decide +kernel
theorem dX4_spread_89 : decode cX4_spread 89 = .ok (.aload_n 0, 1) := by decide +kernel
theorem dX4_spread_90 : decode cX4_spread 90 = .ok (.getfield 17, 3) := by decide +kernel
theorem dX4_spread_93 : decode cX4_spread 93 = .ok (.iload_n 2, 1) := by decide +kernel
theorem dX4_spread_94 : decode cX4_spread 94 = .ok (.bipush 15, 2) := by decide +kernel
theorem dX4_spread_96 : decode cX4_spread 96 = .ok (.isub, 1) := by decide +kernel
theorem dX4_spread_97 : decode cX4_spread 97 = .ok (.iaload, 1) := by decide +kernel
theorem dX4_spread_98 : decode cX4_spread 98 = .ok (.istore_n 3, 1) := by decide +kernel
theorem dX4_spread_99 : decode cX4_spread 99 = .ok (.iload_n 3, 1) := by decide +kernel
theorem dX4_spread_100 : decode cX4_spread 100 = .ok (.bipush 7, 2) := by decide +kernel
theorem dX4_spread_102 : decode cX4_spread 102 = .ok (.iushr, 1) := by decide +kernel
theorem dX4_spread_103 : decode cX4_spread 103 = .ok (.iload_n 3, 1) := by decide +kernel
theorem dX4_spread_104 : decode cX4_spread 104 = .ok (.bipush 25, 2) := by decide +kernel
theorem dX4_spread_106 : decode cX4_spread 106 = .ok (.ishl, 1) := by decide +kernel
theorem dX4_spread_107 : decode cX4_spread 107 = .ok (.ior, 1) := by decide +kernel
theorem dX4_spread_108 : decode cX4_spread 108 = .ok (.iload_n 3, 1) := by decide +kernel
theorem dX4_spread_109 : decode cX4_spread 109 = .ok (.bipush 18, 2) := by decide +kernel
theorem dX4_spread_111 : decode cX4_spread 111 = .ok (.iushr, 1) := by decide +kernel
theorem dX4_spread_112 : decode cX4_spread 112 = .ok (.iload_n 3, 1) := by decide +kernel
theorem dX4_spread_113 : decode cX4_spread 113 = .ok (.bipush 14, 2) := by decide +kernel
theorem dX4_spread_115 : decode cX4_spread 115 = .ok (.ishl, 1) := by decide +kernel
theorem dX4_spread_116 : decode cX4_spread 116 = .ok (.ior, 1) := by decide +kernel
theorem dX4_spread_117 : decode cX4_spread 117 = .ok (.ixor, 1) := by decide +kernel
theorem dX4_spread_118 : decode cX4_spread 118 = .ok (.iload_n 3, 1) := by decide +kernel
theorem dX4_spread_119 : decode cX4_spread 119 = .ok (.iconst 3, 1) := by decide +kernel
theorem dX4_spread_120 : decode cX4_spread 120 = .ok (.iushr, 1) := by decide +kernel
theorem dX4_spread_121 : decode cX4_spread 121 = .ok (.ixor, 1) := by decide +kernel
theorem dX4_spread_122 : decode cX4_spread 122 = .ok (.istore 4, 2) := by decide +kernel
theorem dX4_spread_124 : decode cX4_spread 124 = .ok (.aload_n 0, 1) := by decide +kernel
theorem dX4_spread_125 : decode cX4_spread 125 = .ok (.getfield 17, 3) := by decide +kernel
theorem dX4_spread_128 : decode cX4_spread 128 = .ok (.iload_n 2, 1) := by decide +kernel
theorem dX4_spread_129 : decode cX4_spread 129 = .ok (.iconst 2, 1) := by decide +kernel
theorem dX4_spread_130 : decode cX4_spread 130 = .ok (.isub, 1) := by decide +kernel
theorem dX4_spread_131 : decode cX4_spread 131 = .ok (.iaload, 1) := by decide +kernel
theorem dX4_spread_132 : decode cX4_spread 132 = .ok (.istore_n 3, 1) := by decide +kernel
theorem dX4_spread_133 : decode cX4_spread 133 = .ok (.iload_n 3, 1) := by decide +kernel
theorem dX4_spread_134 : decode cX4_spread 134 = .ok (.bipush 17, 2) := by decide +kernel
theorem dX4_spread_136 : decode cX4_spread 136 = .ok (.iushr, 1) := by decide +kernel
theorem dX4_spread_137 : decode cX4_spread 137 = .ok (.iload_n 3, 1) := by decide +kernel
theorem dX4_spread_138 : decode cX4_spread 138 = .ok (.bipush 15, 2) := by decide +kernel
theorem dX4_spread_140 : decode cX4_spread 140 = .ok (.ishl, 1) := by decide +kernel
theorem dX4_spread_141 : decode cX4_spread 141 = .ok (.ior, 1) := by decide +kernel
theorem dX4_spread_142 : decode cX4_spread 142 = .ok (.iload_n 3, 1) := by decide +kernel
theorem dX4_spread_143 : decode cX4_spread 143 = .ok (.bipush 19, 2) := by decide +kernel
theorem dX4_spread_145 : decode cX4_spread 145 = .ok (.iushr, 1) := by decide +kernel
theorem dX4_spread_146 : decode cX4_spread 146 = .ok (.iload_n 3, 1) := by decide +kernel
theorem dX4_spread_147 : decode cX4_spread 147 = .ok (.bipush 13, 2) := by decide +kernel
theorem dX4_spread_149 : decode cX4_spread 149 = .ok (.ishl, 1) := by decide +kernel
theorem dX4_spread_150 : decode cX4_spread 150 = .ok (.ior, 1) := by decide +kernel
theorem dX4_spread_151 : decode cX4_spread 151 = .ok (.ixor, 1) := by decide +kernel
theorem dX4_spread_152 : decode cX4_spread 152 = .ok (.iload_n 3, 1) := by decide +kernel
theorem dX4_spread_153 : decode cX4_spread 153 = .ok (.bipush 10, 2) := by decide +kernel
theorem dX4_spread_155 : decode cX4_spread 155 = .ok (.iushr, 1) := by decide +kernel
theorem dX4_spread_156 : decode cX4_spread 156 = .ok (.ixor, 1) := by decide +kernel
theorem dX4_spread_157 : decode cX4_spread 157 = .ok (.istore 5, 2) := by decide +kernel
theorem dX4_spread_159 : decode cX4_spread 159 = .ok (.aload_n 0, 1) := by decide +kernel
theorem dX4_spread_160 : decode cX4_spread 160 = .ok (.getfield 17, 3) := by decide +kernel
theorem dX4_spread_163 : decode cX4_spread 163 = .ok (.iload_n 2, 1) := by decide +kernel
theorem dX4_spread_164 : decode cX4_spread 164 = .ok (.aload_n 0, 1) := by decide +kernel
theorem dX4_spread_165 : decode cX4_spread 165 = .ok (.getfield 17, 3) := by decide +kernel
theorem dX4_spread_168 : decode cX4_spread 168 = .ok (.iload_n 2, 1) := by decide +kernel
theorem dX4_spread_169 : decode cX4_spread 169 = .ok (.bipush 16, 2) := by decide +kernel
theorem dX4_spread_171 : decode cX4_spread 171 = .ok (.isub, 1) := by decide +kernel
theorem dX4_spread_172 : decode cX4_spread 172 = .ok (.iaload, 1) := by decide +kernel
theorem dX4_spread_173 : decode cX4_spread 173 = .ok (.iload 4, 2) := by decide +kernel
theorem dX4_spread_175 : decode cX4_spread 175 = .ok (.iadd, 1) := by decide +kernel
theorem dX4_spread_176 : decode cX4_spread 176 = .ok (.aload_n 0, 1) := by decide +kernel
theorem dX4_spread_177 : decode cX4_spread 177 = .ok (.getfield 17, 3) := by decide +kernel
theorem dX4_spread_180 : decode cX4_spread 180 = .ok (.iload_n 2, 1) := by decide +kernel
theorem dX4_spread_181 : decode cX4_spread 181 = .ok (.bipush 7, 2) := by decide +kernel
theorem dX4_spread_183 : decode cX4_spread 183 = .ok (.isub, 1) := by decide +kernel
theorem dX4_spread_184 : decode cX4_spread 184 = .ok (.iaload, 1) := by decide +kernel
theorem dX4_spread_185 : decode cX4_spread 185 = .ok (.iadd, 1) := by decide +kernel
theorem dX4_spread_186 : decode cX4_spread 186 = .ok (.iload 5, 2) := by decide +kernel
theorem dX4_spread_188 : decode cX4_spread 188 = .ok (.iadd, 1) := by decide +kernel
theorem dX4_spread_189 : decode cX4_spread 189 = .ok (.iastore, 1) := by decide +kernel
theorem dX4_spread_190 : decode cX4_spread 190 = .ok (.iinc 2 1, 3) := by decide +kernel
theorem dX4_spread_193 : decode cX4_spread 193 = .ok (.goto (-110), 3) := by decide +kernel
theorem dX4_spread_196 : decode cX4_spread 196 = .ok (.return_, 1) := by decide +kernel
noncomputable def X4_spread_l83  (k83_3 : Nat) (t83_3 : (Nat → Int32)) : (Nat → Int32) :=
  let y6 := t83_3 ((16 + k83_3) - 15)
  let y7 := (((ur32 y6 7) ||| (sh32 y6 25)) ^^^ ((ur32 y6 18) ||| (sh32 y6 14))) ^^^ (ur32 y6 3)
  let y8 := t83_3 ((16 + k83_3) - 2)
  let y9 := (((ur32 y8 17) ||| (sh32 y8 15)) ^^^ ((ur32 y8 19) ||| (sh32 y8 13))) ^^^ (ur32 y8 10)
  let y10 := (((t83_3 ((16 + k83_3) - 16)) + y7) + (t83_3 ((16 + k83_3) - 7))) + y9
  upd t83_3 (16 + k83_3) y10
noncomputable def X4_spread_l2 (x1 : Nat) (f_text : Nat → Int32) (k2_1 : Nat) (t2_1 : (Nat → Int32)) : (Nat → Int32) :=
  let n12 := x1 + (4 * k2_1)
  let y13 := (((sh32 (f_text n12) 24) ||| (sh32 ((f_text (n12 + 1)) &&& (nI 255)) 16)) ||| (sh32 ((f_text (n12 + 2)) &&& (nI 255)) 8)) ||| ((f_text (n12 + 3)) &&& (nI 255))
  upd t2_1 k2_1 y13
noncomputable def f_X4_spread (f_w : Nat → Int32) (f_text : Nat → Int32) (x1 : Nat) : (Nat → Int32) :=
  let t2_1 := itr (X4_spread_l2 x1 f_text) f_w 16
  let t83_3 := itr X4_spread_l83 t2_1 48
  t83_3
set_option maxHeartbeats 4000000 in
set_option maxRecDepth 100000 in
theorem c_X4_spread (l : Launch) (D : va_G) (ct : Nat → ClassId) (ts : Nat → Nat) (a_this a_this_w a_this_text a_this_state a_this_inner : Nat) (v_size : Nat) (f_w : Nat → Int32) (f_text : Nat → Int32) (x1 : Nat)  (h_at : x1 + 64 ≤ 256)  (sz : Nat) : Met l yX4_spread (Cond.code yX4_spread cX4_spread 6 none :: tb) { frames := 0, cells := 0, slots := 0, locals := 0 } (PcG D ct SXL ts [.ref a_this, .int (nI x1)] [(a_this, .inr (4, [.ref a_this_state, .ref a_this_text, .ref a_this_w, .ref a_this_inner, .int (nI v_size)])), (a_this_w, .inl (ct 0, 64, .inl f_w)), (a_this_text, .inl (ct 1, 256, .inl f_text))] sz) (va_Qv (fun u : (Nat → Int32) => u = f_X4_spread f_w f_text x1) (fun u => BG D ct (va_A [(a_this, .inr (4, [.ref a_this_state, .ref a_this_text, .ref a_this_w, .ref a_this_inner, .int (nI v_size)])), (a_this_w, .inl (ct 0, 64, .inl f_w)), (a_this_text, .inl (ct 1, 256, .inl f_text))] sz) [(a_this, .inr (4, [.ref a_this_state, .ref a_this_text, .ref a_this_w, .ref a_this_inner, .int (nI v_size)])), (a_this_w, .inl (ct 0, 64, .inl u)), (a_this_text, .inl (ct 1, 256, .inl f_text))]) (va_A [(a_this, .inr (4, [.ref a_this_state, .ref a_this_text, .ref a_this_w, .ref a_this_inner, .int (nI v_size)])), (a_this_w, .inl (ct 0, 64, .inl f_w)), (a_this_text, .inl (ct 1, 256, .inl f_text))] sz)) 0 0 (va_A [(a_this, .inr (4, [.ref a_this_state, .ref a_this_text, .ref a_this_w, .ref a_this_inner, .int (nI v_size)])), (a_this_w, .inl (ct 0, 64, .inl f_w)), (a_this_text, .inl (ct 1, 256, .inl f_text))] sz) := by
  refine metJ (QcF := fun A => va_Qv (fun u : (Nat → Int32) => u = f_X4_spread f_w f_text x1) (fun u => BG D ct A [(a_this, .inr (4, [.ref a_this_state, .ref a_this_text, .ref a_this_w, .ref a_this_inner, .int (nI v_size)])), (a_this_w, .inl (ct 0, 64, .inl u)), (a_this_text, .inl (ct 1, 256, .inl f_text))]) A) (by decide) (Nat.le_of_ble_eq_true rfl) ?_
  intro p e s m below meth c A X hnm
  obtain ⟨Q, hQ⟩ : ∃ Q, Q = MQ below (va_Qv (fun u : (Nat → Int32) => u = f_X4_spread f_w f_text x1) (fun u => BG D ct A [(a_this, .inr (4, [.ref a_this_state, .ref a_this_text, .ref a_this_w, .ref a_this_inner, .int (nI v_size)])), (a_this_w, .inl (ct 0, 64, .inl u)), (a_this_text, .inl (ct 1, 256, .inl f_text))]) A) [.ref a_this, .int (nI x1)].toArray s 0 0 A := ⟨_, rfl⟩
  rw [← hQ]
  refine j_lve (lv' := [(0, .ref a_this), (1, .int (nI x1))]) rfl ?_
  refine j_iconst (v := nI 0) X dX4_spread_0 (by decide) (q := 1) rfl ?_
  refine j_istore_n (lv' := [(2, .int (nI 0)), (0, .ref a_this), (1, .int (nI x1))]) X dX4_spread_1 (by decide) rfl (q := 2) rfl ?_
  refine j_lv (lv' := [(0, .ref a_this), (1, .int (nI x1)), (2, .int (nI 0))]) [1, 2, 0] rfl ?_
  have LP2_1 : ∀ (r2_1 k2_1 : Nat) (t2_1 : (Nat → Int32)), k2_1 + r2_1 = 16 → t2_1 = itr (X4_spread_l2 x1 f_text) f_w k2_1 → J p l e { frames := 0, cells := 0, slots := 0, locals := 0 } s m [.ref a_this, .int (nI x1)].toArray below meth c D A 6 Q 0 0 [(a_this, .inr (4, [.ref a_this_state, .ref a_this_text, .ref a_this_w, .ref a_this_inner, .int (nI v_size)])), (a_this_w, .inl (ct 0, 64, .inl t2_1)), (a_this_text, .inl (ct 1, 256, .inl f_text))] [(0, .ref a_this), (1, .int (nI x1)), (2, .int (nI k2_1))] [] 2 := by
    intro r2_1
    induction r2_1 with
    | zero =>
      intro k2_1 t2_1 hk_t2_1 e_t2_1 
      have hkk_t2_1 : 16 = k2_1 := by omega
      subst hkk_t2_1
      refine j_iload_n X 2 dX4_spread_2 rfl (q := 3) rfl ?_
      refine j_bipush (v := nI 16) X dX4_spread_3 (by decide) (q := 5) rfl ?_
      refine j_icmp_ge (tgt := 80) X dX4_spread_5 (by decide) (q := 8) rfl (fun c2 => ?_) (fun c2 => ?_)
      · skip
        have c2 : 16 ≤ 16 := (nI_leI (by omega) (by omega)).mp c2
        refine j_bipush (v := nI 16) X dX4_spread_80 (by decide) (q := 82) rfl ?_
        refine j_istore_n (lv' := [(2, .int (nI 16)), (0, .ref a_this), (1, .int (nI x1))]) X dX4_spread_82 (by decide) rfl (q := 83) rfl ?_
        refine j_lv (lv' := [(0, .ref a_this), (1, .int (nI x1)), (2, .int (nI 16))]) [1, 2, 0] rfl ?_
        have LP83_3 : ∀ (r83_3 k83_3 : Nat) (t83_3 : (Nat → Int32)), k83_3 + r83_3 = 48 → t83_3 = itr X4_spread_l83 t2_1 k83_3 → J p l e { frames := 0, cells := 0, slots := 0, locals := 0 } s m [.ref a_this, .int (nI x1)].toArray below meth c D A 6 Q 0 0 [(a_this, .inr (4, [.ref a_this_state, .ref a_this_text, .ref a_this_w, .ref a_this_inner, .int (nI v_size)])), (a_this_w, .inl (ct 0, 64, .inl t83_3)), (a_this_text, .inl (ct 1, 256, .inl f_text))] [(0, .ref a_this), (1, .int (nI x1)), (2, .int (nI (16 + k83_3)))] [] 83 := by
          intro r83_3
          induction r83_3 with
          | zero =>
            intro k83_3 t83_3 hk_t83_3 e_t83_3 
            have hkk_t83_3 : 48 = k83_3 := by omega
            subst hkk_t83_3
            refine j_iload_n X 2 dX4_spread_83 rfl (q := 84) rfl ?_
            refine j_bipush (v := nI 64) X dX4_spread_84 (by decide) (q := 86) rfl ?_
            refine j_icmp_ge (tgt := 196) X dX4_spread_86 (by decide) (q := 89) rfl (fun c4 => ?_) (fun c4 => ?_)
            · skip
              have c4 : 64 ≤ 16 + 48 := (nI_leI (by omega) (by omega)).mp c4
              rw [hQ]
              exact j_vret X t83_3 dX4_spread_196 (by subst e_t2_1; subst e_t83_3; rfl) rfl
            · skip
              have c4 : ¬ 64 ≤ 16 + 48 := fun h => c4 ((nI_leI (by omega) (by omega)).mpr h)
              exfalso; omega
          | succ r83_3 ih83_3 =>
            intro k83_3 t83_3 hk_t83_3 e_t83_3 
            refine j_iload_n X 2 dX4_spread_83 rfl (q := 84) rfl ?_
            refine j_bipush (v := nI 64) X dX4_spread_84 (by decide) (q := 86) rfl ?_
            refine j_icmp_ge (tgt := 196) X dX4_spread_86 (by decide) (q := 89) rfl (fun c5 => ?_) (fun c5 => ?_)
            · skip
              have c5 : 64 ≤ 16 + k83_3 := (nI_leI (by omega) (by omega)).mp c5
              exfalso; omega
            · skip
              have c5 : ¬ 64 ≤ 16 + k83_3 := fun h => c5 ((nI_leI (by omega) (by omega)).mpr h)
              refine j_aload_n X 0 dX4_spread_89 rfl (q := 90) rfl ?_
              refine j_get (f := 2) X 0 inT4 rfl rfl (by decide) mw_X4_spread_0 rfl dX4_spread_90 (q := 93) rfl ?_
              refine j_iload_n X 2 dX4_spread_93 rfl (q := 94) rfl ?_
              refine j_bipush (v := nI 15) X dX4_spread_94 (by decide) (q := 96) rfl ?_
              refine j_isub X dX4_spread_96 (q := 97) rfl ?_
              refine j_eqi (pk_sub (by omega)) ?_
              refine k_iald X 1 rfl (vp_in_nI (by omega) (by omega)) (nI_clamp (by omega)) dX4_spread_97 (q := 98) rfl ?_
              refine j_topi (fun y6 e_y6 => ?_)
              refine j_istore_n (lv' := [(3, .int y6), (0, .ref a_this), (1, .int (nI x1)), (2, .int (nI (16 + k83_3)))]) X dX4_spread_98 (by decide) rfl (q := 99) rfl ?_
              refine j_iload_n X 0 dX4_spread_99 rfl (q := 100) rfl ?_
              refine j_bipush (v := nI 7) X dX4_spread_100 (by decide) (q := 102) rfl ?_
              refine j_iushr X dX4_spread_102 (q := 103) rfl ?_
              refine j_eqi (show _ = ur32 y6 7 from rfl) ?_
              refine j_iload_n X 0 dX4_spread_103 rfl (q := 104) rfl ?_
              refine j_bipush (v := nI 25) X dX4_spread_104 (by decide) (q := 106) rfl ?_
              refine j_ishl X dX4_spread_106 (q := 107) rfl ?_
              refine j_eqi (show _ = sh32 y6 25 from rfl) ?_
              refine j_ior X dX4_spread_107 (q := 108) rfl ?_
              refine j_iload_n X 0 dX4_spread_108 rfl (q := 109) rfl ?_
              refine j_bipush (v := nI 18) X dX4_spread_109 (by decide) (q := 111) rfl ?_
              refine j_iushr X dX4_spread_111 (q := 112) rfl ?_
              refine j_eqi (show _ = ur32 y6 18 from rfl) ?_
              refine j_iload_n X 0 dX4_spread_112 rfl (q := 113) rfl ?_
              refine j_bipush (v := nI 14) X dX4_spread_113 (by decide) (q := 115) rfl ?_
              refine j_ishl X dX4_spread_115 (q := 116) rfl ?_
              refine j_eqi (show _ = sh32 y6 14 from rfl) ?_
              refine j_ior X dX4_spread_116 (q := 117) rfl ?_
              refine j_ixor X dX4_spread_117 (q := 118) rfl ?_
              refine j_iload_n X 0 dX4_spread_118 rfl (q := 119) rfl ?_
              refine j_iconst (v := nI 3) X dX4_spread_119 (by decide) (q := 120) rfl ?_
              refine j_iushr X dX4_spread_120 (q := 121) rfl ?_
              refine j_eqi (show _ = ur32 y6 3 from rfl) ?_
              refine j_ixor X dX4_spread_121 (q := 122) rfl ?_
              refine j_topi (fun y7 e_y7 => ?_)
              refine j_istore (lv' := [(4, .int y7), (3, .int y6), (0, .ref a_this), (1, .int (nI x1)), (2, .int (nI (16 + k83_3)))]) X dX4_spread_122 (by decide) rfl (q := 124) rfl ?_
              refine j_aload_n X 2 dX4_spread_124 rfl (q := 125) rfl ?_
              refine j_get (f := 2) X 0 inT4 rfl rfl (by decide) mw_X4_spread_0 rfl dX4_spread_125 (q := 128) rfl ?_
              refine j_iload_n X 4 dX4_spread_128 rfl (q := 129) rfl ?_
              refine j_iconst (v := nI 2) X dX4_spread_129 (by decide) (q := 130) rfl ?_
              refine j_isub X dX4_spread_130 (q := 131) rfl ?_
              refine j_eqi (pk_sub (by omega)) ?_
              refine k_iald X 1 rfl (vp_in_nI (by omega) (by omega)) (nI_clamp (by omega)) dX4_spread_131 (q := 132) rfl ?_
              refine j_topi (fun y8 e_y8 => ?_)
              refine j_istore_n (lv' := [(3, .int y8), (4, .int y7), (0, .ref a_this), (1, .int (nI x1)), (2, .int (nI (16 + k83_3)))]) X dX4_spread_132 (by decide) rfl (q := 133) rfl ?_
              refine j_iload_n X 0 dX4_spread_133 rfl (q := 134) rfl ?_
              refine j_bipush (v := nI 17) X dX4_spread_134 (by decide) (q := 136) rfl ?_
              refine j_iushr X dX4_spread_136 (q := 137) rfl ?_
              refine j_eqi (show _ = ur32 y8 17 from rfl) ?_
              refine j_iload_n X 0 dX4_spread_137 rfl (q := 138) rfl ?_
              refine j_bipush (v := nI 15) X dX4_spread_138 (by decide) (q := 140) rfl ?_
              refine j_ishl X dX4_spread_140 (q := 141) rfl ?_
              refine j_eqi (show _ = sh32 y8 15 from rfl) ?_
              refine j_ior X dX4_spread_141 (q := 142) rfl ?_
              refine j_iload_n X 0 dX4_spread_142 rfl (q := 143) rfl ?_
              refine j_bipush (v := nI 19) X dX4_spread_143 (by decide) (q := 145) rfl ?_
              refine j_iushr X dX4_spread_145 (q := 146) rfl ?_
              refine j_eqi (show _ = ur32 y8 19 from rfl) ?_
              refine j_iload_n X 0 dX4_spread_146 rfl (q := 147) rfl ?_
              refine j_bipush (v := nI 13) X dX4_spread_147 (by decide) (q := 149) rfl ?_
              refine j_ishl X dX4_spread_149 (q := 150) rfl ?_
              refine j_eqi (show _ = sh32 y8 13 from rfl) ?_
              refine j_ior X dX4_spread_150 (q := 151) rfl ?_
              refine j_ixor X dX4_spread_151 (q := 152) rfl ?_
              refine j_iload_n X 0 dX4_spread_152 rfl (q := 153) rfl ?_
              refine j_bipush (v := nI 10) X dX4_spread_153 (by decide) (q := 155) rfl ?_
              refine j_iushr X dX4_spread_155 (q := 156) rfl ?_
              refine j_eqi (show _ = ur32 y8 10 from rfl) ?_
              refine j_ixor X dX4_spread_156 (q := 157) rfl ?_
              refine j_topi (fun y9 e_y9 => ?_)
              refine j_istore (lv' := [(5, .int y9), (3, .int y8), (4, .int y7), (0, .ref a_this), (1, .int (nI x1)), (2, .int (nI (16 + k83_3)))]) X dX4_spread_157 (by decide) rfl (q := 159) rfl ?_
              refine j_aload_n X 3 dX4_spread_159 rfl (q := 160) rfl ?_
              refine j_get (f := 2) X 0 inT4 rfl rfl (by decide) mw_X4_spread_0 rfl dX4_spread_160 (q := 163) rfl ?_
              refine j_iload_n X 5 dX4_spread_163 rfl (q := 164) rfl ?_
              refine j_aload_n X 3 dX4_spread_164 rfl (q := 165) rfl ?_
              refine j_get (f := 2) X 0 inT4 rfl rfl (by decide) mw_X4_spread_0 rfl dX4_spread_165 (q := 168) rfl ?_
              refine j_iload_n X 5 dX4_spread_168 rfl (q := 169) rfl ?_
              refine j_bipush (v := nI 16) X dX4_spread_169 (by decide) (q := 171) rfl ?_
              refine j_isub X dX4_spread_171 (q := 172) rfl ?_
              refine j_eqi (pk_sub (by omega)) ?_
              refine k_iald X 1 rfl (vp_in_nI (by omega) (by omega)) (nI_clamp (by omega)) dX4_spread_172 (q := 173) rfl ?_
              refine j_iload X 2 dX4_spread_173 rfl (q := 175) rfl ?_
              refine j_iadd X dX4_spread_175 (q := 176) rfl ?_
              refine j_aload_n X 3 dX4_spread_176 rfl (q := 177) rfl ?_
              refine j_get (f := 2) X 0 inT4 rfl rfl (by decide) mw_X4_spread_0 rfl dX4_spread_177 (q := 180) rfl ?_
              refine j_iload_n X 5 dX4_spread_180 rfl (q := 181) rfl ?_
              refine j_bipush (v := nI 7) X dX4_spread_181 (by decide) (q := 183) rfl ?_
              refine j_isub X dX4_spread_183 (q := 184) rfl ?_
              refine j_eqi (pk_sub (by omega)) ?_
              refine k_iald X 1 rfl (vp_in_nI (by omega) (by omega)) (nI_clamp (by omega)) dX4_spread_184 (q := 185) rfl ?_
              refine j_iadd X dX4_spread_185 (q := 186) rfl ?_
              refine j_iload X 0 dX4_spread_186 rfl (q := 188) rfl ?_
              refine j_iadd X dX4_spread_188 (q := 189) rfl ?_
              refine j_topi (fun y10 e_y10 => ?_)
              refine k_iast (ws2 := [(a_this, .inr (4, [.ref a_this_state, .ref a_this_text, .ref a_this_w, .ref a_this_inner, .int (nI v_size)])), (a_this_w, .inl (ct 0, 64, .inl (upd t83_3 (16 + k83_3) y10))), (a_this_text, .inl (ct 1, 256, .inl f_text))]) X 1 rfl (vp_in_nI (by omega) (by omega)) (nI_clamp (by omega)) dX4_spread_189 rfl (q := 190) rfl ?_
              refine j_iinc (v := nI (16 + k83_3 + 1)) (lv' := [(2, .int (nI (16 + k83_3 + 1))), (5, .int y9), (3, .int y8), (4, .int y7), (0, .ref a_this), (1, .int (nI x1))]) X 5 dX4_spread_190 rfl (nI_inc _ 1) (by decide) rfl (q := 193) rfl ?_
              refine j_goto (tgt := 83) X dX4_spread_193 (by decide) ?_
              refine j_lv (lv' := [(0, .ref a_this), (1, .int (nI x1)), (2, .int (nI (16 + k83_3 + 1)))]) [4, 5, 0] rfl ?_
              have hb : X4_spread_l83 k83_3 t83_3 = upd t83_3 (16 + k83_3) y10 := (by subst e_y6; subst e_y7; subst e_y8; subst e_y9; subst e_y10; rfl)
              exact ih83_3 (k83_3 + 1) (upd t83_3 (16 + k83_3) y10) (by omega) (by rw [itr_s, ← e_t83_3]; exact hb.symm) 
        exact LP83_3 48 0 t2_1 (by omega) (itr_0 _ _).symm 
      · skip
        have c2 : ¬ 16 ≤ 16 := fun h => c2 ((nI_leI (by omega) (by omega)).mpr h)
        exfalso; omega
    | succ r2_1 ih2_1 =>
      intro k2_1 t2_1 hk_t2_1 e_t2_1 
      refine j_iload_n X 2 dX4_spread_2 rfl (q := 3) rfl ?_
      refine j_bipush (v := nI 16) X dX4_spread_3 (by decide) (q := 5) rfl ?_
      refine j_icmp_ge (tgt := 80) X dX4_spread_5 (by decide) (q := 8) rfl (fun c11 => ?_) (fun c11 => ?_)
      · skip
        have c11 : 16 ≤ k2_1 := (nI_leI (by omega) (by omega)).mp c11
        exfalso; omega
      · skip
        have c11 : ¬ 16 ≤ k2_1 := fun h => c11 ((nI_leI (by omega) (by omega)).mpr h)
        refine j_iload_n X 1 dX4_spread_8 rfl (q := 9) rfl ?_
        refine j_iconst (v := nI 4) X dX4_spread_9 (by decide) (q := 10) rfl ?_
        refine j_iload_n X 2 dX4_spread_10 rfl (q := 11) rfl ?_
        refine j_imul X dX4_spread_11 (q := 12) rfl ?_
        refine j_eqi (pk_mul _ _) ?_
        refine j_iadd X dX4_spread_12 (q := 13) rfl ?_
        refine j_eqi (nI_add _ _) ?_
        refine j_topn (fun n12 e_n12 => ?_)
        refine j_istore_n (lv' := [(3, .int (nI n12)), (0, .ref a_this), (1, .int (nI x1)), (2, .int (nI k2_1))]) X dX4_spread_13 (by decide) rfl (q := 14) rfl ?_
        refine j_aload_n X 1 dX4_spread_14 rfl (q := 15) rfl ?_
        refine j_get (f := 2) X 0 inT4 rfl rfl (by decide) mw_X4_spread_0 rfl dX4_spread_15 (q := 18) rfl ?_
        refine j_iload_n X 3 dX4_spread_18 rfl (q := 19) rfl ?_
        refine j_aload_n X 1 dX4_spread_19 rfl (q := 20) rfl ?_
        refine j_get (f := 1) X 0 inT4 rfl rfl (by decide) mw_X4_spread_1 rfl dX4_spread_20 (q := 23) rfl ?_
        refine j_iload_n X 0 dX4_spread_23 rfl (q := 24) rfl ?_
        refine k_bald X 2 rfl (vp_in_nI (by omega) (by omega)) (nI_clamp (by omega)) dX4_spread_24 (q := 25) rfl ?_
        refine j_bipush (v := nI 24) X dX4_spread_25 (by decide) (q := 27) rfl ?_
        refine j_ishl X dX4_spread_27 (q := 28) rfl ?_
        refine j_eqi (show _ = sh32 (f_text n12) 24 from rfl) ?_
        refine j_aload_n X 1 dX4_spread_28 rfl (q := 29) rfl ?_
        refine j_get (f := 1) X 0 inT4 rfl rfl (by decide) mw_X4_spread_1 rfl dX4_spread_29 (q := 32) rfl ?_
        refine j_iload_n X 0 dX4_spread_32 rfl (q := 33) rfl ?_
        refine j_iconst (v := nI 1) X dX4_spread_33 (by decide) (q := 34) rfl ?_
        refine j_iadd X dX4_spread_34 (q := 35) rfl ?_
        refine j_eqi (nI_add _ _) ?_
        refine k_bald X 2 rfl (vp_in_nI (by omega) (by omega)) (nI_clamp (by omega)) dX4_spread_35 (q := 36) rfl ?_
        refine j_sipush (v := nI 255) X dX4_spread_36 (by decide) (q := 39) rfl ?_
        refine j_iand X dX4_spread_39 (q := 40) rfl ?_
        refine j_bipush (v := nI 16) X dX4_spread_40 (by decide) (q := 42) rfl ?_
        refine j_ishl X dX4_spread_42 (q := 43) rfl ?_
        refine j_eqi (show _ = sh32 ((f_text (n12 + 1)) &&& (nI 255)) 16 from rfl) ?_
        refine j_ior X dX4_spread_43 (q := 44) rfl ?_
        refine j_aload_n X 1 dX4_spread_44 rfl (q := 45) rfl ?_
        refine j_get (f := 1) X 0 inT4 rfl rfl (by decide) mw_X4_spread_1 rfl dX4_spread_45 (q := 48) rfl ?_
        refine j_iload_n X 0 dX4_spread_48 rfl (q := 49) rfl ?_
        refine j_iconst (v := nI 2) X dX4_spread_49 (by decide) (q := 50) rfl ?_
        refine j_iadd X dX4_spread_50 (q := 51) rfl ?_
        refine j_eqi (nI_add _ _) ?_
        refine k_bald X 2 rfl (vp_in_nI (by omega) (by omega)) (nI_clamp (by omega)) dX4_spread_51 (q := 52) rfl ?_
        refine j_sipush (v := nI 255) X dX4_spread_52 (by decide) (q := 55) rfl ?_
        refine j_iand X dX4_spread_55 (q := 56) rfl ?_
        refine j_bipush (v := nI 8) X dX4_spread_56 (by decide) (q := 58) rfl ?_
        refine j_ishl X dX4_spread_58 (q := 59) rfl ?_
        refine j_eqi (show _ = sh32 ((f_text (n12 + 2)) &&& (nI 255)) 8 from rfl) ?_
        refine j_ior X dX4_spread_59 (q := 60) rfl ?_
        refine j_aload_n X 1 dX4_spread_60 rfl (q := 61) rfl ?_
        refine j_get (f := 1) X 0 inT4 rfl rfl (by decide) mw_X4_spread_1 rfl dX4_spread_61 (q := 64) rfl ?_
        refine j_iload_n X 0 dX4_spread_64 rfl (q := 65) rfl ?_
        refine j_iconst (v := nI 3) X dX4_spread_65 (by decide) (q := 66) rfl ?_
        refine j_iadd X dX4_spread_66 (q := 67) rfl ?_
        refine j_eqi (nI_add _ _) ?_
        refine k_bald X 2 rfl (vp_in_nI (by omega) (by omega)) (nI_clamp (by omega)) dX4_spread_67 (q := 68) rfl ?_
        refine j_sipush (v := nI 255) X dX4_spread_68 (by decide) (q := 71) rfl ?_
        refine j_iand X dX4_spread_71 (q := 72) rfl ?_
        refine j_ior X dX4_spread_72 (q := 73) rfl ?_
        refine j_topi (fun y13 e_y13 => ?_)
        refine k_iast (ws2 := [(a_this, .inr (4, [.ref a_this_state, .ref a_this_text, .ref a_this_w, .ref a_this_inner, .int (nI v_size)])), (a_this_w, .inl (ct 0, 64, .inl (upd t2_1 k2_1 y13))), (a_this_text, .inl (ct 1, 256, .inl f_text))]) X 1 rfl (vp_in_nI (by omega) (by omega)) (nI_clamp (by omega)) dX4_spread_73 rfl (q := 74) rfl ?_
        refine j_iinc (v := nI (k2_1 + 1)) (lv' := [(2, .int (nI (k2_1 + 1))), (3, .int (nI n12)), (0, .ref a_this), (1, .int (nI x1))]) X 3 dX4_spread_74 rfl (nI_inc _ 1) (by decide) rfl (q := 77) rfl ?_
        refine j_goto (tgt := 2) X dX4_spread_77 (by decide) ?_
        refine j_lv (lv' := [(0, .ref a_this), (1, .int (nI x1)), (2, .int (nI (k2_1 + 1)))]) [2, 3, 0] rfl ?_
        have hb : (X4_spread_l2 x1 f_text) k2_1 t2_1 = upd t2_1 k2_1 y13 := (by subst e_n12; subst e_y13; rfl)
        exact ih2_1 (k2_1 + 1) (upd t2_1 k2_1 y13) (by omega) (by rw [itr_s, ← e_t2_1]; exact hb.symm) 
  exact LP2_1 16 0 f_w (by omega) (itr_0 _ _).symm 
theorem cal_X4_spread : Cal yX4_spread cX4_spread 6 none 1 := ⟨tb_at 112 (by decide +kernel) (by decide +kernel), tb_at 532 (by decide +kernel) (by decide +kernel), by decide +kernel, by decide +kernel, by decide +kernel⟩
theorem cwi_X4_spread : Cond.instanceMethod yX4_spread ∈ tb := tb_at 531 (by decide +kernel) (by decide +kernel)
theorem cws_X4_spread : Cond.selects yX4_spread.cls yX4_spread yX4_spread ∈ tb := tb_at 1 (by decide +kernel) (by decide +kernel)
theorem mw_X4_mix_0 : Cond.fieldLink "GuardedTree$Digest" 7 "GuardedTree$Digest" "state" "[I" ∈ tb := tb_at 154 (by decide +kernel) (by decide +kernel)
theorem mw_X4_mix_1 : Cond.fieldLink "GuardedTree$Digest" 57 "GuardedTree$Digest" "K" "[I" ∈ tb := tb_at 537 (by decide +kernel) (by decide +kernel)
theorem mw_X4_mix_2 : Cond.fieldLink "GuardedTree$Digest" 17 "GuardedTree$Digest" "w" "[I" ∈ tb := tb_at 158 (by decide +kernel) (by decide +kernel)
theorem dX4_mix_0 : decode cX4_mix 0 = .ok (.aload_n 0, 1) := by decide +kernel
theorem dX4_mix_1 : decode cX4_mix 1 = .ok (.getfield 7, 3) := by decide +kernel
theorem dX4_mix_4 : decode cX4_mix 4 = .ok (.iconst 0, 1) := by decide +kernel
theorem dX4_mix_5 : decode cX4_mix 5 = .ok (.iaload, 1) := by decide +kernel
theorem dX4_mix_6 : decode cX4_mix 6 = .ok (.istore_n 1, 1) := by decide +kernel
theorem dX4_mix_7 : decode cX4_mix 7 = .ok (.aload_n 0, 1) := by decide +kernel
theorem dX4_mix_8 : decode cX4_mix 8 = .ok (.getfield 7, 3) := by decide +kernel
theorem dX4_mix_11 : decode cX4_mix 11 = .ok (.iconst 1, 1) := by decide +kernel
theorem dX4_mix_12 : decode cX4_mix 12 = .ok (.iaload, 1) := by decide +kernel
theorem dX4_mix_13 : decode cX4_mix 13 = .ok (.istore_n 2, 1) := by decide +kernel
theorem dX4_mix_14 : decode cX4_mix 14 = .ok (.aload_n 0, 1) := by decide +kernel
theorem dX4_mix_15 : decode cX4_mix 15 = .ok (.getfield 7, 3) := by decide +kernel
theorem dX4_mix_18 : decode cX4_mix 18 = .ok (.iconst 2, 1) := by decide +kernel
theorem dX4_mix_19 : decode cX4_mix 19 = .ok (.iaload, 1) := by decide +kernel
theorem dX4_mix_20 : decode cX4_mix 20 = .ok (.istore_n 3, 1) := by decide +kernel
theorem dX4_mix_21 : decode cX4_mix 21 = .ok (.aload_n 0, 1) := by decide +kernel
theorem dX4_mix_22 : decode cX4_mix 22 = .ok (.getfield 7, 3) := by decide +kernel
theorem dX4_mix_25 : decode cX4_mix 25 = .ok (.iconst 3, 1) := by decide +kernel
theorem dX4_mix_26 : decode cX4_mix 26 = .ok (.iaload, 1) := by decide +kernel
theorem dX4_mix_27 : decode cX4_mix 27 = .ok (.istore 4, 2) := by decide +kernel
theorem dX4_mix_29 : decode cX4_mix 29 = .ok (.aload_n 0, 1) := by decide +kernel
theorem dX4_mix_30 : decode cX4_mix 30 = .ok (.getfield 7, 3) := by decide +kernel
theorem dX4_mix_33 : decode cX4_mix 33 = .ok (.iconst 4, 1) := by decide +kernel
theorem dX4_mix_34 : decode cX4_mix 34 = .ok (.iaload, 1) := by decide +kernel
theorem dX4_mix_35 : decode cX4_mix 35 = .ok (.istore 5, 2) := by decide +kernel
theorem dX4_mix_37 : decode cX4_mix 37 = .ok (.aload_n 0, 1) := by decide +kernel
theorem dX4_mix_38 : decode cX4_mix 38 = .ok (.getfield 7, 3) := by decide +kernel
theorem dX4_mix_41 : decode cX4_mix 41 = .ok (.iconst 5, 1) := by decide +kernel
theorem dX4_mix_42 : decode cX4_mix 42 = .ok (.iaload, 1) := by decide +kernel
theorem dX4_mix_43 : decode cX4_mix 43 = .ok (.istore 6, 2) := by decide +kernel
theorem dX4_mix_45 : decode cX4_mix 45 = .ok (.aload_n 0, 1) := by decide +kernel
theorem dX4_mix_46 : decode cX4_mix 46 = .ok (.getfield 7, 3) := by decide +kernel
theorem dX4_mix_49 : decode cX4_mix 49 = .ok (.bipush 6, 2) := by decide +kernel
theorem dX4_mix_51 : decode cX4_mix 51 = .ok (.iaload, 1) := by decide +kernel
theorem dX4_mix_52 : decode cX4_mix 52 = .ok (.istore 7, 2) := by decide +kernel
theorem dX4_mix_54 : decode cX4_mix 54 = .ok (.aload_n 0, 1) := by decide +kernel
theorem dX4_mix_55 : decode cX4_mix 55 = .ok (.getfield 7, 3) := by decide +kernel
theorem dX4_mix_58 : decode cX4_mix 58 = .ok (.bipush 7, 2) := by decide +kernel
theorem dX4_mix_60 : decode cX4_mix 60 = .ok (.iaload, 1) := by decide +kernel
theorem dX4_mix_61 : decode cX4_mix 61 = .ok (.istore 8, 2) := by decide +kernel
theorem dX4_mix_63 : decode cX4_mix 63 = .ok (.iconst 0, 1) := by decide +kernel
theorem dX4_mix_64 : decode cX4_mix 64 = .ok (.istore 9, 2) := by decide +kernel
theorem dX4_mix_66 : decode cX4_mix 66 = .ok (.iload 9, 2) := by decide +kernel
theorem dX4_mix_68 : decode cX4_mix 68 = .ok (.bipush 64, 2) := by decide +kernel
theorem dX4_mix_70 : decode cX4_mix 70 = .ok (.if_icmp .ge 160, 3) := by decide +kernel
theorem dX4_mix_73 : decode cX4_mix 73 = .ok (.iload 5, 2) := by decide +kernel
theorem dX4_mix_75 : decode cX4_mix 75 = .ok (.bipush 6, 2) := by decide +kernel
theorem dX4_mix_77 : decode cX4_mix 77 = .ok (.iushr, 1) := by decide +kernel
theorem dX4_mix_78 : decode cX4_mix 78 = .ok (.iload 5, 2) := by decide +kernel
theorem dX4_mix_80 : decode cX4_mix 80 = .ok (.bipush 26, 2) := by decide +kernel
theorem dX4_mix_82 : decode cX4_mix 82 = .ok (.ishl, 1) := by decide +kernel
theorem dX4_mix_83 : decode cX4_mix 83 = .ok (.ior, 1) := by decide +kernel
theorem dX4_mix_84 : decode cX4_mix 84 = .ok (.iload 5, 2) := by decide +kernel
theorem dX4_mix_86 : decode cX4_mix 86 = .ok (.bipush 11, 2) := by decide +kernel
theorem dX4_mix_88 : decode cX4_mix 88 = .ok (.iushr, 1) := by decide +kernel
theorem dX4_mix_89 : decode cX4_mix 89 = .ok (.iload 5, 2) := by decide +kernel
theorem dX4_mix_91 : decode cX4_mix 91 = .ok (.bipush 21, 2) := by decide +kernel
theorem dX4_mix_93 : decode cX4_mix 93 = .ok (.ishl, 1) := by decide +kernel
theorem dX4_mix_94 : decode cX4_mix 94 = .ok (.ior, 1) := by decide +kernel
theorem dX4_mix_95 : decode cX4_mix 95 = .ok (.ixor, 1) := by decide +kernel
theorem dX4_mix_96 : decode cX4_mix 96 = .ok (.iload 5, 2) := by decide +kernel
theorem dX4_mix_98 : decode cX4_mix 98 = .ok (.bipush 25, 2) := by decide +kernel
theorem dX4_mix_100 : decode cX4_mix 100 = .ok (.iushr, 1) := by decide +kernel
theorem dX4_mix_101 : decode cX4_mix 101 = .ok (.iload 5, 2) := by decide +kernel
theorem dX4_mix_103 : decode cX4_mix 103 = .ok (.bipush 7, 2) := by decide +kernel
theorem dX4_mix_105 : decode cX4_mix 105 = .ok (.ishl, 1) := by decide +kernel
theorem dX4_mix_106 : decode cX4_mix 106 = .ok (.ior, 1) := by decide +kernel
theorem dX4_mix_107 : decode cX4_mix 107 = .ok (.ixor, 1) := by decide +kernel
theorem dX4_mix_108 : decode cX4_mix 108 = .ok (.istore 10, 2) := by decide +kernel
theorem dX4_mix_110 : decode cX4_mix 110 = .ok (.iload 8, 2) := by decide +kernel
theorem dX4_mix_112 : decode cX4_mix 112 = .ok (.iload 10, 2) := by decide +kernel
theorem dX4_mix_114 : decode cX4_mix 114 = .ok (.iadd, 1) := by decide +kernel
theorem dX4_mix_115 : decode cX4_mix 115 = .ok (.iload 5, 2) := by decide +kernel
theorem dX4_mix_117 : decode cX4_mix 117 = .ok (.iload 6, 2) := by decide +kernel
theorem dX4_mix_119 : decode cX4_mix 119 = .ok (.iand, 1) := by decide +kernel
theorem dX4_mix_120 : decode cX4_mix 120 = .ok (.iload 5, 2) := by decide +kernel
theorem dX4_mix_122 : decode cX4_mix 122 = .ok (.iconst (-1), 1) := by decide +kernel
theorem dX4_mix_123 : decode cX4_mix 123 = .ok (.ixor, 1) := by decide +kernel
theorem dX4_mix_124 : decode cX4_mix 124 = .ok (.iload 7, 2) := by decide +kernel
theorem dX4_mix_126 : decode cX4_mix 126 = .ok (.iand, 1) := by decide +kernel
theorem dX4_mix_127 : decode cX4_mix 127 = .ok (.ixor, 1) := by decide +kernel
theorem dX4_mix_128 : decode cX4_mix 128 = .ok (.iadd, 1) := by decide +kernel
theorem dX4_mix_129 : decode cX4_mix 129 = .ok (.getstatic 57, 3) := by decide +kernel
theorem dX4_mix_132 : decode cX4_mix 132 = .ok (.iload 9, 2) := by decide +kernel
theorem dX4_mix_134 : decode cX4_mix 134 = .ok (.iaload, 1) := by decide +kernel
theorem dX4_mix_135 : decode cX4_mix 135 = .ok (.iadd, 1) := by decide +kernel
theorem dX4_mix_136 : decode cX4_mix 136 = .ok (.aload_n 0, 1) := by decide +kernel
theorem dX4_mix_137 : decode cX4_mix 137 = .ok (.getfield 17, 3) := by decide +kernel
theorem dX4_mix_140 : decode cX4_mix 140 = .ok (.iload 9, 2) := by decide +kernel
theorem dX4_mix_142 : decode cX4_mix 142 = .ok (.iaload, 1) := by decide +kernel
theorem dX4_mix_143 : decode cX4_mix 143 = .ok (.iadd, 1) := by decide +kernel
theorem dX4_mix_144 : decode cX4_mix 144 = .ok (.istore 11, 2) := by decide +kernel
theorem dX4_mix_146 : decode cX4_mix 146 = .ok (.iload_n 1, 1) := by decide +kernel
theorem dX4_mix_147 : decode cX4_mix 147 = .ok (.iconst 2, 1) := by decide +kernel
theorem dX4_mix_148 : decode cX4_mix 148 = .ok (.iushr, 1) := by decide +kernel
theorem dX4_mix_149 : decode cX4_mix 149 = .ok (.iload_n 1, 1) := by decide +kernel
theorem dX4_mix_150 : decode cX4_mix 150 = .ok (.bipush 30, 2) := by decide +kernel
theorem dX4_mix_152 : decode cX4_mix 152 = .ok (.ishl, 1) := by decide +kernel
theorem dX4_mix_153 : decode cX4_mix 153 = .ok (.ior, 1) := by decide +kernel
theorem dX4_mix_154 : decode cX4_mix 154 = .ok (.iload_n 1, 1) := by decide +kernel
theorem dX4_mix_155 : decode cX4_mix 155 = .ok (.bipush 13, 2) := by decide +kernel
theorem dX4_mix_157 : decode cX4_mix 157 = .ok (.iushr, 1) := by decide +kernel
theorem dX4_mix_158 : decode cX4_mix 158 = .ok (.iload_n 1, 1) := by decide +kernel
theorem dX4_mix_159 : decode cX4_mix 159 = .ok (.bipush 19, 2) := by decide +kernel
theorem dX4_mix_161 : decode cX4_mix 161 = .ok (.ishl, 1) := by decide +kernel
theorem dX4_mix_162 : decode cX4_mix 162 = .ok (.ior, 1) := by decide +kernel
theorem dX4_mix_163 : decode cX4_mix 163 = .ok (.ixor, 1) := by decide +kernel
theorem dX4_mix_164 : decode cX4_mix 164 = .ok (.iload_n 1, 1) := by decide +kernel
theorem dX4_mix_165 : decode cX4_mix 165 = .ok (.bipush 22, 2) := by decide +kernel
theorem dX4_mix_167 : decode cX4_mix 167 = .ok (.iushr, 1) := by decide +kernel
theorem dX4_mix_168 : decode cX4_mix 168 = .ok (.iload_n 1, 1) := by decide +kernel
theorem dX4_mix_169 : decode cX4_mix 169 = .ok (.bipush 10, 2) := by decide +kernel
theorem dX4_mix_171 : decode cX4_mix 171 = .ok (.ishl, 1) := by decide +kernel
theorem dX4_mix_172 : decode cX4_mix 172 = .ok (.ior, 1) := by decide +kernel
theorem dX4_mix_173 : decode cX4_mix 173 = .ok (.ixor, 1) := by decide +kernel
theorem dX4_mix_174 : decode cX4_mix 174 = .ok (.istore 12, 2) := by decide +kernel
theorem dX4_mix_176 : decode cX4_mix 176 = .ok (.iload 12, 2) := by decide +kernel
theorem dX4_mix_178 : decode cX4_mix 178 = .ok (.iload_n 1, 1) := by decide +kernel
theorem dX4_mix_179 : decode cX4_mix 179 = .ok (.iload_n 2, 1) := by decide +kernel
theorem dX4_mix_180 : decode cX4_mix 180 = .ok (.iand, 1) := by decide +kernel
theorem dX4_mix_181 : decode cX4_mix 181 = .ok (.iload_n 1, 1) := by decide +kernel
theorem dX4_mix_182 : decode cX4_mix 182 = .ok (.iload_n 3, 1) := by decide +kernel
theorem dX4_mix_183 : decode cX4_mix 183 = .ok (.iand, 1) := by decide +kernel
theorem dX4_mix_184 : decode cX4_mix 184 = .ok (.ixor, 1) := by decide +kernel
theorem dX4_mix_185 : decode cX4_mix 185 = .ok (.iload_n 2, 1) := by decide +kernel
theorem dX4_mix_186 : decode cX4_mix 186 = .ok (.iload_n 3, 1) := by decide +kernel
theorem dX4_mix_187 : decode cX4_mix 187 = .ok (.iand, 1) := by decide +kernel
theorem dX4_mix_188 : decode cX4_mix 188 = .ok (.ixor, 1) := by decide +kernel
theorem dX4_mix_189 : decode cX4_mix 189 = .ok (.iadd, 1) := by decide +kernel
theorem dX4_mix_190 : decode cX4_mix 190 = .ok (.istore 13, 2) := by decide +kernel
theorem dX4_mix_192 : decode cX4_mix 192 = .ok (.iload 7, 2) := by decide +kernel
theorem dX4_mix_194 : decode cX4_mix 194 = .ok (.istore 8, 2) := by decide +kernel
theorem dX4_mix_196 : decode cX4_mix 196 = .ok (.iload 6, 2) := by decide +kernel
theorem dX4_mix_198 : decode cX4_mix 198 = .ok (.istore 7, 2) := by decide +kernel
theorem dX4_mix_200 : decode cX4_mix 200 = .ok (.iload 5, 2) := by decide +kernel
theorem dX4_mix_202 : decode cX4_mix 202 = .ok (.istore 6, 2) := by decide +kernel
theorem dX4_mix_204 : decode cX4_mix 204 = .ok (.iload 4, 2) := by decide +kernel
theorem dX4_mix_206 : decode cX4_mix 206 = .ok (.iload 11, 2) := by decide +kernel
theorem dX4_mix_208 : decode cX4_mix 208 = .ok (.iadd, 1) := by decide +kernel
theorem dX4_mix_209 : decode cX4_mix 209 = .ok (.istore 5, 2) := by decide +kernel
theorem dX4_mix_211 : decode cX4_mix 211 = .ok (.iload_n 3, 1) := by decide +kernel
theorem dX4_mix_212 : decode cX4_mix 212 = .ok (.istore 4, 2) := by decide +kernel
theorem dX4_mix_214 : decode cX4_mix 214 = .ok (.iload_n 2, 1) := by decide +kernel
theorem dX4_mix_215 : decode cX4_mix 215 = .ok (.istore_n 3, 1) := by decide +kernel
theorem dX4_mix_216 : decode cX4_mix 216 = .ok (.iload_n 1, 1) := by decide +kernel
theorem dX4_mix_217 : decode cX4_mix 217 = .ok (.istore_n 2, 1) := by decide +kernel
theorem dX4_mix_218 : decode cX4_mix 218 = .ok (.iload 11, 2) := by decide +kernel
theorem dX4_mix_220 : decode cX4_mix 220 = .ok (.iload 13, 2) := by decide +kernel
theorem dX4_mix_222 : decode cX4_mix 222 = .ok (.iadd, 1) := by decide +kernel
theorem dX4_mix_223 : decode cX4_mix 223 = .ok (.istore_n 1, 1) := by decide +kernel
theorem dX4_mix_224 : decode cX4_mix 224 = .ok (.iinc 9 1, 3) := by decide +kernel
theorem dX4_mix_227 : decode cX4_mix 227 = .ok (.goto (-161), 3) := by decide +kernel
theorem dX4_mix_230 : decode cX4_mix 230 = .ok (.aload_n 0, 1) := by decide +kernel
theorem dX4_mix_231 : decode cX4_mix 231 = .ok (.getfield 7, 3) := by decide +kernel
theorem dX4_mix_234 : decode cX4_mix 234 = .ok (.iconst 0, 1) := by decide +kernel
theorem dX4_mix_235 : decode cX4_mix 235 = .ok (.dup2, 1) := by decide +kernel
theorem dX4_mix_236 : decode cX4_mix 236 = .ok (.iaload, 1) := by decide +kernel
theorem dX4_mix_237 : decode cX4_mix 237 = .ok (.iload_n 1, 1) := by decide +kernel
theorem dX4_mix_238 : decode cX4_mix 238 = .ok (.iadd, 1) := by decide +kernel
theorem dX4_mix_239 : decode cX4_mix 239 = .ok (.iastore, 1) := by decide +kernel
theorem dX4_mix_240 : decode cX4_mix 240 = .ok (.aload_n 0, 1) := by decide +kernel
theorem dX4_mix_241 : decode cX4_mix 241 = .ok (.getfield 7, 3) := by decide +kernel
theorem dX4_mix_244 : decode cX4_mix 244 = .ok (.iconst 1, 1) := by decide +kernel
theorem dX4_mix_245 : decode cX4_mix 245 = .ok (.dup2, 1) := by decide +kernel
theorem dX4_mix_246 : decode cX4_mix 246 = .ok (.iaload, 1) := by decide +kernel
theorem dX4_mix_247 : decode cX4_mix 247 = .ok (.iload_n 2, 1) := by decide +kernel
theorem dX4_mix_248 : decode cX4_mix 248 = .ok (.iadd, 1) := by decide +kernel
theorem dX4_mix_249 : decode cX4_mix 249 = .ok (.iastore, 1) := by decide +kernel
theorem dX4_mix_250 : decode cX4_mix 250 = .ok (.aload_n 0, 1) := by decide +kernel
theorem dX4_mix_251 : decode cX4_mix 251 = .ok (.getfield 7, 3) := by decide +kernel
theorem dX4_mix_254 : decode cX4_mix 254 = .ok (.iconst 2, 1) := by decide +kernel
theorem dX4_mix_255 : decode cX4_mix 255 = .ok (.dup2, 1) := by decide +kernel
theorem dX4_mix_256 : decode cX4_mix 256 = .ok (.iaload, 1) := by decide +kernel
theorem dX4_mix_257 : decode cX4_mix 257 = .ok (.iload_n 3, 1) := by decide +kernel
theorem dX4_mix_258 : decode cX4_mix 258 = .ok (.iadd, 1) := by decide +kernel
theorem dX4_mix_259 : decode cX4_mix 259 = .ok (.iastore, 1) := by decide +kernel
theorem dX4_mix_260 : decode cX4_mix 260 = .ok (.aload_n 0, 1) := by decide +kernel
theorem dX4_mix_261 : decode cX4_mix 261 = .ok (.getfield 7, 3) := by decide +kernel
theorem dX4_mix_264 : decode cX4_mix 264 = .ok (.iconst 3, 1) := by decide +kernel
theorem dX4_mix_265 : decode cX4_mix 265 = .ok (.dup2, 1) := by decide +kernel
theorem dX4_mix_266 : decode cX4_mix 266 = .ok (.iaload, 1) := by decide +kernel
theorem dX4_mix_267 : decode cX4_mix 267 = .ok (.iload 4, 2) := by decide +kernel
theorem dX4_mix_269 : decode cX4_mix 269 = .ok (.iadd, 1) := by decide +kernel
theorem dX4_mix_270 : decode cX4_mix 270 = .ok (.iastore, 1) := by decide +kernel
theorem dX4_mix_271 : decode cX4_mix 271 = .ok (.aload_n 0, 1) := by decide +kernel
theorem dX4_mix_272 : decode cX4_mix 272 = .ok (.getfield 7, 3) := by decide +kernel
theorem dX4_mix_275 : decode cX4_mix 275 = .ok (.iconst 4, 1) := by decide +kernel
theorem dX4_mix_276 : decode cX4_mix 276 = .ok (.dup2, 1) := by decide +kernel
theorem dX4_mix_277 : decode cX4_mix 277 = .ok (.iaload, 1) := by decide +kernel
theorem dX4_mix_278 : decode cX4_mix 278 = .ok (.iload 5, 2) := by decide +kernel
theorem dX4_mix_280 : decode cX4_mix 280 = .ok (.iadd, 1) := by decide +kernel
theorem dX4_mix_281 : decode cX4_mix 281 = .ok (.iastore, 1) := by decide +kernel
theorem dX4_mix_282 : decode cX4_mix 282 = .ok (.aload_n 0, 1) := by decide +kernel
theorem dX4_mix_283 : decode cX4_mix 283 = .ok (.getfield 7, 3) := by decide +kernel
theorem dX4_mix_286 : decode cX4_mix 286 = .ok (.iconst 5, 1) := by decide +kernel
theorem dX4_mix_287 : decode cX4_mix 287 = .ok (.dup2, 1) := by decide +kernel
theorem dX4_mix_288 : decode cX4_mix 288 = .ok (.iaload, 1) := by decide +kernel
theorem dX4_mix_289 : decode cX4_mix 289 = .ok (.iload 6, 2) := by decide +kernel
theorem dX4_mix_291 : decode cX4_mix 291 = .ok (.iadd, 1) := by decide +kernel
theorem dX4_mix_292 : decode cX4_mix 292 = .ok (.iastore, 1) := by decide +kernel
theorem dX4_mix_293 : decode cX4_mix 293 = .ok (.aload_n 0, 1) := by decide +kernel
theorem dX4_mix_294 : decode cX4_mix 294 = .ok (.getfield 7, 3) := by decide +kernel
theorem dX4_mix_297 : decode cX4_mix 297 = .ok (.bipush 6, 2) := by decide +kernel
theorem dX4_mix_299 : decode cX4_mix 299 = .ok (.dup2, 1) := by decide +kernel
theorem dX4_mix_300 : decode cX4_mix 300 = .ok (.iaload, 1) := by decide +kernel
theorem dX4_mix_301 : decode cX4_mix 301 = .ok (.iload 7, 2) := by decide +kernel
theorem dX4_mix_303 : decode cX4_mix 303 = .ok (.iadd, 1) := by decide +kernel
theorem dX4_mix_304 : decode cX4_mix 304 = .ok (.iastore, 1) := by decide +kernel
theorem dX4_mix_305 : decode cX4_mix 305 = .ok (.aload_n 0, 1) := by decide +kernel
theorem dX4_mix_306 : decode cX4_mix 306 = .ok (.getfield 7, 3) := by decide +kernel
theorem dX4_mix_309 : decode cX4_mix 309 = .ok (.bipush 7, 2) := by decide +kernel
theorem dX4_mix_311 : decode cX4_mix 311 = .ok (.dup2, 1) := by decide +kernel
theorem dX4_mix_312 : decode cX4_mix 312 = .ok (.iaload, 1) := by decide +kernel
theorem dX4_mix_313 : decode cX4_mix 313 = .ok (.iload 8, 2) := by decide +kernel
theorem dX4_mix_315 : decode cX4_mix 315 = .ok (.iadd, 1) := by decide +kernel
theorem dX4_mix_316 : decode cX4_mix 316 = .ok (.iastore, 1) := by decide +kernel
theorem dX4_mix_317 : decode cX4_mix 317 = .ok (.return_, 1) := by decide +kernel
noncomputable def X4_mix_l66 (f_w : Nat → Int32) (k66_9 : Nat) (t66_9 : (Int32) × (Int32) × (Int32) × (Int32) × (Int32) × (Int32) × (Int32) × (Int32)) : (Int32) × (Int32) × (Int32) × (Int32) × (Int32) × (Int32) × (Int32) × (Int32) :=
  let y20 := (((ur32 t66_9.2.2.2.2.1 6) ||| (sh32 t66_9.2.2.2.2.1 26)) ^^^ ((ur32 t66_9.2.2.2.2.1 11) ||| (sh32 t66_9.2.2.2.2.1 21))) ^^^ ((ur32 t66_9.2.2.2.2.1 25) ||| (sh32 t66_9.2.2.2.2.1 7))
  let y21 := (((t66_9.2.2.2.2.2.2.2 + y20) + ((t66_9.2.2.2.2.1 &&& t66_9.2.2.2.2.2.1) ^^^ ((t66_9.2.2.2.2.1 ^^^ ((-1))) &&& t66_9.2.2.2.2.2.2.1))) + (tab_Digest_K.getD k66_9 0)) + (f_w k66_9)
  let y22 := (((ur32 t66_9.1 2) ||| (sh32 t66_9.1 30)) ^^^ ((ur32 t66_9.1 13) ||| (sh32 t66_9.1 19))) ^^^ ((ur32 t66_9.1 22) ||| (sh32 t66_9.1 10))
  let y23 := y22 + (((t66_9.1 &&& t66_9.2.1) ^^^ (t66_9.1 &&& t66_9.2.2.1)) ^^^ (t66_9.2.1 &&& t66_9.2.2.1))
  let y24 := t66_9.2.2.2.1 + y21
  let y25 := y21 + y23
  (y25, t66_9.1, t66_9.2.1, t66_9.2.2.1, y24, t66_9.2.2.2.2.1, t66_9.2.2.2.2.2.1, t66_9.2.2.2.2.2.2.1)
noncomputable def f_X4_mix (f_state : Nat → Int32) (f_w : Nat → Int32) : (Nat → Int32) :=
  let y1 := f_state 0
  let y2 := f_state 1
  let y3 := f_state 2
  let y4 := f_state 3
  let y5 := f_state 4
  let y6 := f_state 5
  let y7 := f_state 6
  let y8 := f_state 7
  let t66_9 := itr (X4_mix_l66 f_w) ((y1, y2, y3, y4, y5, y6, y7, y8)) 64
  let y11 := (f_state 0) + t66_9.1
  let y12 := ((upd f_state 0 y11) 1) + t66_9.2.1
  let y13 := ((upd (upd f_state 0 y11) 1 y12) 2) + t66_9.2.2.1
  let y14 := ((upd (upd (upd f_state 0 y11) 1 y12) 2 y13) 3) + t66_9.2.2.2.1
  let y15 := ((upd (upd (upd (upd f_state 0 y11) 1 y12) 2 y13) 3 y14) 4) + t66_9.2.2.2.2.1
  let y16 := ((upd (upd (upd (upd (upd f_state 0 y11) 1 y12) 2 y13) 3 y14) 4 y15) 5) + t66_9.2.2.2.2.2.1
  let y17 := ((upd (upd (upd (upd (upd (upd f_state 0 y11) 1 y12) 2 y13) 3 y14) 4 y15) 5 y16) 6) + t66_9.2.2.2.2.2.2.1
  let y18 := ((upd (upd (upd (upd (upd (upd (upd f_state 0 y11) 1 y12) 2 y13) 3 y14) 4 y15) 5 y16) 6 y17) 7) + t66_9.2.2.2.2.2.2.2
  upd (upd (upd (upd (upd (upd (upd (upd f_state 0 y11) 1 y12) 2 y13) 3 y14) 4 y15) 5 y16) 6 y17) 7 y18
set_option maxHeartbeats 4000000 in
set_option maxRecDepth 100000 in
theorem c_X4_mix (l : Launch) (D : va_G) (ct : Nat → ClassId) (ts : Nat → Nat) (a_this a_this_state a_this_w a_this_text a_this_inner : Nat) (v_size : Nat) (f_state : Nat → Int32) (f_w : Nat → Int32)    (sz : Nat) : Met l yX4_mix (Cond.code yX4_mix cX4_mix 14 none :: tb) { frames := 0, cells := 0, slots := 0, locals := 0 } (PcG D ct SXL ts [.ref a_this] [(a_this, .inr (4, [.ref a_this_state, .ref a_this_text, .ref a_this_w, .ref a_this_inner, .int (nI v_size)])), (a_this_state, .inl (ct 0, 8, .inl f_state)), (a_this_w, .inl (ct 0, 64, .inl f_w))] sz) (va_Qv (fun u : (Nat → Int32) => u = f_X4_mix f_state f_w) (fun u => BG D ct (va_A [(a_this, .inr (4, [.ref a_this_state, .ref a_this_text, .ref a_this_w, .ref a_this_inner, .int (nI v_size)])), (a_this_state, .inl (ct 0, 8, .inl f_state)), (a_this_w, .inl (ct 0, 64, .inl f_w))] sz) [(a_this, .inr (4, [.ref a_this_state, .ref a_this_text, .ref a_this_w, .ref a_this_inner, .int (nI v_size)])), (a_this_state, .inl (ct 0, 8, .inl u)), (a_this_w, .inl (ct 0, 64, .inl f_w))]) (va_A [(a_this, .inr (4, [.ref a_this_state, .ref a_this_text, .ref a_this_w, .ref a_this_inner, .int (nI v_size)])), (a_this_state, .inl (ct 0, 8, .inl f_state)), (a_this_w, .inl (ct 0, 64, .inl f_w))] sz)) 0 0 (va_A [(a_this, .inr (4, [.ref a_this_state, .ref a_this_text, .ref a_this_w, .ref a_this_inner, .int (nI v_size)])), (a_this_state, .inl (ct 0, 8, .inl f_state)), (a_this_w, .inl (ct 0, 64, .inl f_w))] sz) := by
  refine metJ (QcF := fun A => va_Qv (fun u : (Nat → Int32) => u = f_X4_mix f_state f_w) (fun u => BG D ct A [(a_this, .inr (4, [.ref a_this_state, .ref a_this_text, .ref a_this_w, .ref a_this_inner, .int (nI v_size)])), (a_this_state, .inl (ct 0, 8, .inl u)), (a_this_w, .inl (ct 0, 64, .inl f_w))]) A) (by decide) (Nat.le_of_ble_eq_true rfl) ?_
  intro p e s m below meth c A X hnm
  obtain ⟨Q, hQ⟩ : ∃ Q, Q = MQ below (va_Qv (fun u : (Nat → Int32) => u = f_X4_mix f_state f_w) (fun u => BG D ct A [(a_this, .inr (4, [.ref a_this_state, .ref a_this_text, .ref a_this_w, .ref a_this_inner, .int (nI v_size)])), (a_this_state, .inl (ct 0, 8, .inl u)), (a_this_w, .inl (ct 0, 64, .inl f_w))]) A) [.ref a_this].toArray s 0 0 A := ⟨_, rfl⟩
  rw [← hQ]
  refine j_lve (lv' := [(0, .ref a_this)]) rfl ?_
  refine j_aload_n X 0 dX4_mix_0 rfl (q := 1) rfl ?_
  refine j_get (f := 0) X 0 inT4 rfl rfl (by decide) mw_X4_mix_0 rfl dX4_mix_1 (q := 4) rfl ?_
  refine j_iconst (v := nI 0) X dX4_mix_4 (by decide) (q := 5) rfl ?_
  refine k_iald X 1 rfl (vp_in_nI (by omega) (by omega)) (nI_clamp (by omega)) dX4_mix_5 (q := 6) rfl ?_
  refine j_topi (fun y1 e_y1 => ?_)
  refine j_istore_n (lv' := [(1, .int y1), (0, .ref a_this)]) X dX4_mix_6 (by decide) rfl (q := 7) rfl ?_
  refine j_aload_n X 1 dX4_mix_7 rfl (q := 8) rfl ?_
  refine j_get (f := 0) X 0 inT4 rfl rfl (by decide) mw_X4_mix_0 rfl dX4_mix_8 (q := 11) rfl ?_
  refine j_iconst (v := nI 1) X dX4_mix_11 (by decide) (q := 12) rfl ?_
  refine k_iald X 1 rfl (vp_in_nI (by omega) (by omega)) (nI_clamp (by omega)) dX4_mix_12 (q := 13) rfl ?_
  refine j_topi (fun y2 e_y2 => ?_)
  refine j_istore_n (lv' := [(2, .int y2), (1, .int y1), (0, .ref a_this)]) X dX4_mix_13 (by decide) rfl (q := 14) rfl ?_
  refine j_aload_n X 2 dX4_mix_14 rfl (q := 15) rfl ?_
  refine j_get (f := 0) X 0 inT4 rfl rfl (by decide) mw_X4_mix_0 rfl dX4_mix_15 (q := 18) rfl ?_
  refine j_iconst (v := nI 2) X dX4_mix_18 (by decide) (q := 19) rfl ?_
  refine k_iald X 1 rfl (vp_in_nI (by omega) (by omega)) (nI_clamp (by omega)) dX4_mix_19 (q := 20) rfl ?_
  refine j_topi (fun y3 e_y3 => ?_)
  refine j_istore_n (lv' := [(3, .int y3), (2, .int y2), (1, .int y1), (0, .ref a_this)]) X dX4_mix_20 (by decide) rfl (q := 21) rfl ?_
  refine j_aload_n X 3 dX4_mix_21 rfl (q := 22) rfl ?_
  refine j_get (f := 0) X 0 inT4 rfl rfl (by decide) mw_X4_mix_0 rfl dX4_mix_22 (q := 25) rfl ?_
  refine j_iconst (v := nI 3) X dX4_mix_25 (by decide) (q := 26) rfl ?_
  refine k_iald X 1 rfl (vp_in_nI (by omega) (by omega)) (nI_clamp (by omega)) dX4_mix_26 (q := 27) rfl ?_
  refine j_topi (fun y4 e_y4 => ?_)
  refine j_istore (lv' := [(4, .int y4), (3, .int y3), (2, .int y2), (1, .int y1), (0, .ref a_this)]) X dX4_mix_27 (by decide) rfl (q := 29) rfl ?_
  refine j_aload_n X 4 dX4_mix_29 rfl (q := 30) rfl ?_
  refine j_get (f := 0) X 0 inT4 rfl rfl (by decide) mw_X4_mix_0 rfl dX4_mix_30 (q := 33) rfl ?_
  refine j_iconst (v := nI 4) X dX4_mix_33 (by decide) (q := 34) rfl ?_
  refine k_iald X 1 rfl (vp_in_nI (by omega) (by omega)) (nI_clamp (by omega)) dX4_mix_34 (q := 35) rfl ?_
  refine j_topi (fun y5 e_y5 => ?_)
  refine j_istore (lv' := [(5, .int y5), (4, .int y4), (3, .int y3), (2, .int y2), (1, .int y1), (0, .ref a_this)]) X dX4_mix_35 (by decide) rfl (q := 37) rfl ?_
  refine j_aload_n X 5 dX4_mix_37 rfl (q := 38) rfl ?_
  refine j_get (f := 0) X 0 inT4 rfl rfl (by decide) mw_X4_mix_0 rfl dX4_mix_38 (q := 41) rfl ?_
  refine j_iconst (v := nI 5) X dX4_mix_41 (by decide) (q := 42) rfl ?_
  refine k_iald X 1 rfl (vp_in_nI (by omega) (by omega)) (nI_clamp (by omega)) dX4_mix_42 (q := 43) rfl ?_
  refine j_topi (fun y6 e_y6 => ?_)
  refine j_istore (lv' := [(6, .int y6), (5, .int y5), (4, .int y4), (3, .int y3), (2, .int y2), (1, .int y1), (0, .ref a_this)]) X dX4_mix_43 (by decide) rfl (q := 45) rfl ?_
  refine j_aload_n X 6 dX4_mix_45 rfl (q := 46) rfl ?_
  refine j_get (f := 0) X 0 inT4 rfl rfl (by decide) mw_X4_mix_0 rfl dX4_mix_46 (q := 49) rfl ?_
  refine j_bipush (v := nI 6) X dX4_mix_49 (by decide) (q := 51) rfl ?_
  refine k_iald X 1 rfl (vp_in_nI (by omega) (by omega)) (nI_clamp (by omega)) dX4_mix_51 (q := 52) rfl ?_
  refine j_topi (fun y7 e_y7 => ?_)
  refine j_istore (lv' := [(7, .int y7), (6, .int y6), (5, .int y5), (4, .int y4), (3, .int y3), (2, .int y2), (1, .int y1), (0, .ref a_this)]) X dX4_mix_52 (by decide) rfl (q := 54) rfl ?_
  refine j_aload_n X 7 dX4_mix_54 rfl (q := 55) rfl ?_
  refine j_get (f := 0) X 0 inT4 rfl rfl (by decide) mw_X4_mix_0 rfl dX4_mix_55 (q := 58) rfl ?_
  refine j_bipush (v := nI 7) X dX4_mix_58 (by decide) (q := 60) rfl ?_
  refine k_iald X 1 rfl (vp_in_nI (by omega) (by omega)) (nI_clamp (by omega)) dX4_mix_60 (q := 61) rfl ?_
  refine j_topi (fun y8 e_y8 => ?_)
  refine j_istore (lv' := [(8, .int y8), (7, .int y7), (6, .int y6), (5, .int y5), (4, .int y4), (3, .int y3), (2, .int y2), (1, .int y1), (0, .ref a_this)]) X dX4_mix_61 (by decide) rfl (q := 63) rfl ?_
  refine j_iconst (v := nI 0) X dX4_mix_63 (by decide) (q := 64) rfl ?_
  refine j_istore (lv' := [(9, .int (nI 0)), (8, .int y8), (7, .int y7), (6, .int y6), (5, .int y5), (4, .int y4), (3, .int y3), (2, .int y2), (1, .int y1), (0, .ref a_this)]) X dX4_mix_64 (by decide) rfl (q := 66) rfl ?_
  refine j_lv (lv' := [(0, .ref a_this), (1, .int y1), (2, .int y2), (3, .int y3), (4, .int y4), (5, .int y5), (6, .int y6), (7, .int y7), (8, .int y8), (9, .int (nI 0))]) [9, 8, 7, 6, 5, 4, 3, 2, 1, 0] rfl ?_
  have LP66_9 : ∀ (r66_9 k66_9 : Nat) (t66_9 : (Int32) × (Int32) × (Int32) × (Int32) × (Int32) × (Int32) × (Int32) × (Int32)), k66_9 + r66_9 = 64 → t66_9 = itr (X4_mix_l66 f_w) ((y1, y2, y3, y4, y5, y6, y7, y8)) k66_9 → J p l e { frames := 0, cells := 0, slots := 0, locals := 0 } s m [.ref a_this].toArray below meth c D A 14 Q 0 0 [(a_this, .inr (4, [.ref a_this_state, .ref a_this_text, .ref a_this_w, .ref a_this_inner, .int (nI v_size)])), (a_this_state, .inl (ct 0, 8, .inl f_state)), (a_this_w, .inl (ct 0, 64, .inl f_w))] [(0, .ref a_this), (1, .int t66_9.1), (2, .int t66_9.2.1), (3, .int t66_9.2.2.1), (4, .int t66_9.2.2.2.1), (5, .int t66_9.2.2.2.2.1), (6, .int t66_9.2.2.2.2.2.1), (7, .int t66_9.2.2.2.2.2.2.1), (8, .int t66_9.2.2.2.2.2.2.2), (9, .int (nI k66_9))] [] 66 := by
    intro r66_9
    induction r66_9 with
    | zero =>
      intro k66_9 t66_9 hk_t66_9 e_t66_9 
      have hkk_t66_9 : 64 = k66_9 := by omega
      subst hkk_t66_9
      refine j_iload X 9 dX4_mix_66 rfl (q := 68) rfl ?_
      refine j_bipush (v := nI 64) X dX4_mix_68 (by decide) (q := 70) rfl ?_
      refine j_icmp_ge (tgt := 230) X dX4_mix_70 (by decide) (q := 73) rfl (fun c10 => ?_) (fun c10 => ?_)
      · skip
        have c10 : 64 ≤ 64 := (nI_leI (by omega) (by omega)).mp c10
        refine j_aload_n X 0 dX4_mix_230 rfl (q := 231) rfl ?_
        refine j_get (f := 0) X 0 inT4 rfl rfl (by decide) mw_X4_mix_0 rfl dX4_mix_231 (q := 234) rfl ?_
        refine j_iconst (v := nI 0) X dX4_mix_234 (by decide) (q := 235) rfl ?_
        refine j_dup2 X dX4_mix_235 rfl rfl (q := 236) rfl ?_
        refine k_iald X 1 rfl (vp_in_nI (by omega) (by omega)) (nI_clamp (by omega)) dX4_mix_236 (q := 237) rfl ?_
        refine j_iload_n X 1 dX4_mix_237 rfl (q := 238) rfl ?_
        refine j_iadd X dX4_mix_238 (q := 239) rfl ?_
        refine j_topi (fun y11 e_y11 => ?_)
        refine k_iast (ws2 := [(a_this, .inr (4, [.ref a_this_state, .ref a_this_text, .ref a_this_w, .ref a_this_inner, .int (nI v_size)])), (a_this_state, .inl (ct 0, 8, .inl (upd f_state 0 y11))), (a_this_w, .inl (ct 0, 64, .inl f_w))]) X 1 rfl (vp_in_nI (by omega) (by omega)) (nI_clamp (by omega)) dX4_mix_239 rfl (q := 240) rfl ?_
        refine j_aload_n X 0 dX4_mix_240 rfl (q := 241) rfl ?_
        refine j_get (f := 0) X 0 inT4 rfl rfl (by decide) mw_X4_mix_0 rfl dX4_mix_241 (q := 244) rfl ?_
        refine j_iconst (v := nI 1) X dX4_mix_244 (by decide) (q := 245) rfl ?_
        refine j_dup2 X dX4_mix_245 rfl rfl (q := 246) rfl ?_
        refine k_iald X 1 rfl (vp_in_nI (by omega) (by omega)) (nI_clamp (by omega)) dX4_mix_246 (q := 247) rfl ?_
        refine j_iload_n X 2 dX4_mix_247 rfl (q := 248) rfl ?_
        refine j_iadd X dX4_mix_248 (q := 249) rfl ?_
        refine j_topi (fun y12 e_y12 => ?_)
        refine k_iast (ws2 := [(a_this, .inr (4, [.ref a_this_state, .ref a_this_text, .ref a_this_w, .ref a_this_inner, .int (nI v_size)])), (a_this_state, .inl (ct 0, 8, .inl (upd (upd f_state 0 y11) 1 y12))), (a_this_w, .inl (ct 0, 64, .inl f_w))]) X 1 rfl (vp_in_nI (by omega) (by omega)) (nI_clamp (by omega)) dX4_mix_249 rfl (q := 250) rfl ?_
        refine j_aload_n X 0 dX4_mix_250 rfl (q := 251) rfl ?_
        refine j_get (f := 0) X 0 inT4 rfl rfl (by decide) mw_X4_mix_0 rfl dX4_mix_251 (q := 254) rfl ?_
        refine j_iconst (v := nI 2) X dX4_mix_254 (by decide) (q := 255) rfl ?_
        refine j_dup2 X dX4_mix_255 rfl rfl (q := 256) rfl ?_
        refine k_iald X 1 rfl (vp_in_nI (by omega) (by omega)) (nI_clamp (by omega)) dX4_mix_256 (q := 257) rfl ?_
        refine j_iload_n X 3 dX4_mix_257 rfl (q := 258) rfl ?_
        refine j_iadd X dX4_mix_258 (q := 259) rfl ?_
        refine j_topi (fun y13 e_y13 => ?_)
        refine k_iast (ws2 := [(a_this, .inr (4, [.ref a_this_state, .ref a_this_text, .ref a_this_w, .ref a_this_inner, .int (nI v_size)])), (a_this_state, .inl (ct 0, 8, .inl (upd (upd (upd f_state 0 y11) 1 y12) 2 y13))), (a_this_w, .inl (ct 0, 64, .inl f_w))]) X 1 rfl (vp_in_nI (by omega) (by omega)) (nI_clamp (by omega)) dX4_mix_259 rfl (q := 260) rfl ?_
        refine j_aload_n X 0 dX4_mix_260 rfl (q := 261) rfl ?_
        refine j_get (f := 0) X 0 inT4 rfl rfl (by decide) mw_X4_mix_0 rfl dX4_mix_261 (q := 264) rfl ?_
        refine j_iconst (v := nI 3) X dX4_mix_264 (by decide) (q := 265) rfl ?_
        refine j_dup2 X dX4_mix_265 rfl rfl (q := 266) rfl ?_
        refine k_iald X 1 rfl (vp_in_nI (by omega) (by omega)) (nI_clamp (by omega)) dX4_mix_266 (q := 267) rfl ?_
        refine j_iload X 4 dX4_mix_267 rfl (q := 269) rfl ?_
        refine j_iadd X dX4_mix_269 (q := 270) rfl ?_
        refine j_topi (fun y14 e_y14 => ?_)
        refine k_iast (ws2 := [(a_this, .inr (4, [.ref a_this_state, .ref a_this_text, .ref a_this_w, .ref a_this_inner, .int (nI v_size)])), (a_this_state, .inl (ct 0, 8, .inl (upd (upd (upd (upd f_state 0 y11) 1 y12) 2 y13) 3 y14))), (a_this_w, .inl (ct 0, 64, .inl f_w))]) X 1 rfl (vp_in_nI (by omega) (by omega)) (nI_clamp (by omega)) dX4_mix_270 rfl (q := 271) rfl ?_
        refine j_aload_n X 0 dX4_mix_271 rfl (q := 272) rfl ?_
        refine j_get (f := 0) X 0 inT4 rfl rfl (by decide) mw_X4_mix_0 rfl dX4_mix_272 (q := 275) rfl ?_
        refine j_iconst (v := nI 4) X dX4_mix_275 (by decide) (q := 276) rfl ?_
        refine j_dup2 X dX4_mix_276 rfl rfl (q := 277) rfl ?_
        refine k_iald X 1 rfl (vp_in_nI (by omega) (by omega)) (nI_clamp (by omega)) dX4_mix_277 (q := 278) rfl ?_
        refine j_iload X 5 dX4_mix_278 rfl (q := 280) rfl ?_
        refine j_iadd X dX4_mix_280 (q := 281) rfl ?_
        refine j_topi (fun y15 e_y15 => ?_)
        refine k_iast (ws2 := [(a_this, .inr (4, [.ref a_this_state, .ref a_this_text, .ref a_this_w, .ref a_this_inner, .int (nI v_size)])), (a_this_state, .inl (ct 0, 8, .inl (upd (upd (upd (upd (upd f_state 0 y11) 1 y12) 2 y13) 3 y14) 4 y15))), (a_this_w, .inl (ct 0, 64, .inl f_w))]) X 1 rfl (vp_in_nI (by omega) (by omega)) (nI_clamp (by omega)) dX4_mix_281 rfl (q := 282) rfl ?_
        refine j_aload_n X 0 dX4_mix_282 rfl (q := 283) rfl ?_
        refine j_get (f := 0) X 0 inT4 rfl rfl (by decide) mw_X4_mix_0 rfl dX4_mix_283 (q := 286) rfl ?_
        refine j_iconst (v := nI 5) X dX4_mix_286 (by decide) (q := 287) rfl ?_
        refine j_dup2 X dX4_mix_287 rfl rfl (q := 288) rfl ?_
        refine k_iald X 1 rfl (vp_in_nI (by omega) (by omega)) (nI_clamp (by omega)) dX4_mix_288 (q := 289) rfl ?_
        refine j_iload X 6 dX4_mix_289 rfl (q := 291) rfl ?_
        refine j_iadd X dX4_mix_291 (q := 292) rfl ?_
        refine j_topi (fun y16 e_y16 => ?_)
        refine k_iast (ws2 := [(a_this, .inr (4, [.ref a_this_state, .ref a_this_text, .ref a_this_w, .ref a_this_inner, .int (nI v_size)])), (a_this_state, .inl (ct 0, 8, .inl (upd (upd (upd (upd (upd (upd f_state 0 y11) 1 y12) 2 y13) 3 y14) 4 y15) 5 y16))), (a_this_w, .inl (ct 0, 64, .inl f_w))]) X 1 rfl (vp_in_nI (by omega) (by omega)) (nI_clamp (by omega)) dX4_mix_292 rfl (q := 293) rfl ?_
        refine j_aload_n X 0 dX4_mix_293 rfl (q := 294) rfl ?_
        refine j_get (f := 0) X 0 inT4 rfl rfl (by decide) mw_X4_mix_0 rfl dX4_mix_294 (q := 297) rfl ?_
        refine j_bipush (v := nI 6) X dX4_mix_297 (by decide) (q := 299) rfl ?_
        refine j_dup2 X dX4_mix_299 rfl rfl (q := 300) rfl ?_
        refine k_iald X 1 rfl (vp_in_nI (by omega) (by omega)) (nI_clamp (by omega)) dX4_mix_300 (q := 301) rfl ?_
        refine j_iload X 7 dX4_mix_301 rfl (q := 303) rfl ?_
        refine j_iadd X dX4_mix_303 (q := 304) rfl ?_
        refine j_topi (fun y17 e_y17 => ?_)
        refine k_iast (ws2 := [(a_this, .inr (4, [.ref a_this_state, .ref a_this_text, .ref a_this_w, .ref a_this_inner, .int (nI v_size)])), (a_this_state, .inl (ct 0, 8, .inl (upd (upd (upd (upd (upd (upd (upd f_state 0 y11) 1 y12) 2 y13) 3 y14) 4 y15) 5 y16) 6 y17))), (a_this_w, .inl (ct 0, 64, .inl f_w))]) X 1 rfl (vp_in_nI (by omega) (by omega)) (nI_clamp (by omega)) dX4_mix_304 rfl (q := 305) rfl ?_
        refine j_aload_n X 0 dX4_mix_305 rfl (q := 306) rfl ?_
        refine j_get (f := 0) X 0 inT4 rfl rfl (by decide) mw_X4_mix_0 rfl dX4_mix_306 (q := 309) rfl ?_
        refine j_bipush (v := nI 7) X dX4_mix_309 (by decide) (q := 311) rfl ?_
        refine j_dup2 X dX4_mix_311 rfl rfl (q := 312) rfl ?_
        refine k_iald X 1 rfl (vp_in_nI (by omega) (by omega)) (nI_clamp (by omega)) dX4_mix_312 (q := 313) rfl ?_
        refine j_iload X 8 dX4_mix_313 rfl (q := 315) rfl ?_
        refine j_iadd X dX4_mix_315 (q := 316) rfl ?_
        refine j_topi (fun y18 e_y18 => ?_)
        refine k_iast (ws2 := [(a_this, .inr (4, [.ref a_this_state, .ref a_this_text, .ref a_this_w, .ref a_this_inner, .int (nI v_size)])), (a_this_state, .inl (ct 0, 8, .inl (upd (upd (upd (upd (upd (upd (upd (upd f_state 0 y11) 1 y12) 2 y13) 3 y14) 4 y15) 5 y16) 6 y17) 7 y18))), (a_this_w, .inl (ct 0, 64, .inl f_w))]) X 1 rfl (vp_in_nI (by omega) (by omega)) (nI_clamp (by omega)) dX4_mix_316 rfl (q := 317) rfl ?_
        rw [hQ]
        exact j_vret X (upd (upd (upd (upd (upd (upd (upd (upd f_state 0 y11) 1 y12) 2 y13) 3 y14) 4 y15) 5 y16) 6 y17) 7 y18) dX4_mix_317 (by subst e_y1; subst e_y2; subst e_y3; subst e_y4; subst e_y5; subst e_y6; subst e_y7; subst e_y8; subst e_t66_9; subst e_y11; subst e_y12; subst e_y13; subst e_y14; subst e_y15; subst e_y16; subst e_y17; subst e_y18; rfl) rfl
      · skip
        have c10 : ¬ 64 ≤ 64 := fun h => c10 ((nI_leI (by omega) (by omega)).mpr h)
        exfalso; omega
    | succ r66_9 ih66_9 =>
      intro k66_9 t66_9 hk_t66_9 e_t66_9 
      refine j_iload X 9 dX4_mix_66 rfl (q := 68) rfl ?_
      refine j_bipush (v := nI 64) X dX4_mix_68 (by decide) (q := 70) rfl ?_
      refine j_icmp_ge (tgt := 230) X dX4_mix_70 (by decide) (q := 73) rfl (fun c19 => ?_) (fun c19 => ?_)
      · skip
        have c19 : 64 ≤ k66_9 := (nI_leI (by omega) (by omega)).mp c19
        exfalso; omega
      · skip
        have c19 : ¬ 64 ≤ k66_9 := fun h => c19 ((nI_leI (by omega) (by omega)).mpr h)
        refine j_iload X 5 dX4_mix_73 rfl (q := 75) rfl ?_
        refine j_bipush (v := nI 6) X dX4_mix_75 (by decide) (q := 77) rfl ?_
        refine j_iushr X dX4_mix_77 (q := 78) rfl ?_
        refine j_eqi (show _ = ur32 t66_9.2.2.2.2.1 6 from rfl) ?_
        refine j_iload X 5 dX4_mix_78 rfl (q := 80) rfl ?_
        refine j_bipush (v := nI 26) X dX4_mix_80 (by decide) (q := 82) rfl ?_
        refine j_ishl X dX4_mix_82 (q := 83) rfl ?_
        refine j_eqi (show _ = sh32 t66_9.2.2.2.2.1 26 from rfl) ?_
        refine j_ior X dX4_mix_83 (q := 84) rfl ?_
        refine j_iload X 5 dX4_mix_84 rfl (q := 86) rfl ?_
        refine j_bipush (v := nI 11) X dX4_mix_86 (by decide) (q := 88) rfl ?_
        refine j_iushr X dX4_mix_88 (q := 89) rfl ?_
        refine j_eqi (show _ = ur32 t66_9.2.2.2.2.1 11 from rfl) ?_
        refine j_iload X 5 dX4_mix_89 rfl (q := 91) rfl ?_
        refine j_bipush (v := nI 21) X dX4_mix_91 (by decide) (q := 93) rfl ?_
        refine j_ishl X dX4_mix_93 (q := 94) rfl ?_
        refine j_eqi (show _ = sh32 t66_9.2.2.2.2.1 21 from rfl) ?_
        refine j_ior X dX4_mix_94 (q := 95) rfl ?_
        refine j_ixor X dX4_mix_95 (q := 96) rfl ?_
        refine j_iload X 5 dX4_mix_96 rfl (q := 98) rfl ?_
        refine j_bipush (v := nI 25) X dX4_mix_98 (by decide) (q := 100) rfl ?_
        refine j_iushr X dX4_mix_100 (q := 101) rfl ?_
        refine j_eqi (show _ = ur32 t66_9.2.2.2.2.1 25 from rfl) ?_
        refine j_iload X 5 dX4_mix_101 rfl (q := 103) rfl ?_
        refine j_bipush (v := nI 7) X dX4_mix_103 (by decide) (q := 105) rfl ?_
        refine j_ishl X dX4_mix_105 (q := 106) rfl ?_
        refine j_eqi (show _ = sh32 t66_9.2.2.2.2.1 7 from rfl) ?_
        refine j_ior X dX4_mix_106 (q := 107) rfl ?_
        refine j_ixor X dX4_mix_107 (q := 108) rfl ?_
        refine j_topi (fun y20 e_y20 => ?_)
        refine j_istore (lv' := [(10, .int y20), (0, .ref a_this), (1, .int t66_9.1), (2, .int t66_9.2.1), (3, .int t66_9.2.2.1), (4, .int t66_9.2.2.2.1), (5, .int t66_9.2.2.2.2.1), (6, .int t66_9.2.2.2.2.2.1), (7, .int t66_9.2.2.2.2.2.2.1), (8, .int t66_9.2.2.2.2.2.2.2), (9, .int (nI k66_9))]) X dX4_mix_108 (by decide) rfl (q := 110) rfl ?_
        refine j_iload X 9 dX4_mix_110 rfl (q := 112) rfl ?_
        refine j_iload X 0 dX4_mix_112 rfl (q := 114) rfl ?_
        refine j_iadd X dX4_mix_114 (q := 115) rfl ?_
        refine j_iload X 6 dX4_mix_115 rfl (q := 117) rfl ?_
        refine j_iload X 7 dX4_mix_117 rfl (q := 119) rfl ?_
        refine j_iand X dX4_mix_119 (q := 120) rfl ?_
        refine j_iload X 6 dX4_mix_120 rfl (q := 122) rfl ?_
        refine j_iconst (v := -1) X dX4_mix_122 (by decide) (q := 123) rfl ?_
        refine j_ixor X dX4_mix_123 (q := 124) rfl ?_
        refine j_iload X 8 dX4_mix_124 rfl (q := 126) rfl ?_
        refine j_iand X dX4_mix_126 (q := 127) rfl ?_
        refine j_ixor X dX4_mix_127 (q := 128) rfl ?_
        refine j_iadd X dX4_mix_128 (q := 129) rfl ?_
        refine j_gets X 11 (show SXL[11]? = _ from rfl) mw_X4_mix_1 dX4_mix_129 (q := 132) rfl ?_
        refine j_iload X 10 dX4_mix_132 rfl (q := 134) rfl ?_
        refine k_ti X 11 (show SXL[11]? = _ from rfl) (vp_in_nI (by omega) (by omega)) (nI_clamp (by omega)) dX4_mix_134 (q := 135) rfl ?_
        refine j_iadd X dX4_mix_135 (q := 136) rfl ?_
        refine j_aload_n X 1 dX4_mix_136 rfl (q := 137) rfl ?_
        refine j_get (f := 2) X 0 inT4 rfl rfl (by decide) mw_X4_mix_2 rfl dX4_mix_137 (q := 140) rfl ?_
        refine j_iload X 10 dX4_mix_140 rfl (q := 142) rfl ?_
        refine k_iald X 2 rfl (vp_in_nI (by omega) (by omega)) (nI_clamp (by omega)) dX4_mix_142 (q := 143) rfl ?_
        refine j_iadd X dX4_mix_143 (q := 144) rfl ?_
        refine j_topi (fun y21 e_y21 => ?_)
        refine j_istore (lv' := [(11, .int y21), (10, .int y20), (0, .ref a_this), (1, .int t66_9.1), (2, .int t66_9.2.1), (3, .int t66_9.2.2.1), (4, .int t66_9.2.2.2.1), (5, .int t66_9.2.2.2.2.1), (6, .int t66_9.2.2.2.2.2.1), (7, .int t66_9.2.2.2.2.2.2.1), (8, .int t66_9.2.2.2.2.2.2.2), (9, .int (nI k66_9))]) X dX4_mix_144 (by decide) rfl (q := 146) rfl ?_
        refine j_iload_n X 3 dX4_mix_146 rfl (q := 147) rfl ?_
        refine j_iconst (v := nI 2) X dX4_mix_147 (by decide) (q := 148) rfl ?_
        refine j_iushr X dX4_mix_148 (q := 149) rfl ?_
        refine j_eqi (show _ = ur32 t66_9.1 2 from rfl) ?_
        refine j_iload_n X 3 dX4_mix_149 rfl (q := 150) rfl ?_
        refine j_bipush (v := nI 30) X dX4_mix_150 (by decide) (q := 152) rfl ?_
        refine j_ishl X dX4_mix_152 (q := 153) rfl ?_
        refine j_eqi (show _ = sh32 t66_9.1 30 from rfl) ?_
        refine j_ior X dX4_mix_153 (q := 154) rfl ?_
        refine j_iload_n X 3 dX4_mix_154 rfl (q := 155) rfl ?_
        refine j_bipush (v := nI 13) X dX4_mix_155 (by decide) (q := 157) rfl ?_
        refine j_iushr X dX4_mix_157 (q := 158) rfl ?_
        refine j_eqi (show _ = ur32 t66_9.1 13 from rfl) ?_
        refine j_iload_n X 3 dX4_mix_158 rfl (q := 159) rfl ?_
        refine j_bipush (v := nI 19) X dX4_mix_159 (by decide) (q := 161) rfl ?_
        refine j_ishl X dX4_mix_161 (q := 162) rfl ?_
        refine j_eqi (show _ = sh32 t66_9.1 19 from rfl) ?_
        refine j_ior X dX4_mix_162 (q := 163) rfl ?_
        refine j_ixor X dX4_mix_163 (q := 164) rfl ?_
        refine j_iload_n X 3 dX4_mix_164 rfl (q := 165) rfl ?_
        refine j_bipush (v := nI 22) X dX4_mix_165 (by decide) (q := 167) rfl ?_
        refine j_iushr X dX4_mix_167 (q := 168) rfl ?_
        refine j_eqi (show _ = ur32 t66_9.1 22 from rfl) ?_
        refine j_iload_n X 3 dX4_mix_168 rfl (q := 169) rfl ?_
        refine j_bipush (v := nI 10) X dX4_mix_169 (by decide) (q := 171) rfl ?_
        refine j_ishl X dX4_mix_171 (q := 172) rfl ?_
        refine j_eqi (show _ = sh32 t66_9.1 10 from rfl) ?_
        refine j_ior X dX4_mix_172 (q := 173) rfl ?_
        refine j_ixor X dX4_mix_173 (q := 174) rfl ?_
        refine j_topi (fun y22 e_y22 => ?_)
        refine j_istore (lv' := [(12, .int y22), (11, .int y21), (10, .int y20), (0, .ref a_this), (1, .int t66_9.1), (2, .int t66_9.2.1), (3, .int t66_9.2.2.1), (4, .int t66_9.2.2.2.1), (5, .int t66_9.2.2.2.2.1), (6, .int t66_9.2.2.2.2.2.1), (7, .int t66_9.2.2.2.2.2.2.1), (8, .int t66_9.2.2.2.2.2.2.2), (9, .int (nI k66_9))]) X dX4_mix_174 (by decide) rfl (q := 176) rfl ?_
        refine j_iload X 0 dX4_mix_176 rfl (q := 178) rfl ?_
        refine j_iload_n X 4 dX4_mix_178 rfl (q := 179) rfl ?_
        refine j_iload_n X 5 dX4_mix_179 rfl (q := 180) rfl ?_
        refine j_iand X dX4_mix_180 (q := 181) rfl ?_
        refine j_iload_n X 4 dX4_mix_181 rfl (q := 182) rfl ?_
        refine j_iload_n X 6 dX4_mix_182 rfl (q := 183) rfl ?_
        refine j_iand X dX4_mix_183 (q := 184) rfl ?_
        refine j_ixor X dX4_mix_184 (q := 185) rfl ?_
        refine j_iload_n X 5 dX4_mix_185 rfl (q := 186) rfl ?_
        refine j_iload_n X 6 dX4_mix_186 rfl (q := 187) rfl ?_
        refine j_iand X dX4_mix_187 (q := 188) rfl ?_
        refine j_ixor X dX4_mix_188 (q := 189) rfl ?_
        refine j_iadd X dX4_mix_189 (q := 190) rfl ?_
        refine j_topi (fun y23 e_y23 => ?_)
        refine j_istore (lv' := [(13, .int y23), (12, .int y22), (11, .int y21), (10, .int y20), (0, .ref a_this), (1, .int t66_9.1), (2, .int t66_9.2.1), (3, .int t66_9.2.2.1), (4, .int t66_9.2.2.2.1), (5, .int t66_9.2.2.2.2.1), (6, .int t66_9.2.2.2.2.2.1), (7, .int t66_9.2.2.2.2.2.2.1), (8, .int t66_9.2.2.2.2.2.2.2), (9, .int (nI k66_9))]) X dX4_mix_190 (by decide) rfl (q := 192) rfl ?_
        refine j_iload X 11 dX4_mix_192 rfl (q := 194) rfl ?_
        refine j_istore (lv' := [(8, .int t66_9.2.2.2.2.2.2.1), (13, .int y23), (12, .int y22), (11, .int y21), (10, .int y20), (0, .ref a_this), (1, .int t66_9.1), (2, .int t66_9.2.1), (3, .int t66_9.2.2.1), (4, .int t66_9.2.2.2.1), (5, .int t66_9.2.2.2.2.1), (6, .int t66_9.2.2.2.2.2.1), (7, .int t66_9.2.2.2.2.2.2.1), (9, .int (nI k66_9))]) X dX4_mix_194 (by decide) rfl (q := 196) rfl ?_
        refine j_iload X 11 dX4_mix_196 rfl (q := 198) rfl ?_
        refine j_istore (lv' := [(7, .int t66_9.2.2.2.2.2.1), (8, .int t66_9.2.2.2.2.2.2.1), (13, .int y23), (12, .int y22), (11, .int y21), (10, .int y20), (0, .ref a_this), (1, .int t66_9.1), (2, .int t66_9.2.1), (3, .int t66_9.2.2.1), (4, .int t66_9.2.2.2.1), (5, .int t66_9.2.2.2.2.1), (6, .int t66_9.2.2.2.2.2.1), (9, .int (nI k66_9))]) X dX4_mix_198 (by decide) rfl (q := 200) rfl ?_
        refine j_iload X 11 dX4_mix_200 rfl (q := 202) rfl ?_
        refine j_istore (lv' := [(6, .int t66_9.2.2.2.2.1), (7, .int t66_9.2.2.2.2.2.1), (8, .int t66_9.2.2.2.2.2.2.1), (13, .int y23), (12, .int y22), (11, .int y21), (10, .int y20), (0, .ref a_this), (1, .int t66_9.1), (2, .int t66_9.2.1), (3, .int t66_9.2.2.1), (4, .int t66_9.2.2.2.1), (5, .int t66_9.2.2.2.2.1), (9, .int (nI k66_9))]) X dX4_mix_202 (by decide) rfl (q := 204) rfl ?_
        refine j_iload X 11 dX4_mix_204 rfl (q := 206) rfl ?_
        refine j_iload X 5 dX4_mix_206 rfl (q := 208) rfl ?_
        refine j_iadd X dX4_mix_208 (q := 209) rfl ?_
        refine j_topi (fun y24 e_y24 => ?_)
        refine j_istore (lv' := [(5, .int y24), (6, .int t66_9.2.2.2.2.1), (7, .int t66_9.2.2.2.2.2.1), (8, .int t66_9.2.2.2.2.2.2.1), (13, .int y23), (12, .int y22), (11, .int y21), (10, .int y20), (0, .ref a_this), (1, .int t66_9.1), (2, .int t66_9.2.1), (3, .int t66_9.2.2.1), (4, .int t66_9.2.2.2.1), (9, .int (nI k66_9))]) X dX4_mix_209 (by decide) rfl (q := 211) rfl ?_
        refine j_iload_n X 11 dX4_mix_211 rfl (q := 212) rfl ?_
        refine j_istore (lv' := [(4, .int t66_9.2.2.1), (5, .int y24), (6, .int t66_9.2.2.2.2.1), (7, .int t66_9.2.2.2.2.2.1), (8, .int t66_9.2.2.2.2.2.2.1), (13, .int y23), (12, .int y22), (11, .int y21), (10, .int y20), (0, .ref a_this), (1, .int t66_9.1), (2, .int t66_9.2.1), (3, .int t66_9.2.2.1), (9, .int (nI k66_9))]) X dX4_mix_212 (by decide) rfl (q := 214) rfl ?_
        refine j_iload_n X 11 dX4_mix_214 rfl (q := 215) rfl ?_
        refine j_istore_n (lv' := [(3, .int t66_9.2.1), (4, .int t66_9.2.2.1), (5, .int y24), (6, .int t66_9.2.2.2.2.1), (7, .int t66_9.2.2.2.2.2.1), (8, .int t66_9.2.2.2.2.2.2.1), (13, .int y23), (12, .int y22), (11, .int y21), (10, .int y20), (0, .ref a_this), (1, .int t66_9.1), (2, .int t66_9.2.1), (9, .int (nI k66_9))]) X dX4_mix_215 (by decide) rfl (q := 216) rfl ?_
        refine j_iload_n X 11 dX4_mix_216 rfl (q := 217) rfl ?_
        refine j_istore_n (lv' := [(2, .int t66_9.1), (3, .int t66_9.2.1), (4, .int t66_9.2.2.1), (5, .int y24), (6, .int t66_9.2.2.2.2.1), (7, .int t66_9.2.2.2.2.2.1), (8, .int t66_9.2.2.2.2.2.2.1), (13, .int y23), (12, .int y22), (11, .int y21), (10, .int y20), (0, .ref a_this), (1, .int t66_9.1), (9, .int (nI k66_9))]) X dX4_mix_217 (by decide) rfl (q := 218) rfl ?_
        refine j_iload X 9 dX4_mix_218 rfl (q := 220) rfl ?_
        refine j_iload X 7 dX4_mix_220 rfl (q := 222) rfl ?_
        refine j_iadd X dX4_mix_222 (q := 223) rfl ?_
        refine j_topi (fun y25 e_y25 => ?_)
        refine j_istore_n (lv' := [(1, .int y25), (2, .int t66_9.1), (3, .int t66_9.2.1), (4, .int t66_9.2.2.1), (5, .int y24), (6, .int t66_9.2.2.2.2.1), (7, .int t66_9.2.2.2.2.2.1), (8, .int t66_9.2.2.2.2.2.2.1), (13, .int y23), (12, .int y22), (11, .int y21), (10, .int y20), (0, .ref a_this), (9, .int (nI k66_9))]) X dX4_mix_223 (by decide) rfl (q := 224) rfl ?_
        refine j_iinc (v := nI (k66_9 + 1)) (lv' := [(9, .int (nI (k66_9 + 1))), (1, .int y25), (2, .int t66_9.1), (3, .int t66_9.2.1), (4, .int t66_9.2.2.1), (5, .int y24), (6, .int t66_9.2.2.2.2.1), (7, .int t66_9.2.2.2.2.2.1), (8, .int t66_9.2.2.2.2.2.2.1), (13, .int y23), (12, .int y22), (11, .int y21), (10, .int y20), (0, .ref a_this)]) X 13 dX4_mix_224 rfl (nI_inc _ 1) (by decide) rfl (q := 227) rfl ?_
        refine j_goto (tgt := 66) X dX4_mix_227 (by decide) ?_
        refine j_lv (lv' := [(0, .ref a_this), (1, .int y25), (2, .int t66_9.1), (3, .int t66_9.2.1), (4, .int t66_9.2.2.1), (5, .int y24), (6, .int t66_9.2.2.2.2.1), (7, .int t66_9.2.2.2.2.2.1), (8, .int t66_9.2.2.2.2.2.2.1), (9, .int (nI (k66_9 + 1)))]) [13, 1, 2, 3, 4, 5, 6, 7, 8, 0] rfl ?_
        have hb : (X4_mix_l66 f_w) k66_9 t66_9 = (y25, t66_9.1, t66_9.2.1, t66_9.2.2.1, y24, t66_9.2.2.2.2.1, t66_9.2.2.2.2.2.1, t66_9.2.2.2.2.2.2.1) := (by subst e_y20; subst e_y21; subst e_y22; subst e_y23; subst e_y24; subst e_y25; rfl)
        exact ih66_9 (k66_9 + 1) ((y25, t66_9.1, t66_9.2.1, t66_9.2.2.1, y24, t66_9.2.2.2.2.1, t66_9.2.2.2.2.2.1, t66_9.2.2.2.2.2.2.1)) (by omega) (by rw [itr_s, ← e_t66_9]; exact hb.symm) 
  exact LP66_9 64 0 ((y1, y2, y3, y4, y5, y6, y7, y8)) (by omega) (itr_0 _ _).symm 
theorem cal_X4_mix : Cal yX4_mix cX4_mix 14 none 0 := ⟨tb_at 112 (by decide +kernel) (by decide +kernel), tb_at 536 (by decide +kernel) (by decide +kernel), by decide +kernel, by decide +kernel, by decide +kernel⟩
theorem cwi_X4_mix : Cond.instanceMethod yX4_mix ∈ tb := tb_at 535 (by decide +kernel) (by decide +kernel)
theorem cws_X4_mix : Cond.selects yX4_mix.cls yX4_mix yX4_mix ∈ tb := tb_at 2 (by decide +kernel) (by decide +kernel)

