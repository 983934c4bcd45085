theorem mw_X12_reckon_0 : Cond.fieldLink "GuardedTreeModel" 319 "GuardedTreeModel" "rowSize" "I" ∈ tb := tb_at 1285 (by decide +kernel) (by decide +kernel)
theorem mw_X12_reckon_1 : Cond.fieldLink "GuardedTreeModel" 130 "GuardedTreeModel" "digest" "[I" ∈ tb := tb_at 1286 (by decide +kernel) (by decide +kernel)
theorem mw_X12_reckon_2 : Cond.fieldLink "GuardedTreeModel" 133 "GuardedTreeModel" "state8" "[I" ∈ tb := tb_at 1287 (by decide +kernel) (by decide +kernel)
theorem mw_X12_reckon_3 : Cond.fieldLink "GuardedTreeModel" 136 "GuardedTreeModel" "w" "[I" ∈ tb := tb_at 1288 (by decide +kernel) (by decide +kernel)
theorem mw_X12_reckon_4 : Cond.fieldLink "GuardedTreeModel" 127 "GuardedTreeModel" "row" "[B" ∈ tb := tb_at 1284 (by decide +kernel) (by decide +kernel)
theorem mw_X12_reckon_5 : Cond.fieldLink "GuardedTreeModel" 217 "GuardedTreeModel" "begins" "[I" ∈ tb := tb_at 1291 (by decide +kernel) (by decide +kernel)
theorem mw_X12_reckon_6 : Cond.methodLink "GuardedTreeModel" 328 yX12_mix ∈ tb := tb_at 1502 (by decide +kernel) (by decide +kernel)
theorem dX12_reckon_0 : decode cX12_reckon 0 = .ok (.aload_n 0, 1) := by decide +kernel
theorem dX12_reckon_1 : decode cX12_reckon 1 = .ok (.getfield 319, 3) := by decide +kernel
theorem dX12_reckon_4 : decode cX12_reckon 4 = .ok (.istore_n 1, 1) := by decide +kernel
theorem dX12_reckon_5 : decode cX12_reckon 5 = .ok (.aload_n 0, 1) := by decide +kernel
theorem dX12_reckon_6 : decode cX12_reckon 6 = .ok (.iconst 0, 1) := by decide +kernel
theorem dX12_reckon_7 : decode cX12_reckon 7 = .ok (.putfield 319, 3) := by decide +kernel
theorem dX12_reckon_10 : decode cX12_reckon 10 = .ok (.iconst 0, 1) := by decide +kernel
theorem dX12_reckon_11 : decode cX12_reckon 11 = .ok (.istore_n 2, 1) := by decide +kernel
theorem dX12_reckon_12 : decode cX12_reckon 12 = .ok (.iload_n 2, 1) := by decide +kernel
theorem dX12_reckon_13 : decode cX12_reckon 13 = .ok (.bipush 8, 2) := by decide +kernel
theorem dX12_reckon_15 : decode cX12_reckon 15 = .ok (.if_icmp .ge 21, 3) := by decide +kernel
theorem dX12_reckon_18 : decode cX12_reckon 18 = .ok (.aload_n 0, 1) := by decide +kernel
theorem dX12_reckon_19 : decode cX12_reckon 19 = .ok (.getfield 133, 3) := by decide +kernel
theorem dX12_reckon_22 : decode cX12_reckon 22 = .ok (.iload_n 2, 1) := by decide +kernel
theorem dX12_reckon_23 : decode cX12_reckon 23 = .ok (.aload_n 0, 1) := by decide +kernel
theorem dX12_reckon_24 : decode cX12_reckon 24 = .ok (.getfield 217, 3) := by decide +kernel
theorem dX12_reckon_27 : decode cX12_reckon 27 = .ok (.iload_n 2, 1) := by decide +kernel
theorem dX12_reckon_28 : decode cX12_reckon 28 = .ok (.iaload, 1) := by decide +kernel
theorem dX12_reckon_29 : decode cX12_reckon 29 = .ok (.iastore, 1) := by decide +kernel
theorem dX12_reckon_30 : decode cX12_reckon 30 = .ok (.iinc 2 1, 3) := by decide +kernel
theorem dX12_reckon_33 : decode cX12_reckon 33 = .ok (.goto (-21), 3) := by decide +kernel
theorem dX12_reckon_36 : decode cX12_reckon 36 = .ok (.iload_n 1, 1) := by decide +kernel
theorem dX12_reckon_37 : decode cX12_reckon 37 = .ok (.bipush 9, 2) := by decide +kernel
theorem dX12_reckon_39 : decode cX12_reckon 39 = .ok (.iadd, 1) := by decide +kernel
theorem dX12_reckon_40 : decode cX12_reckon 40 = .ok (.bipush 63, 2) := by decide +kernel
theorem dX12_reckon_42 : decode cX12_reckon 42 = .ok (.iadd, 1) := by decide +kernel
theorem dX12_reckon_43 : decode cX12_reckon 43 = .ok (.bipush 64, 2) := by decide +kernel
theorem dX12_reckon_45 : decode cX12_reckon 45 = .ok (.idiv, 1) := by decide +kernel
theorem dX12_reckon_46 : decode cX12_reckon 46 = .ok (.bipush 64, 2) := by decide +kernel
theorem dX12_reckon_48 : decode cX12_reckon 48 = .ok (.imul, 1) := by decide +kernel
theorem dX12_reckon_49 : decode cX12_reckon 49 = .ok (.istore_n 2, 1) := by decide +kernel
theorem dX12_reckon_50 : decode cX12_reckon 50 = .ok (.iload_n 1, 1) := by decide +kernel
theorem dX12_reckon_51 : decode cX12_reckon 51 = .ok (.istore_n 3, 1) := by decide +kernel
theorem dX12_reckon_52 : decode cX12_reckon 52 = .ok (.iload_n 3, 1) := by decide +kernel
theorem dX12_reckon_53 : decode cX12_reckon 53 = .ok (.iload_n 2, 1) := by decide +kernel
theorem dX12_reckon_54 : decode cX12_reckon 54 = .ok (.if_icmp .ge 51, 3) := by decide +kernel
theorem dX12_reckon_57 : decode cX12_reckon 57 = .ok (.aload_n 0, 1) := by decide +kernel
theorem dX12_reckon_58 : decode cX12_reckon 58 = .ok (.getfield 127, 3) := by decide +kernel
theorem dX12_reckon_61 : decode cX12_reckon 61 = .ok (.iload_n 3, 1) := by decide +kernel
theorem dX12_reckon_62 : decode cX12_reckon 62 = .ok (.iload_n 3, 1) := by decide +kernel
theorem dX12_reckon_63 : decode cX12_reckon 63 = .ok (.iload_n 1, 1) := by decide +kernel
theorem dX12_reckon_64 : decode cX12_reckon 64 = .ok (.if_icmp .ne 9, 3) := by decide +kernel
theorem dX12_reckon_67 : decode cX12_reckon 67 = .ok (.sipush 128, 3) := by decide +kernel
theorem dX12_reckon_70 : decode cX12_reckon 70 = .ok (.goto 27, 3) := by decide +kernel
theorem dX12_reckon_73 : decode cX12_reckon 73 = .ok (.iload_n 3, 1) := by decide +kernel
theorem dX12_reckon_74 : decode cX12_reckon 74 = .ok (.iload_n 2, 1) := by decide +kernel
theorem dX12_reckon_75 : decode cX12_reckon 75 = .ok (.iconst 4, 1) := by decide +kernel
theorem dX12_reckon_76 : decode cX12_reckon 76 = .ok (.isub, 1) := by decide +kernel
theorem dX12_reckon_77 : decode cX12_reckon 77 = .ok (.if_icmp .ge 7, 3) := by decide +kernel
theorem dX12_reckon_80 : decode cX12_reckon 80 = .ok (.iconst 0, 1) := by decide +kernel
theorem dX12_reckon_81 : decode cX12_reckon 81 = .ok (.goto 16, 3) := by decide +kernel
theorem dX12_reckon_84 : decode cX12_reckon 84 = .ok (.bipush 8, 2) := by decide +kernel
theorem dX12_reckon_86 : decode cX12_reckon 86 = .ok (.iload_n 1, 1) := by decide +kernel
theorem dX12_reckon_87 : decode cX12_reckon 87 = .ok (.imul, 1) := by decide +kernel
theorem dX12_reckon_88 : decode cX12_reckon 88 = .ok (.bipush 8, 2) := by decide +kernel
theorem dX12_reckon_90 : decode cX12_reckon 90 = .ok (.iload_n 2, 1) := by decide +kernel
theorem dX12_reckon_91 : decode cX12_reckon 91 = .ok (.iconst 1, 1) := by decide +kernel
theorem dX12_reckon_92 : decode cX12_reckon 92 = .ok (.isub, 1) := by decide +kernel
theorem dX12_reckon_93 : decode cX12_reckon 93 = .ok (.iload_n 3, 1) := by decide +kernel
theorem dX12_reckon_94 : decode cX12_reckon 94 = .ok (.isub, 1) := by decide +kernel
theorem dX12_reckon_95 : decode cX12_reckon 95 = .ok (.imul, 1) := by decide +kernel
theorem dX12_reckon_96 : decode cX12_reckon 96 = .ok (.ishr, 1) := by decide +kernel
theorem dX12_reckon_97 : decode cX12_reckon 97 = .ok (.i2b, 1) := by decide +kernel
theorem dX12_reckon_98 : decode cX12_reckon 98 = .ok (.bastore, 1) := by decide +kernel
theorem dX12_reckon_99 : decode cX12_reckon 99 = .ok (.iinc 3 1, 3) := by decide +kernel
theorem dX12_reckon_102 : decode cX12_reckon 102 = .ok (.goto (-50), 3) := by decide +kernel
theorem dX12_reckon_105 : decode cX12_reckon 105 = .ok (.iconst 0, 1) := by decide +kernel
theorem dX12_reckon_106 : decode cX12_reckon 106 = .ok (.istore_n 3, 1) := by decide +kernel
theorem dX12_reckon_107 : decode cX12_reckon 107 = .ok (.iload_n 3, 1) := by decide +kernel
theorem dX12_reckon_108 : decode cX12_reckon 108 = .ok (.iload_n 2, 1) := by decide +kernel
theorem dX12_reckon_109 : decode cX12_reckon 109 = .ok (.if_icmp .ge 88, 3) := by decide +kernel
theorem dX12_reckon_112 : decode cX12_reckon 112 = .ok (.iconst 0, 1) := by decide +kernel
theorem dX12_reckon_113 : decode cX12_reckon 113 = .ok (.istore 4, 2) := by decide +kernel
theorem dX12_reckon_115 : decode cX12_reckon 115 = .ok (.iload 4, 2) := by decide +kernel
theorem dX12_reckon_117 : decode cX12_reckon 117 = .ok (.bipush 16, 2) := by decide +kernel
theorem dX12_reckon_119 : decode cX12_reckon 119 = .ok (.if_icmp .ge 68, 3) := by decide +kernel
theorem dX12_reckon_122 : decode cX12_reckon 122 = .ok (.aload_n 0, 1) := by decide +kernel
theorem dX12_reckon_123 : decode cX12_reckon 123 = .ok (.getfield 136, 3) := by decide +kernel
theorem dX12_reckon_126 : decode cX12_reckon 126 = .ok (.iload 4, 2) := by decide +kernel
theorem dX12_reckon_128 : decode cX12_reckon 128 = .ok (.iconst 0, 1) := by decide +kernel
theorem dX12_reckon_129 : decode cX12_reckon 129 = .ok (.iastore, 1) := by decide +kernel
theorem dX12_reckon_130 : decode cX12_reckon 130 = .ok (.iconst 0, 1) := by decide +kernel
theorem dX12_reckon_131 : decode cX12_reckon 131 = .ok (.istore 5, 2) := by decide +kernel
theorem dX12_reckon_133 : decode cX12_reckon 133 = .ok (.iload 5, 2) := by decide +kernel
theorem dX12_reckon_135 : decode cX12_reckon 135 = .ok (.iconst 4, 1) := by decide +kernel
theorem dX12_reckon_136 : decode cX12_reckon 136 = .ok (.if_icmp .ge 45, 3) := by decide +kernel
theorem dX12_reckon_139 : decode cX12_reckon 139 = .ok (.aload_n 0, 1) := by decide +kernel
theorem dX12_reckon_140 : decode cX12_reckon 140 = .ok (.getfield 136, 3) := by decide +kernel
theorem dX12_reckon_143 : decode cX12_reckon 143 = .ok (.iload 4, 2) := by decide +kernel
theorem dX12_reckon_145 : decode cX12_reckon 145 = .ok (.aload_n 0, 1) := by decide +kernel
theorem dX12_reckon_146 : decode cX12_reckon 146 = .ok (.getfield 136, 3) := by decide +kernel
theorem dX12_reckon_149 : decode cX12_reckon 149 = .ok (.iload 4, 2) := by decide +kernel
theorem dX12_reckon_151 : decode cX12_reckon 151 = .ok (.iaload, 1) := by decide +kernel
theorem dX12_reckon_152 : decode cX12_reckon 152 = .ok (.bipush 8, 2) := by decide +kernel
theorem dX12_reckon_154 : decode cX12_reckon 154 = .ok (.ishl, 1) := by decide +kernel
theorem dX12_reckon_155 : decode cX12_reckon 155 = .ok (.aload_n 0, 1) := by decide +kernel
theorem dX12_reckon_156 : decode cX12_reckon 156 = .ok (.getfield 127, 3) := by decide +kernel
theorem dX12_reckon_159 : decode cX12_reckon 159 = .ok (.iload_n 3, 1) := by decide +kernel
theorem dX12_reckon_160 : decode cX12_reckon 160 = .ok (.iconst 4, 1) := by decide +kernel
theorem dX12_reckon_161 : decode cX12_reckon 161 = .ok (.iload 4, 2) := by decide +kernel
theorem dX12_reckon_163 : decode cX12_reckon 163 = .ok (.imul, 1) := by decide +kernel
theorem dX12_reckon_164 : decode cX12_reckon 164 = .ok (.iadd, 1) := by decide +kernel
theorem dX12_reckon_165 : decode cX12_reckon 165 = .ok (.iload 5, 2) := by decide +kernel
theorem dX12_reckon_167 : decode cX12_reckon 167 = .ok (.iadd, 1) := by decide +kernel
theorem dX12_reckon_168 : decode cX12_reckon 168 = .ok (.baload, 1) := by decide +kernel
theorem dX12_reckon_169 : decode cX12_reckon 169 = .ok (.sipush 255, 3) := by decide +kernel
theorem dX12_reckon_172 : decode cX12_reckon 172 = .ok (.iand, 1) := by decide +kernel
theorem dX12_reckon_173 : decode cX12_reckon 173 = .ok (.ior, 1) := by decide +kernel
theorem dX12_reckon_174 : decode cX12_reckon 174 = .ok (.iastore, 1) := by decide +kernel
theorem dX12_reckon_175 : decode cX12_reckon 175 = .ok (.iinc 5 1, 3) := by decide +kernel
theorem dX12_reckon_178 : decode cX12_reckon 178 = .ok (.goto (-45), 3) := by decide +kernel
theorem dX12_reckon_181 : decode cX12_reckon 181 = .ok (.iinc 4 1, 3) := by decide +kernel
theorem dX12_reckon_184 : decode cX12_reckon 184 = .ok (.goto (-69), 3) := by decide +kernel
theorem dX12_reckon_187 : decode cX12_reckon 187 = .ok (.aload_n 0, 1) := by decide +kernel
theorem dX12_reckon_188 : decode cX12_reckon 188 = .ok (.invokevirtual 328, 3) := by decide +kernel
theorem dX12_reckon_191 : decode cX12_reckon 191 = .ok (.iinc 3 64, 3) := by decide +kernel
theorem dX12_reckon_194 : decode cX12_reckon 194 = .ok (.goto (-87), 3) := by decide +kernel
theorem dX12_reckon_197 : decode cX12_reckon 197 = .ok (.iconst 0, 1) := by decide +kernel
theorem dX12_reckon_198 : decode cX12_reckon 198 = .ok (.istore_n 3, 1) := by decide +kernel
theorem dX12_reckon_199 : decode cX12_reckon 199 = .ok (.iload_n 3, 1) := by decide +kernel
theorem dX12_reckon_200 : decode cX12_reckon 200 = .ok (.bipush 8, 2) := by decide +kernel
theorem dX12_reckon_202 : decode cX12_reckon 202 = .ok (.if_icmp .ge 21, 3) := by decide +kernel
theorem dX12_reckon_205 : decode cX12_reckon 205 = .ok (.aload_n 0, 1) := by decide +kernel
theorem dX12_reckon_206 : decode cX12_reckon 206 = .ok (.getfield 130, 3) := by decide +kernel
theorem dX12_reckon_209 : decode cX12_reckon 209 = .ok (.iload_n 3, 1) := by decide +kernel
theorem dX12_reckon_210 : decode cX12_reckon 210 = .ok (.aload_n 0, 1) := by decide +kernel
theorem dX12_reckon_211 : decode cX12_reckon 211 = .ok (.getfield 133, 3) := by decide +kernel
theorem dX12_reckon_214 : decode cX12_reckon 214 = .ok (.iload_n 3, 1) := by decide +kernel
theorem dX12_reckon_215 : decode cX12_reckon 215 = .ok (.iaload, 1) := by decide +kernel
theorem dX12_reckon_216 : decode cX12_reckon 216 = .ok (.iastore, 1) := by decide +kernel
theorem dX12_reckon_217 : decode cX12_reckon 217 = .ok (.iinc 3 1, 3) := by decide +kernel
theorem dX12_reckon_220 : decode cX12_reckon 220 = .ok (.goto (-21), 3) := by decide +kernel
theorem dX12_reckon_223 : decode cX12_reckon 223 = .ok (.return_, 1) := by decide +kernel
noncomputable def X12_reckon_l199 (t107_6 : (Nat → Int32) × (Nat → Int32) × (Nat → Int32)) (k199_8 : Nat) (t199_8 : (Nat → Int32)) : (Nat → Int32) :=
  let y11 := t107_6.2.1 k199_8
  upd t199_8 k199_8 y11
noncomputable def X12_reckon_l133 (t52_4 : (Nat → Int32)) (k107_6 : Nat) (k115_13 : Nat) (k133_18 : Nat) (t133_18 : (Nat → Int32)) : (Nat → Int32) :=
  let y21 := (sh32 (t133_18 k115_13) 8) ||| ((t52_4 ((k107_6 * 64) + (4 * k115_13) + k133_18)) &&& (nI 255))
  upd t133_18 k115_13 y21
noncomputable def X12_reckon_l115 (t52_4 : (Nat → Int32)) (k107_6 : Nat) (k115_13 : Nat) (t115_13 : (Nat → Int32)) : (Nat → Int32) :=
  let t133_18 := itr (X12_reckon_l133 t52_4 k107_6 k115_13) (upd t115_13 k115_13 (nI 0)) 4
  t133_18
noncomputable def X12_reckon_l107 (f_roots : Nat → Int32) (t52_4 : (Nat → Int32)) (k107_6 : Nat) (t107_6 : (Nat → Int32) × (Nat → Int32) × (Nat → Int32)) : (Nat → Int32) × (Nat → Int32) × (Nat → Int32) :=
  let t115_13 := itr (X12_reckon_l115 t52_4 k107_6) t107_6.2.2 16
  let u15 := f_X12_mix t107_6.2.1 t107_6.1 f_roots t115_13
  (u15.1, u15.2.1, u15.2.2)
noncomputable def X12_reckon_m64 (v_rowSize : Nat) (n3 : Nat) (k52_4 : Nat) : (Int32) :=
  if v_rowSize + k52_4 = v_rowSize then
  (nI 128)
  else
  (if n3 - 4 ≤ v_rowSize + k52_4 then
  (sr32 (nI (8 * v_rowSize)) (8 * ((n3 - 1) - (v_rowSize + k52_4))))
  else
  (nI 0))
noncomputable def X12_reckon_l52 (v_rowSize : Nat) (n3 : Nat) (k52_4 : Nat) (t52_4 : (Nat → Int32)) : (Nat → Int32) :=
  let g64_23 := X12_reckon_m64 v_rowSize n3 k52_4
  upd t52_4 (v_rowSize + k52_4) (b8 g64_23)
noncomputable def X12_reckon_l12 (f_begins : Nat → Int32) (k12_1 : Nat) (t12_1 : (Nat → Int32)) : (Nat → Int32) :=
  let y27 := f_begins k12_1
  upd t12_1 k12_1 y27
noncomputable def f_X12_reckon (v_rowSize : Nat) (f_state8 : Nat → Int32) (f_digest : Nat → Int32) (f_begun : Nat → Int32) (f_roots : Nat → Int32) (f_w : Nat → Int32) (f_row : Nat → Int32) (f_begins : Nat → Int32) : (Nat) × (Nat → Int32) × (Nat → Int32) × (Nat → Int32) × (Nat → Int32) × (Nat → Int32) :=
  let t12_1 := itr (X12_reckon_l12 f_begins) f_state8 8
  let n3 := ((v_rowSize + 9 + 63) / 64) * 64
  let t52_4 := itr (X12_reckon_l52 v_rowSize n3) f_row (n3 - v_rowSize)
  let t107_6 := itr (X12_reckon_l107 f_roots t52_4) ((f_begun, t12_1, f_w)) (n3 / 64)
  let t199_8 := itr (X12_reckon_l199 t107_6) f_digest 8
  (0, t107_6.1, t199_8, t52_4, t107_6.2.1, t107_6.2.2)
set_option maxHeartbeats 4000000 in
set_option maxRecDepth 100000 in
theorem c_X12_reckon (l : Launch) (D : va_G) (ct : Nat → ClassId) (ts : Nat → Nat) (a_this : Nat) (ad : Nat → Nat) (v_thrown : Int32) (v_connections : Int32) (v_size : Nat) (v_ids : Nat) (v_dataAll : Nat) (v_putCount : Nat) (v_waiting : Nat) (v_readSize : Nat) (v_power : Int32) (v_left : Int32) (v_since : Int32) (v_changes : Int32) (v_rowSize : Nat) (f_state8 : Nat → Int32) (f_digest : Nat → Int32) (f_begun : Nat → Int32) (f_roots : Nat → Int32) (f_w : Nat → Int32) (f_row : Nat → Int32) (f_begins : Nat → Int32)  (h_r : v_rowSize ≤ 700)  (sz : Nat) : Met l yX12_reckon (Cond.code yX12_reckon cX12_reckon 6 none :: tb) { frames := 2, cells := 0, slots := 0, locals := 47 } (PcG D ct SXL ts [.ref a_this] [(a_this, .inr (12, mfs ad v_thrown v_connections (nI v_size) (nI v_ids) (nI v_dataAll) (nI v_putCount) (nI v_waiting) (nI v_readSize) v_power v_left v_since v_changes (nI v_rowSize))), (ad 50, .inl (ct 0, 8, .inl f_state8)), (ad 49, .inl (ct 0, 8, .inl f_digest)), (ad 52, .inl (ct 0, 8, .inl f_begun)), (ad 53, .inl (ct 0, 64, .inl f_roots)), (ad 51, .inl (ct 0, 64, .inl f_w)), (ad 47, .inl (ct 1, 800, .inl f_row)), (ad 54, .inl (ct 0, 8, .inl f_begins))] sz) (va_Qv (fun u : (Nat) × (Nat → Int32) × (Nat → Int32) × (Nat → Int32) × (Nat → Int32) × (Nat → Int32) => u = f_X12_reckon v_rowSize f_state8 f_digest f_begun f_roots f_w f_row f_begins) (fun u => BG D ct (va_A [(a_this, .inr (12, mfs ad v_thrown v_connections (nI v_size) (nI v_ids) (nI v_dataAll) (nI v_putCount) (nI v_waiting) (nI v_readSize) v_power v_left v_since v_changes (nI v_rowSize))), (ad 50, .inl (ct 0, 8, .inl f_state8)), (ad 49, .inl (ct 0, 8, .inl f_digest)), (ad 52, .inl (ct 0, 8, .inl f_begun)), (ad 53, .inl (ct 0, 64, .inl f_roots)), (ad 51, .inl (ct 0, 64, .inl f_w)), (ad 47, .inl (ct 1, 800, .inl f_row)), (ad 54, .inl (ct 0, 8, .inl f_begins))] sz) [(a_this, .inr (12, mfs ad v_thrown v_connections (nI v_size) (nI v_ids) (nI v_dataAll) (nI v_putCount) (nI v_waiting) (nI v_readSize) v_power v_left v_since v_changes (nI u.1))), (ad 50, .inl (ct 0, 8, .inl u.2.2.2.2.1)), (ad 49, .inl (ct 0, 8, .inl u.2.2.1)), (ad 52, .inl (ct 0, 8, .inl u.2.1)), (ad 53, .inl (ct 0, 64, .inl f_roots)), (ad 51, .inl (ct 0, 64, .inl u.2.2.2.2.2)), (ad 47, .inl (ct 1, 800, .inl u.2.2.2.1)), (ad 54, .inl (ct 0, 8, .inl f_begins))]) (va_A [(a_this, .inr (12, mfs ad v_thrown v_connections (nI v_size) (nI v_ids) (nI v_dataAll) (nI v_putCount) (nI v_waiting) (nI v_readSize) v_power v_left v_since v_changes (nI v_rowSize))), (ad 50, .inl (ct 0, 8, .inl f_state8)), (ad 49, .inl (ct 0, 8, .inl f_digest)), (ad 52, .inl (ct 0, 8, .inl f_begun)), (ad 53, .inl (ct 0, 64, .inl f_roots)), (ad 51, .inl (ct 0, 64, .inl f_w)), (ad 47, .inl (ct 1, 800, .inl f_row)), (ad 54, .inl (ct 0, 8, .inl f_begins))] sz)) 0 0 (va_A [(a_this, .inr (12, mfs ad v_thrown v_connections (nI v_size) (nI v_ids) (nI v_dataAll) (nI v_putCount) (nI v_waiting) (nI v_readSize) v_power v_left v_since v_changes (nI v_rowSize))), (ad 50, .inl (ct 0, 8, .inl f_state8)), (ad 49, .inl (ct 0, 8, .inl f_digest)), (ad 52, .inl (ct 0, 8, .inl f_begun)), (ad 53, .inl (ct 0, 64, .inl f_roots)), (ad 51, .inl (ct 0, 64, .inl f_w)), (ad 47, .inl (ct 1, 800, .inl f_row)), (ad 54, .inl (ct 0, 8, .inl f_begins))] sz) := by
  refine metJ (QcF := fun A => va_Qv (fun u : (Nat) × (Nat → Int32) × (Nat → Int32) × (Nat → Int32) × (Nat → Int32) × (Nat → Int32) => u = f_X12_reckon v_rowSize f_state8 f_digest f_begun f_roots f_w f_row f_begins) (fun u => BG D ct A [(a_this, .inr (12, mfs ad v_thrown v_connections (nI v_size) (nI v_ids) (nI v_dataAll) (nI v_putCount) (nI v_waiting) (nI v_readSize) v_power v_left v_since v_changes (nI u.1))), (ad 50, .inl (ct 0, 8, .inl u.2.2.2.2.1)), (ad 49, .inl (ct 0, 8, .inl u.2.2.1)), (ad 52, .inl (ct 0, 8, .inl u.2.1)), (ad 53, .inl (ct 0, 64, .inl f_roots)), (ad 51, .inl (ct 0, 64, .inl u.2.2.2.2.2)), (ad 47, .inl (ct 1, 800, .inl u.2.2.2.1)), (ad 54, .inl (ct 0, 8, .inl f_begins))]) A) (by decide) (Nat.le_of_ble_eq_true rfl) ?_
  intro p e s m below meth c A X hnm
  obtain ⟨Q, hQ⟩ : ∃ Q, Q = MQ below (va_Qv (fun u : (Nat) × (Nat → Int32) × (Nat → Int32) × (Nat → Int32) × (Nat → Int32) × (Nat → Int32) => u = f_X12_reckon v_rowSize f_state8 f_digest f_begun f_roots f_w f_row f_begins) (fun u => BG D ct A [(a_this, .inr (12, mfs ad v_thrown v_connections (nI v_size) (nI v_ids) (nI v_dataAll) (nI v_putCount) (nI v_waiting) (nI v_readSize) v_power v_left v_since v_changes (nI u.1))), (ad 50, .inl (ct 0, 8, .inl u.2.2.2.2.1)), (ad 49, .inl (ct 0, 8, .inl u.2.2.1)), (ad 52, .inl (ct 0, 8, .inl u.2.1)), (ad 53, .inl (ct 0, 64, .inl f_roots)), (ad 51, .inl (ct 0, 64, .inl u.2.2.2.2.2)), (ad 47, .inl (ct 1, 800, .inl u.2.2.2.1)), (ad 54, .inl (ct 0, 8, .inl f_begins))]) A) [.ref a_this].toArray s 0 0 A := ⟨_, rfl⟩
  rw [← hQ]
  refine j_lve (lv' := [(0, .ref a_this)]) rfl ?_
  refine j_aload_n X 0 dX12_reckon_0 rfl (q := 1) rfl ?_
  refine j_get (f := 48) X 0 inT12 rfl rfl (by decide) mw_X12_reckon_0 rfl dX12_reckon_1 (q := 4) rfl ?_
  refine j_istore_n (lv' := [(1, .int (nI v_rowSize)), (0, .ref a_this)]) X dX12_reckon_4 (by decide) rfl (q := 5) rfl ?_
  refine j_aload_n X 1 dX12_reckon_5 rfl (q := 6) rfl ?_
  refine j_iconst (v := nI 0) X dX12_reckon_6 (by decide) (q := 7) rfl ?_
  refine j_put (f := 48) (ws2 := [(a_this, .inr (12, mfs ad v_thrown v_connections (nI v_size) (nI v_ids) (nI v_dataAll) (nI v_putCount) (nI v_waiting) (nI v_readSize) v_power v_left v_since v_changes (nI 0))), (ad 50, .inl (ct 0, 8, .inl f_state8)), (ad 49, .inl (ct 0, 8, .inl f_digest)), (ad 52, .inl (ct 0, 8, .inl f_begun)), (ad 53, .inl (ct 0, 64, .inl f_roots)), (ad 51, .inl (ct 0, 64, .inl f_w)), (ad 47, .inl (ct 1, 800, .inl f_row)), (ad 54, .inl (ct 0, 8, .inl f_begins))]) (ty := .int) X 0 inT12 tyX12_ok nmX12 rfl rfl (by decide) mw_X12_reckon_0 rfl rfl rfl rfl (Nat.le_of_ble_eq_true rfl) dX12_reckon_7 rfl (q := 10) rfl ?_
  refine j_iconst (v := nI 0) X dX12_reckon_10 (by decide) (q := 11) rfl ?_
  refine j_istore_n (lv' := [(2, .int (nI 0)), (1, .int (nI v_rowSize)), (0, .ref a_this)]) X dX12_reckon_11 (by decide) rfl (q := 12) rfl ?_
  refine j_lv (lv' := [(0, .ref a_this), (1, .int (nI v_rowSize)), (2, .int (nI 0))]) [2, 1, 0] rfl ?_
  have LP12_1 : ∀ (r12_1 k12_1 : Nat) (t12_1 : (Nat → Int32)), k12_1 + r12_1 = 8 → t12_1 = itr (X12_reckon_l12 f_begins) f_state8 k12_1 → J p l e { frames := 2, cells := 0, slots := 0, locals := 47 } s m [.ref a_this].toArray below meth c D A 6 Q 0 0 [(a_this, .inr (12, mfs ad v_thrown v_connections (nI v_size) (nI v_ids) (nI v_dataAll) (nI v_putCount) (nI v_waiting) (nI v_readSize) v_power v_left v_since v_changes (nI 0))), (ad 50, .inl (ct 0, 8, .inl t12_1)), (ad 49, .inl (ct 0, 8, .inl f_digest)), (ad 52, .inl (ct 0, 8, .inl f_begun)), (ad 53, .inl (ct 0, 64, .inl f_roots)), (ad 51, .inl (ct 0, 64, .inl f_w)), (ad 47, .inl (ct 1, 800, .inl f_row)), (ad 54, .inl (ct 0, 8, .inl f_begins))] [(0, .ref a_this), (1, .int (nI v_rowSize)), (2, .int (nI k12_1))] [] 12 := by
    intro r12_1
    induction r12_1 with
    | zero =>
      intro k12_1 t12_1 hk_t12_1 e_t12_1 
      have hkk_t12_1 : 8 = k12_1 := by omega
      subst hkk_t12_1
      refine j_iload_n X 2 dX12_reckon_12 rfl (q := 13) rfl ?_
      refine j_bipush (v := nI 8) X dX12_reckon_13 (by decide) (q := 15) rfl ?_
      refine j_icmp_ge (tgt := 36) X dX12_reckon_15 (by decide) (q := 18) rfl (fun c2 => ?_) (fun c2 => ?_)
      · skip
        have c2 : 8 ≤ 8 := (nI_leI (a := 8) (b := 8) (by omega) (by omega)).mp c2
        refine j_iload_n X 1 dX12_reckon_36 rfl (q := 37) rfl ?_
        refine j_bipush (v := nI 9) X dX12_reckon_37 (by decide) (q := 39) rfl ?_
        refine j_iadd X dX12_reckon_39 (q := 40) rfl ?_
        refine j_eqi (nI_add _ _) ?_
        refine j_bipush (v := nI 63) X dX12_reckon_40 (by decide) (q := 42) rfl ?_
        refine j_iadd X dX12_reckon_42 (q := 43) rfl ?_
        refine j_eqi (nI_add _ _) ?_
        refine j_bipush (v := nI 64) X dX12_reckon_43 (by decide) (q := 45) rfl ?_
        refine j_idiv X dX12_reckon_45 (by decide) (q := 46) rfl ?_
        refine j_eqi (pk_div (by omega) (by omega) (by omega)) ?_
        refine j_bipush (v := nI 64) X dX12_reckon_46 (by decide) (q := 48) rfl ?_
        refine j_imul X dX12_reckon_48 (q := 49) rfl ?_
        refine j_eqi (pk_mul _ _) ?_
        refine j_topn (fun n3 e_n3 => ?_)
        refine j_istore_n (lv' := [(2, .int (nI n3)), (0, .ref a_this), (1, .int (nI v_rowSize))]) X dX12_reckon_49 (by decide) rfl (q := 50) rfl ?_
        refine j_iload_n X 2 dX12_reckon_50 rfl (q := 51) rfl ?_
        refine j_istore_n (lv' := [(3, .int (nI v_rowSize)), (2, .int (nI n3)), (0, .ref a_this), (1, .int (nI v_rowSize))]) X dX12_reckon_51 (by decide) rfl (q := 52) rfl ?_
        refine j_lv (lv' := [(0, .ref a_this), (1, .int (nI v_rowSize)), (2, .int (nI n3)), (3, .int (nI v_rowSize))]) [2, 3, 1, 0] rfl ?_
        have LP52_4 : ∀ (r52_4 k52_4 : Nat) (t52_4 : (Nat → Int32)), k52_4 + r52_4 = n3 - v_rowSize → t52_4 = itr (X12_reckon_l52 v_rowSize n3) f_row k52_4 → J p l e { frames := 2, cells := 0, slots := 0, locals := 47 } s m [.ref a_this].toArray below meth c D A 6 Q 0 0 [(a_this, .inr (12, mfs ad v_thrown v_connections (nI v_size) (nI v_ids) (nI v_dataAll) (nI v_putCount) (nI v_waiting) (nI v_readSize) v_power v_left v_since v_changes (nI 0))), (ad 50, .inl (ct 0, 8, .inl t12_1)), (ad 49, .inl (ct 0, 8, .inl f_digest)), (ad 52, .inl (ct 0, 8, .inl f_begun)), (ad 53, .inl (ct 0, 64, .inl f_roots)), (ad 51, .inl (ct 0, 64, .inl f_w)), (ad 47, .inl (ct 1, 800, .inl t52_4)), (ad 54, .inl (ct 0, 8, .inl f_begins))] [(0, .ref a_this), (1, .int (nI v_rowSize)), (2, .int (nI n3)), (3, .int (nI (v_rowSize + k52_4)))] [] 52 := by
          intro r52_4
          induction r52_4 with
          | zero =>
            intro k52_4 t52_4 hk_t52_4 e_t52_4 
            have hkk_t52_4 : n3 - v_rowSize = k52_4 := by omega
            subst hkk_t52_4
            refine j_iload_n X 3 dX12_reckon_52 rfl (q := 53) rfl ?_
            refine j_iload_n X 2 dX12_reckon_53 rfl (q := 54) rfl ?_
            refine j_icmp_ge (tgt := 105) X dX12_reckon_54 (by decide) (q := 57) rfl (fun c5 => ?_) (fun c5 => ?_)
            · skip
              have c5 : n3 ≤ v_rowSize + (n3 - v_rowSize) := (nI_leI (a := n3) (b := v_rowSize + (n3 - v_rowSize)) (by omega) (by omega)).mp c5
              refine j_iconst (v := nI 0) X dX12_reckon_105 (by decide) (q := 106) rfl ?_
              refine j_istore_n (lv' := [(3, .int (nI 0)), (0, .ref a_this), (1, .int (nI v_rowSize)), (2, .int (nI n3))]) X dX12_reckon_106 (by decide) rfl (q := 107) rfl ?_
              refine j_lv (lv' := [(0, .ref a_this), (1, .int (nI v_rowSize)), (2, .int (nI n3)), (3, .int (nI 0))]) [1, 2, 3, 0] rfl ?_
              have LP107_6 : ∀ (r107_6 k107_6 : Nat) (t107_6 : (Nat → Int32) × (Nat → Int32) × (Nat → Int32)), k107_6 + r107_6 = n3 / 64 → t107_6 = itr (X12_reckon_l107 f_roots t52_4) ((f_begun, t12_1, f_w)) k107_6 → J p l e { frames := 2, cells := 0, slots := 0, locals := 47 } s m [.ref a_this].toArray below meth c D A 6 Q 0 0 [(a_this, .inr (12, mfs ad v_thrown v_connections (nI v_size) (nI v_ids) (nI v_dataAll) (nI v_putCount) (nI v_waiting) (nI v_readSize) v_power v_left v_since v_changes (nI 0))), (ad 50, .inl (ct 0, 8, .inl t107_6.2.1)), (ad 49, .inl (ct 0, 8, .inl f_digest)), (ad 52, .inl (ct 0, 8, .inl t107_6.1)), (ad 53, .inl (ct 0, 64, .inl f_roots)), (ad 51, .inl (ct 0, 64, .inl t107_6.2.2)), (ad 47, .inl (ct 1, 800, .inl t52_4)), (ad 54, .inl (ct 0, 8, .inl f_begins))] [(0, .ref a_this), (1, .int (nI v_rowSize)), (2, .int (nI n3)), (3, .int (nI (k107_6 * 64)))] [] 107 := by
                intro r107_6
                induction r107_6 with
                | zero =>
                  intro k107_6 t107_6 hk_t107_6 e_t107_6 
                  have hkk_t107_6 : n3 / 64 = k107_6 := by omega
                  subst hkk_t107_6
                  refine j_iload_n X 3 dX12_reckon_107 rfl (q := 108) rfl ?_
                  refine j_iload_n X 2 dX12_reckon_108 rfl (q := 109) rfl ?_
                  refine j_icmp_ge (tgt := 197) X dX12_reckon_109 (by decide) (q := 112) rfl (fun c7 => ?_) (fun c7 => ?_)
                  · skip
                    have c7 : n3 ≤ (n3 / 64) * 64 := (nI_leI (a := n3) (b := (n3 / 64) * 64) (by omega) (by omega)).mp c7
                    refine j_iconst (v := nI 0) X dX12_reckon_197 (by decide) (q := 198) rfl ?_
                    refine j_istore_n (lv' := [(3, .int (nI 0)), (0, .ref a_this), (1, .int (nI v_rowSize)), (2, .int (nI n3))]) X dX12_reckon_198 (by decide) rfl (q := 199) rfl ?_
                    refine j_lv (lv' := [(0, .ref a_this), (1, .int (nI v_rowSize)), (2, .int (nI n3)), (3, .int (nI 0))]) [1, 2, 3, 0] rfl ?_
                    have LP199_8 : ∀ (r199_8 k199_8 : Nat) (t199_8 : (Nat → Int32)), k199_8 + r199_8 = 8 → t199_8 = itr (X12_reckon_l199 t107_6) f_digest k199_8 → J p l e { frames := 2, cells := 0, slots := 0, locals := 47 } s m [.ref a_this].toArray below meth c D A 6 Q 0 0 [(a_this, .inr (12, mfs ad v_thrown v_connections (nI v_size) (nI v_ids) (nI v_dataAll) (nI v_putCount) (nI v_waiting) (nI v_readSize) v_power v_left v_since v_changes (nI 0))), (ad 50, .inl (ct 0, 8, .inl t107_6.2.1)), (ad 49, .inl (ct 0, 8, .inl t199_8)), (ad 52, .inl (ct 0, 8, .inl t107_6.1)), (ad 53, .inl (ct 0, 64, .inl f_roots)), (ad 51, .inl (ct 0, 64, .inl t107_6.2.2)), (ad 47, .inl (ct 1, 800, .inl t52_4)), (ad 54, .inl (ct 0, 8, .inl f_begins))] [(0, .ref a_this), (1, .int (nI v_rowSize)), (2, .int (nI n3)), (3, .int (nI k199_8))] [] 199 := by
                      intro r199_8
                      induction r199_8 with
                      | zero =>
                        intro k199_8 t199_8 hk_t199_8 e_t199_8 
                        have hkk_t199_8 : 8 = k199_8 := by omega
                        subst hkk_t199_8
                        refine j_iload_n X 3 dX12_reckon_199 rfl (q := 200) rfl ?_
                        refine j_bipush (v := nI 8) X dX12_reckon_200 (by decide) (q := 202) rfl ?_
                        refine j_icmp_ge (tgt := 223) X dX12_reckon_202 (by decide) (q := 205) rfl (fun c9 => ?_) (fun c9 => ?_)
                        · skip
                          have c9 : 8 ≤ 8 := (nI_leI (a := 8) (b := 8) (by omega) (by omega)).mp c9
                          rw [hQ]
                          exact j_vret X ((0, t107_6.1, t199_8, t52_4, t107_6.2.1, t107_6.2.2)) dX12_reckon_223 (by subst e_t12_1; subst e_n3; subst e_t52_4; subst e_t107_6; subst e_t199_8; rfl) rfl
                        · skip
                          have c9 : ¬ 8 ≤ 8 := fun h => c9 ((nI_leI (a := 8) (b := 8) (by omega) (by omega)).mpr h)
                          exfalso; omega
                      | succ r199_8 ih199_8 =>
                        intro k199_8 t199_8 hk_t199_8 e_t199_8 
                        refine j_iload_n X 3 dX12_reckon_199 rfl (q := 200) rfl ?_
                        refine j_bipush (v := nI 8) X dX12_reckon_200 (by decide) (q := 202) rfl ?_
                        refine j_icmp_ge (tgt := 223) X dX12_reckon_202 (by decide) (q := 205) rfl (fun c10 => ?_) (fun c10 => ?_)
                        · skip
                          have c10 : 8 ≤ k199_8 := (nI_leI (a := 8) (b := k199_8) (by omega) (by omega)).mp c10
                          exfalso; omega
                        · skip
                          have c10 : ¬ 8 ≤ k199_8 := fun h => c10 ((nI_leI (a := 8) (b := k199_8) (by omega) (by omega)).mpr h)
                          refine j_aload_n X 0 dX12_reckon_205 rfl (q := 206) rfl ?_
                          refine j_get (f := 49) X 0 inT12 rfl rfl (by decide) mw_X12_reckon_1 rfl dX12_reckon_206 (q := 209) rfl ?_
                          refine j_iload_n X 3 dX12_reckon_209 rfl (q := 210) rfl ?_
                          refine j_aload_n X 0 dX12_reckon_210 rfl (q := 211) rfl ?_
                          refine j_get (f := 50) X 0 inT12 rfl rfl (by decide) mw_X12_reckon_2 rfl dX12_reckon_211 (q := 214) rfl ?_
                          refine j_iload_n X 3 dX12_reckon_214 rfl (q := 215) rfl ?_
                          refine k_iald X 1 rfl (vp_in_nI (by omega) (by omega)) (nI_clamp (by omega)) dX12_reckon_215 (q := 216) rfl ?_
                          refine j_topi (fun y11 e_y11 => ?_)
                          refine k_iast (ws2 := [(a_this, .inr (12, mfs ad v_thrown v_connections (nI v_size) (nI v_ids) (nI v_dataAll) (nI v_putCount) (nI v_waiting) (nI v_readSize) v_power v_left v_since v_changes (nI 0))), (ad 50, .inl (ct 0, 8, .inl t107_6.2.1)), (ad 49, .inl (ct 0, 8, .inl (upd t199_8 k199_8 y11))), (ad 52, .inl (ct 0, 8, .inl t107_6.1)), (ad 53, .inl (ct 0, 64, .inl f_roots)), (ad 51, .inl (ct 0, 64, .inl t107_6.2.2)), (ad 47, .inl (ct 1, 800, .inl t52_4)), (ad 54, .inl (ct 0, 8, .inl f_begins))]) X 2 rfl (vp_in_nI (by omega) (by omega)) (nI_clamp (by omega)) dX12_reckon_216 rfl (q := 217) rfl ?_
                          refine j_iinc (v := nI (k199_8 + 1)) (lv' := [(3, .int (nI (k199_8 + 1))), (0, .ref a_this), (1, .int (nI v_rowSize)), (2, .int (nI n3))]) X 3 dX12_reckon_217 rfl (nI_inc _ 1) (by decide) rfl (q := 220) rfl ?_
                          refine j_goto (tgt := 199) X dX12_reckon_220 (by decide) ?_
                          refine j_lv (lv' := [(0, .ref a_this), (1, .int (nI v_rowSize)), (2, .int (nI n3)), (3, .int (nI (k199_8 + 1)))]) [1, 2, 3, 0] rfl ?_
                          have hb : (X12_reckon_l199 t107_6) k199_8 t199_8 = upd t199_8 k199_8 y11 := (by subst e_y11; rfl)
                          exact ih199_8 (k199_8 + 1) (upd t199_8 k199_8 y11) (by omega) (by rw [itr_s, ← e_t199_8]; exact hb.symm) 
                    exact LP199_8 8 0 f_digest (by omega) (itr_0 _ _).symm 
                  · skip
                    have c7 : ¬ n3 ≤ (n3 / 64) * 64 := fun h => c7 ((nI_leI (a := n3) (b := (n3 / 64) * 64) (by omega) (by omega)).mpr h)
                    exfalso; omega
                | succ r107_6 ih107_6 =>
                  intro k107_6 t107_6 hk_t107_6 e_t107_6 
                  refine j_iload_n X 3 dX12_reckon_107 rfl (q := 108) rfl ?_
                  refine j_iload_n X 2 dX12_reckon_108 rfl (q := 109) rfl ?_
                  refine j_icmp_ge (tgt := 197) X dX12_reckon_109 (by decide) (q := 112) rfl (fun c12 => ?_) (fun c12 => ?_)
                  · skip
                    have c12 : n3 ≤ k107_6 * 64 := (nI_leI (a := n3) (b := k107_6 * 64) (by omega) (by omega)).mp c12
                    exfalso; omega
                  · skip
                    have c12 : ¬ n3 ≤ k107_6 * 64 := fun h => c12 ((nI_leI (a := n3) (b := k107_6 * 64) (by omega) (by omega)).mpr h)
                    refine j_iconst (v := nI 0) X dX12_reckon_112 (by decide) (q := 113) rfl ?_
                    refine j_istore (lv' := [(4, .int (nI 0)), (0, .ref a_this), (1, .int (nI v_rowSize)), (2, .int (nI n3)), (3, .int (nI (k107_6 * 64)))]) X dX12_reckon_113 (by decide) rfl (q := 115) rfl ?_
                    refine j_lv (lv' := [(0, .ref a_this), (1, .int (nI v_rowSize)), (2, .int (nI n3)), (3, .int (nI (k107_6 * 64))), (4, .int (nI 0))]) [1, 2, 3, 4, 0] rfl ?_
                    have LP115_13 : ∀ (r115_13 k115_13 : Nat) (t115_13 : (Nat → Int32)), k115_13 + r115_13 = 16 → t115_13 = itr (X12_reckon_l115 t52_4 k107_6) t107_6.2.2 k115_13 → J p l e { frames := 2, cells := 0, slots := 0, locals := 47 } s m [.ref a_this].toArray below meth c D A 6 Q 0 0 [(a_this, .inr (12, mfs ad v_thrown v_connections (nI v_size) (nI v_ids) (nI v_dataAll) (nI v_putCount) (nI v_waiting) (nI v_readSize) v_power v_left v_since v_changes (nI 0))), (ad 50, .inl (ct 0, 8, .inl t107_6.2.1)), (ad 49, .inl (ct 0, 8, .inl f_digest)), (ad 52, .inl (ct 0, 8, .inl t107_6.1)), (ad 53, .inl (ct 0, 64, .inl f_roots)), (ad 51, .inl (ct 0, 64, .inl t115_13)), (ad 47, .inl (ct 1, 800, .inl t52_4)), (ad 54, .inl (ct 0, 8, .inl f_begins))] [(0, .ref a_this), (1, .int (nI v_rowSize)), (2, .int (nI n3)), (3, .int (nI (k107_6 * 64))), (4, .int (nI k115_13))] [] 115 := by
                      intro r115_13
                      induction r115_13 with
                      | zero =>
                        intro k115_13 t115_13 hk_t115_13 e_t115_13 
                        have hkk_t115_13 : 16 = k115_13 := by omega
                        subst hkk_t115_13
                        refine j_iload X 4 dX12_reckon_115 rfl (q := 117) rfl ?_
                        refine j_bipush (v := nI 16) X dX12_reckon_117 (by decide) (q := 119) rfl ?_
                        refine j_icmp_ge (tgt := 187) X dX12_reckon_119 (by decide) (q := 122) rfl (fun c14 => ?_) (fun c14 => ?_)
                        · skip
                          have c14 : 16 ≤ 16 := (nI_leI (a := 16) (b := 16) (by omega) (by omega)).mp c14
                          refine j_aload_n X 0 dX12_reckon_187 rfl (q := 188) rfl ?_
                          refine j_callVv (As := []) (rest := []) (wn := (fun u15 => [(a_this, .inr (12, mfs ad v_thrown v_connections (nI v_size) (nI v_ids) (nI v_dataAll) (nI v_putCount) (nI v_waiting) (nI v_readSize) v_power v_left v_since v_changes (nI 0))), (ad 50, .inl (ct 0, 8, .inl u15.2.1)), (ad 49, .inl (ct 0, 8, .inl f_digest)), (ad 52, .inl (ct 0, 8, .inl u15.1)), (ad 53, .inl (ct 0, 64, .inl f_roots)), (ad 51, .inl (ct 0, 64, .inl u15.2.2)), (ad 47, .inl (ct 1, 800, .inl t52_4)), (ad 54, .inl (ct 0, 8, .inl f_begins))])) (wr := [(ad 49, .inl (ct 0, 8, .inl f_digest)), (ad 47, .inl (ct 1, 800, .inl t52_4)), (ad 54, .inl (ct 0, 8, .inl f_begins))]) X (fun sz => c_X12_mix l D ct ts a_this ad v_thrown v_connections v_size v_ids v_dataAll v_putCount v_waiting v_readSize v_power v_left v_since v_changes 0 t107_6.2.1 t107_6.1 f_roots t115_13  sz) cal_X12_mix 0 rfl rfl mw_X12_reckon_6 cwi_X12_mix cws_X12_mix rfl ⟨by decide, by decide⟩ rfl rfl (Nat.le_of_ble_eq_true rfl) ⟨by decide, by decide⟩ [0, 1, 3, 4, 5] [2, 6, 7] [3, 4, 0, 5, 6, 7, 1, 2] rfl (by decide) rfl (by decide) (by decide) (fun _ => rfl) (by decide) dX12_reckon_188 (q := 191) rfl (fun u15 hu15 => ?_)
                          refine j_iinc (v := nI ((k107_6 * 64) + 64)) (lv' := [(3, .int (nI ((k107_6 * 64) + 64))), (0, .ref a_this), (1, .int (nI v_rowSize)), (2, .int (nI n3)), (4, .int (nI 16))]) X 3 dX12_reckon_191 rfl (nI_inc _ 64) (by decide) rfl (q := 194) rfl ?_
                          refine j_goto (tgt := 107) X dX12_reckon_194 (by decide) ?_
                          refine j_lv (lv' := [(0, .ref a_this), (1, .int (nI v_rowSize)), (2, .int (nI n3)), (3, .int (nI ((k107_6 * 64) + 64)))]) [1, 2, 3, 0] rfl ?_
                          have hb : (X12_reckon_l107 f_roots t52_4) k107_6 t107_6 = (u15.1, u15.2.1, u15.2.2) := (by subst e_t115_13; subst hu15; rfl)
                          rw [show (k107_6 * 64) + 64 = (k107_6 + 1) * 64 from by omega]
                          exact ih107_6 (k107_6 + 1) ((u15.1, u15.2.1, u15.2.2)) (by omega) (by rw [itr_s, ← e_t107_6]; exact hb.symm) 
                        · skip
                          have c14 : ¬ 16 ≤ 16 := fun h => c14 ((nI_leI (a := 16) (b := 16) (by omega) (by omega)).mpr h)
                          exfalso; omega
                      | succ r115_13 ih115_13 =>
                        intro k115_13 t115_13 hk_t115_13 e_t115_13 
                        refine j_iload X 4 dX12_reckon_115 rfl (q := 117) rfl ?_
                        refine j_bipush (v := nI 16) X dX12_reckon_117 (by decide) (q := 119) rfl ?_
                        refine j_icmp_ge (tgt := 187) X dX12_reckon_119 (by decide) (q := 122) rfl (fun c17 => ?_) (fun c17 => ?_)
                        · skip
                          have c17 : 16 ≤ k115_13 := (nI_leI (a := 16) (b := k115_13) (by omega) (by omega)).mp c17
                          exfalso; omega
                        · skip
                          have c17 : ¬ 16 ≤ k115_13 := fun h => c17 ((nI_leI (a := 16) (b := k115_13) (by omega) (by omega)).mpr h)
                          refine j_aload_n X 0 dX12_reckon_122 rfl (q := 123) rfl ?_
                          refine j_get (f := 51) X 0 inT12 rfl rfl (by decide) mw_X12_reckon_3 rfl dX12_reckon_123 (q := 126) rfl ?_
                          refine j_iload X 4 dX12_reckon_126 rfl (q := 128) rfl ?_
                          refine j_iconst (v := nI 0) X dX12_reckon_128 (by decide) (q := 129) rfl ?_
                          refine k_iast (ws2 := [(a_this, .inr (12, mfs ad v_thrown v_connections (nI v_size) (nI v_ids) (nI v_dataAll) (nI v_putCount) (nI v_waiting) (nI v_readSize) v_power v_left v_since v_changes (nI 0))), (ad 50, .inl (ct 0, 8, .inl t107_6.2.1)), (ad 49, .inl (ct 0, 8, .inl f_digest)), (ad 52, .inl (ct 0, 8, .inl t107_6.1)), (ad 53, .inl (ct 0, 64, .inl f_roots)), (ad 51, .inl (ct 0, 64, .inl (upd t115_13 k115_13 (nI 0)))), (ad 47, .inl (ct 1, 800, .inl t52_4)), (ad 54, .inl (ct 0, 8, .inl f_begins))]) X 5 rfl (vp_in_nI (by omega) (by omega)) (nI_clamp (by omega)) dX12_reckon_129 rfl (q := 130) rfl ?_
                          refine j_iconst (v := nI 0) X dX12_reckon_130 (by decide) (q := 131) rfl ?_
                          refine j_istore (lv' := [(5, .int (nI 0)), (0, .ref a_this), (1, .int (nI v_rowSize)), (2, .int (nI n3)), (3, .int (nI (k107_6 * 64))), (4, .int (nI k115_13))]) X dX12_reckon_131 (by decide) rfl (q := 133) rfl ?_
                          refine j_lv (lv' := [(0, .ref a_this), (1, .int (nI v_rowSize)), (2, .int (nI n3)), (3, .int (nI (k107_6 * 64))), (4, .int (nI k115_13)), (5, .int (nI 0))]) [1, 2, 3, 4, 5, 0] rfl ?_
                          have LP133_18 : ∀ (r133_18 k133_18 : Nat) (t133_18 : (Nat → Int32)), k133_18 + r133_18 = 4 → t133_18 = itr (X12_reckon_l133 t52_4 k107_6 k115_13) (upd t115_13 k115_13 (nI 0)) k133_18 → J p l e { frames := 2, cells := 0, slots := 0, locals := 47 } s m [.ref a_this].toArray below meth c D A 6 Q 0 0 [(a_this, .inr (12, mfs ad v_thrown v_connections (nI v_size) (nI v_ids) (nI v_dataAll) (nI v_putCount) (nI v_waiting) (nI v_readSize) v_power v_left v_since v_changes (nI 0))), (ad 50, .inl (ct 0, 8, .inl t107_6.2.1)), (ad 49, .inl (ct 0, 8, .inl f_digest)), (ad 52, .inl (ct 0, 8, .inl t107_6.1)), (ad 53, .inl (ct 0, 64, .inl f_roots)), (ad 51, .inl (ct 0, 64, .inl t133_18)), (ad 47, .inl (ct 1, 800, .inl t52_4)), (ad 54, .inl (ct 0, 8, .inl f_begins))] [(0, .ref a_this), (1, .int (nI v_rowSize)), (2, .int (nI n3)), (3, .int (nI (k107_6 * 64))), (4, .int (nI k115_13)), (5, .int (nI k133_18))] [] 133 := by
                            intro r133_18
                            induction r133_18 with
                            | zero =>
                              intro k133_18 t133_18 hk_t133_18 e_t133_18 
                              have hkk_t133_18 : 4 = k133_18 := by omega
                              subst hkk_t133_18
                              refine j_iload X 5 dX12_reckon_133 rfl (q := 135) rfl ?_
                              refine j_iconst (v := nI 4) X dX12_reckon_135 (by decide) (q := 136) rfl ?_
                              refine j_icmp_ge (tgt := 181) X dX12_reckon_136 (by decide) (q := 139) rfl (fun c19 => ?_) (fun c19 => ?_)
                              · skip
                                have c19 : 4 ≤ 4 := (nI_leI (a := 4) (b := 4) (by omega) (by omega)).mp c19
                                refine j_iinc (v := nI (k115_13 + 1)) (lv' := [(4, .int (nI (k115_13 + 1))), (0, .ref a_this), (1, .int (nI v_rowSize)), (2, .int (nI n3)), (3, .int (nI (k107_6 * 64))), (5, .int (nI 4))]) X 4 dX12_reckon_181 rfl (nI_inc _ 1) (by decide) rfl (q := 184) rfl ?_
                                refine j_goto (tgt := 115) X dX12_reckon_184 (by decide) ?_
                                refine j_lv (lv' := [(0, .ref a_this), (1, .int (nI v_rowSize)), (2, .int (nI n3)), (3, .int (nI (k107_6 * 64))), (4, .int (nI (k115_13 + 1)))]) [1, 2, 3, 4, 0] rfl ?_
                                have hb : (X12_reckon_l115 t52_4 k107_6) k115_13 t115_13 = t133_18 := (by subst e_t133_18; rfl)
                                exact ih115_13 (k115_13 + 1) t133_18 (by omega) (by rw [itr_s, ← e_t115_13]; exact hb.symm) 
                              · skip
                                have c19 : ¬ 4 ≤ 4 := fun h => c19 ((nI_leI (a := 4) (b := 4) (by omega) (by omega)).mpr h)
                                exfalso; omega
                            | succ r133_18 ih133_18 =>
                              intro k133_18 t133_18 hk_t133_18 e_t133_18 
                              refine j_iload X 5 dX12_reckon_133 rfl (q := 135) rfl ?_
                              refine j_iconst (v := nI 4) X dX12_reckon_135 (by decide) (q := 136) rfl ?_
                              refine j_icmp_ge (tgt := 181) X dX12_reckon_136 (by decide) (q := 139) rfl (fun c20 => ?_) (fun c20 => ?_)
                              · skip
                                have c20 : 4 ≤ k133_18 := (nI_leI (a := 4) (b := k133_18) (by omega) (by omega)).mp c20
                                exfalso; omega
                              · skip
                                have c20 : ¬ 4 ≤ k133_18 := fun h => c20 ((nI_leI (a := 4) (b := k133_18) (by omega) (by omega)).mpr h)
                                refine j_aload_n X 0 dX12_reckon_139 rfl (q := 140) rfl ?_
                                refine j_get (f := 51) X 0 inT12 rfl rfl (by decide) mw_X12_reckon_3 rfl dX12_reckon_140 (q := 143) rfl ?_
                                refine j_iload X 4 dX12_reckon_143 rfl (q := 145) rfl ?_
                                refine j_aload_n X 0 dX12_reckon_145 rfl (q := 146) rfl ?_
                                refine j_get (f := 51) X 0 inT12 rfl rfl (by decide) mw_X12_reckon_3 rfl dX12_reckon_146 (q := 149) rfl ?_
                                refine j_iload X 4 dX12_reckon_149 rfl (q := 151) rfl ?_
                                refine k_iald X 5 rfl (vp_in_nI (by omega) (by omega)) (nI_clamp (by omega)) dX12_reckon_151 (q := 152) rfl ?_
                                refine j_bipush (v := nI 8) X dX12_reckon_152 (by decide) (q := 154) rfl ?_
                                refine j_ishl X dX12_reckon_154 (q := 155) rfl ?_
                                refine j_eqi (show _ = sh32 (t133_18 k115_13) 8 from rfl) ?_
                                refine j_aload_n X 0 dX12_reckon_155 rfl (q := 156) rfl ?_
                                refine j_get (f := 47) X 0 inT12 rfl rfl (by decide) mw_X12_reckon_4 rfl dX12_reckon_156 (q := 159) rfl ?_
                                refine j_iload_n X 3 dX12_reckon_159 rfl (q := 160) rfl ?_
                                refine j_iconst (v := nI 4) X dX12_reckon_160 (by decide) (q := 161) rfl ?_
                                refine j_iload X 4 dX12_reckon_161 rfl (q := 163) rfl ?_
                                refine j_imul X dX12_reckon_163 (q := 164) rfl ?_
                                refine j_eqi (pk_mul _ _) ?_
                                refine j_iadd X dX12_reckon_164 (q := 165) rfl ?_
                                refine j_eqi (nI_add _ _) ?_
                                refine j_iload X 5 dX12_reckon_165 rfl (q := 167) rfl ?_
                                refine j_iadd X dX12_reckon_167 (q := 168) rfl ?_
                                refine j_eqi (nI_add _ _) ?_
                                refine k_bald X 6 rfl (vp_in_nI (by omega) (by omega)) (nI_clamp (by omega)) dX12_reckon_168 (q := 169) rfl ?_
                                refine j_sipush (v := nI 255) X dX12_reckon_169 (by decide) (q := 172) rfl ?_
                                refine j_iand X dX12_reckon_172 (q := 173) rfl ?_
                                refine j_ior X dX12_reckon_173 (q := 174) rfl ?_
                                refine j_topi (fun y21 e_y21 => ?_)
                                refine k_iast (ws2 := [(a_this, .inr (12, mfs ad v_thrown v_connections (nI v_size) (nI v_ids) (nI v_dataAll) (nI v_putCount) (nI v_waiting) (nI v_readSize) v_power v_left v_since v_changes (nI 0))), (ad 50, .inl (ct 0, 8, .inl t107_6.2.1)), (ad 49, .inl (ct 0, 8, .inl f_digest)), (ad 52, .inl (ct 0, 8, .inl t107_6.1)), (ad 53, .inl (ct 0, 64, .inl f_roots)), (ad 51, .inl (ct 0, 64, .inl (upd t133_18 k115_13 y21))), (ad 47, .inl (ct 1, 800, .inl t52_4)), (ad 54, .inl (ct 0, 8, .inl f_begins))]) X 5 rfl (vp_in_nI (by omega) (by omega)) (nI_clamp (by omega)) dX12_reckon_174 rfl (q := 175) rfl ?_
                                refine j_iinc (v := nI (k133_18 + 1)) (lv' := [(5, .int (nI (k133_18 + 1))), (0, .ref a_this), (1, .int (nI v_rowSize)), (2, .int (nI n3)), (3, .int (nI (k107_6 * 64))), (4, .int (nI k115_13))]) X 5 dX12_reckon_175 rfl (nI_inc _ 1) (by decide) rfl (q := 178) rfl ?_
                                refine j_goto (tgt := 133) X dX12_reckon_178 (by decide) ?_
                                refine j_lv (lv' := [(0, .ref a_this), (1, .int (nI v_rowSize)), (2, .int (nI n3)), (3, .int (nI (k107_6 * 64))), (4, .int (nI k115_13)), (5, .int (nI (k133_18 + 1)))]) [1, 2, 3, 4, 5, 0] rfl ?_
                                have hb : (X12_reckon_l133 t52_4 k107_6 k115_13) k133_18 t133_18 = upd t133_18 k115_13 y21 := (by subst e_y21; rfl)
                                exact ih133_18 (k133_18 + 1) (upd t133_18 k115_13 y21) (by omega) (by rw [itr_s, ← e_t133_18]; exact hb.symm) 
                          exact LP133_18 4 0 (upd t115_13 k115_13 (nI 0)) (by omega) (itr_0 _ _).symm 
                    exact LP115_13 16 0 t107_6.2.2 (by omega) (itr_0 _ _).symm 
              exact LP107_6 (n3 / 64) 0 ((f_begun, t12_1, f_w)) (by omega) (itr_0 _ _).symm 
            · skip
              have c5 : ¬ n3 ≤ v_rowSize + (n3 - v_rowSize) := fun h => c5 ((nI_leI (a := n3) (b := v_rowSize + (n3 - v_rowSize)) (by omega) (by omega)).mpr h)
              exfalso; omega
          | succ r52_4 ih52_4 =>
            intro k52_4 t52_4 hk_t52_4 e_t52_4 
            refine j_iload_n X 3 dX12_reckon_52 rfl (q := 53) rfl ?_
            refine j_iload_n X 2 dX12_reckon_53 rfl (q := 54) rfl ?_
            refine j_icmp_ge (tgt := 105) X dX12_reckon_54 (by decide) (q := 57) rfl (fun c22 => ?_) (fun c22 => ?_)
            · skip
              have c22 : n3 ≤ v_rowSize + k52_4 := (nI_leI (a := n3) (b := v_rowSize + k52_4) (by omega) (by omega)).mp c22
              exfalso; omega
            · skip
              have c22 : ¬ n3 ≤ v_rowSize + k52_4 := fun h => c22 ((nI_leI (a := n3) (b := v_rowSize + k52_4) (by omega) (by omega)).mpr h)
              refine j_aload_n X 0 dX12_reckon_57 rfl (q := 58) rfl ?_
              refine j_get (f := 47) X 0 inT12 rfl rfl (by decide) mw_X12_reckon_4 rfl dX12_reckon_58 (q := 61) rfl ?_
              refine j_iload_n X 3 dX12_reckon_61 rfl (q := 62) rfl ?_
              refine j_iload_n X 3 dX12_reckon_62 rfl (q := 63) rfl ?_
              refine j_iload_n X 1 dX12_reckon_63 rfl (q := 64) rfl ?_
              have KJ64_23 : ∀ g64_23 : (Int32), g64_23 = X12_reckon_m64 v_rowSize n3 k52_4 → J p l e { frames := 2, cells := 0, slots := 0, locals := 47 } s m [.ref a_this].toArray below meth c D A 6 Q 0 0 [(a_this, .inr (12, mfs ad v_thrown v_connections (nI v_size) (nI v_ids) (nI v_dataAll) (nI v_putCount) (nI v_waiting) (nI v_readSize) v_power v_left v_since v_changes (nI 0))), (ad 50, .inl (ct 0, 8, .inl t12_1)), (ad 49, .inl (ct 0, 8, .inl f_digest)), (ad 52, .inl (ct 0, 8, .inl f_begun)), (ad 53, .inl (ct 0, 64, .inl f_roots)), (ad 51, .inl (ct 0, 64, .inl f_w)), (ad 47, .inl (ct 1, 800, .inl t52_4)), (ad 54, .inl (ct 0, 8, .inl f_begins))] [(0, .ref a_this), (1, .int (nI v_rowSize)), (2, .int (nI n3)), (3, .int (nI (v_rowSize + k52_4)))] [.int g64_23, .int (nI (v_rowSize + k52_4)), .ref (ad 47)] 97 := by
                intro g64_23 e_g64_23
                refine j_i2b X dX12_reckon_97 (q := 98) rfl ?_
                refine j_eqi (show _ = b8 g64_23 from rfl) ?_
                refine k_bast (ws2 := [(a_this, .inr (12, mfs ad v_thrown v_connections (nI v_size) (nI v_ids) (nI v_dataAll) (nI v_putCount) (nI v_waiting) (nI v_readSize) v_power v_left v_since v_changes (nI 0))), (ad 50, .inl (ct 0, 8, .inl t12_1)), (ad 49, .inl (ct 0, 8, .inl f_digest)), (ad 52, .inl (ct 0, 8, .inl f_begun)), (ad 53, .inl (ct 0, 64, .inl f_roots)), (ad 51, .inl (ct 0, 64, .inl f_w)), (ad 47, .inl (ct 1, 800, .inl (upd t52_4 (v_rowSize + k52_4) (b8 g64_23)))), (ad 54, .inl (ct 0, 8, .inl f_begins))]) X 6 rfl (vp_in_nI (by omega) (by omega)) (nI_clamp (by omega)) (pk_vb _) dX12_reckon_98 rfl (q := 99) rfl ?_
                refine j_iinc (v := nI (v_rowSize + k52_4 + 1)) (lv' := [(3, .int (nI (v_rowSize + k52_4 + 1))), (0, .ref a_this), (1, .int (nI v_rowSize)), (2, .int (nI n3))]) X 3 dX12_reckon_99 rfl (nI_inc _ 1) (by decide) rfl (q := 102) rfl ?_
                refine j_goto (tgt := 52) X dX12_reckon_102 (by decide) ?_
                refine j_lv (lv' := [(0, .ref a_this), (1, .int (nI v_rowSize)), (2, .int (nI n3)), (3, .int (nI (v_rowSize + k52_4 + 1)))]) [1, 2, 3, 0] rfl ?_
                have hb : (X12_reckon_l52 v_rowSize n3) k52_4 t52_4 = upd t52_4 (v_rowSize + k52_4) (b8 g64_23) := (by subst e_g64_23; rfl)
                exact ih52_4 (k52_4 + 1) (upd t52_4 (v_rowSize + k52_4) (b8 g64_23)) (by omega) (by rw [itr_s, ← e_t52_4]; exact hb.symm) 
              refine j_icmp_ne (tgt := 73) X dX12_reckon_64 (by decide) (q := 67) rfl (fun c24 => ?_) (fun c24 => ?_)
              · skip
                have c24 : ¬ v_rowSize + k52_4 = v_rowSize := fun h => c24 (by rw [h])
                refine j_iload_n X 3 dX12_reckon_73 rfl (q := 74) rfl ?_
                refine j_iload_n X 2 dX12_reckon_74 rfl (q := 75) rfl ?_
                refine j_iconst (v := nI 4) X dX12_reckon_75 (by decide) (q := 76) rfl ?_
                refine j_isub X dX12_reckon_76 (q := 77) rfl ?_
                refine j_eqi (pk_sub (by omega)) ?_
                refine j_icmp_ge (tgt := 84) X dX12_reckon_77 (by decide) (q := 80) rfl (fun c25 => ?_) (fun c25 => ?_)
                · skip
                  have c25 : n3 - 4 ≤ v_rowSize + k52_4 := (nI_leI (a := n3 - 4) (b := v_rowSize + k52_4) (by omega) (by omega)).mp c25
                  refine j_bipush (v := nI 8) X dX12_reckon_84 (by decide) (q := 86) rfl ?_
                  refine j_iload_n X 1 dX12_reckon_86 rfl (q := 87) rfl ?_
                  refine j_imul X dX12_reckon_87 (q := 88) rfl ?_
                  refine j_eqi (pk_mul _ _) ?_
                  refine j_bipush (v := nI 8) X dX12_reckon_88 (by decide) (q := 90) rfl ?_
                  refine j_iload_n X 2 dX12_reckon_90 rfl (q := 91) rfl ?_
                  refine j_iconst (v := nI 1) X dX12_reckon_91 (by decide) (q := 92) rfl ?_
                  refine j_isub X dX12_reckon_92 (q := 93) rfl ?_
                  refine j_eqi (pk_sub (by omega)) ?_
                  refine j_iload_n X 3 dX12_reckon_93 rfl (q := 94) rfl ?_
                  refine j_isub X dX12_reckon_94 (q := 95) rfl ?_
                  refine j_eqi (pk_sub (by omega)) ?_
                  refine j_imul X dX12_reckon_95 (q := 96) rfl ?_
                  refine j_eqi (pk_mul _ _) ?_
                  refine j_ishr X dX12_reckon_96 (q := 97) rfl ?_
                  refine j_eqi (show _ = sr32 (nI (8 * v_rowSize)) (8 * ((n3 - 1) - (v_rowSize + k52_4))) from rfl) ?_
                  refine j_lv (lv' := [(0, .ref a_this), (1, .int (nI v_rowSize)), (2, .int (nI n3)), (3, .int (nI (v_rowSize + k52_4)))]) [0, 1, 2, 3] rfl ?_
                  exact KJ64_23 (sr32 (nI (8 * v_rowSize)) (8 * ((n3 - 1) - (v_rowSize + k52_4)))) (by first | rfl | (simp only [X12_reckon_m64, if_neg c24, if_pos c25]; done) | (simp only [X12_reckon_m64, if_neg c24, if_pos c25]; rfl))
                · skip
                  have c25 : ¬ n3 - 4 ≤ v_rowSize + k52_4 := fun h => c25 ((nI_leI (a := n3 - 4) (b := v_rowSize + k52_4) (by omega) (by omega)).mpr h)
                  refine j_iconst (v := nI 0) X dX12_reckon_80 (by decide) (q := 81) rfl ?_
                  refine j_goto (tgt := 97) X dX12_reckon_81 (by decide) ?_
                  refine j_lv (lv' := [(0, .ref a_this), (1, .int (nI v_rowSize)), (2, .int (nI n3)), (3, .int (nI (v_rowSize + k52_4)))]) [0, 1, 2, 3] rfl ?_
                  exact KJ64_23 (nI 0) (by first | rfl | (simp only [X12_reckon_m64, if_neg c24, if_neg c25]; done) | (simp only [X12_reckon_m64, if_neg c24, if_neg c25]; rfl))
              · skip
                have c24 : v_rowSize + k52_4 = v_rowSize := (nI_eq (a := v_rowSize + k52_4) (b := v_rowSize) (by omega) (by omega)).mp c24
                refine j_sipush (v := nI 128) X dX12_reckon_67 (by decide) (q := 70) rfl ?_
                refine j_goto (tgt := 97) X dX12_reckon_70 (by decide) ?_
                refine j_lv (lv' := [(0, .ref a_this), (1, .int (nI v_rowSize)), (2, .int (nI n3)), (3, .int (nI (v_rowSize + k52_4)))]) [0, 1, 2, 3] rfl ?_
                exact KJ64_23 (nI 128) (by first | rfl | (simp only [X12_reckon_m64, if_pos c24]; done) | (simp only [X12_reckon_m64, if_pos c24]; rfl))
        exact LP52_4 (n3 - v_rowSize) 0 f_row (by omega) (itr_0 _ _).symm 
      · skip
        have c2 : ¬ 8 ≤ 8 := fun h => c2 ((nI_leI (a := 8) (b := 8) (by omega) (by omega)).mpr h)
        exfalso; omega
    | succ r12_1 ih12_1 =>
      intro k12_1 t12_1 hk_t12_1 e_t12_1 
      refine j_iload_n X 2 dX12_reckon_12 rfl (q := 13) rfl ?_
      refine j_bipush (v := nI 8) X dX12_reckon_13 (by decide) (q := 15) rfl ?_
      refine j_icmp_ge (tgt := 36) X dX12_reckon_15 (by decide) (q := 18) rfl (fun c26 => ?_) (fun c26 => ?_)
      · skip
        have c26 : 8 ≤ k12_1 := (nI_leI (a := 8) (b := k12_1) (by omega) (by omega)).mp c26
        exfalso; omega
      · skip
        have c26 : ¬ 8 ≤ k12_1 := fun h => c26 ((nI_leI (a := 8) (b := k12_1) (by omega) (by omega)).mpr h)
        refine j_aload_n X 0 dX12_reckon_18 rfl (q := 19) rfl ?_
        refine j_get (f := 50) X 0 inT12 rfl rfl (by decide) mw_X12_reckon_2 rfl dX12_reckon_19 (q := 22) rfl ?_
        refine j_iload_n X 2 dX12_reckon_22 rfl (q := 23) rfl ?_
        refine j_aload_n X 0 dX12_reckon_23 rfl (q := 24) rfl ?_
        refine j_get (f := 54) X 0 inT12 rfl rfl (by decide) mw_X12_reckon_5 rfl dX12_reckon_24 (q := 27) rfl ?_
        refine j_iload_n X 2 dX12_reckon_27 rfl (q := 28) rfl ?_
        refine k_iald X 7 rfl (vp_in_nI (by omega) (by omega)) (nI_clamp (by omega)) dX12_reckon_28 (q := 29) rfl ?_
        refine j_topi (fun y27 e_y27 => ?_)
        refine k_iast (ws2 := [(a_this, .inr (12, mfs ad v_thrown v_connections (nI v_size) (nI v_ids) (nI v_dataAll) (nI v_putCount) (nI v_waiting) (nI v_readSize) v_power v_left v_since v_changes (nI 0))), (ad 50, .inl (ct 0, 8, .inl (upd t12_1 k12_1 y27))), (ad 49, .inl (ct 0, 8, .inl f_digest)), (ad 52, .inl (ct 0, 8, .inl f_begun)), (ad 53, .inl (ct 0, 64, .inl f_roots)), (ad 51, .inl (ct 0, 64, .inl f_w)), (ad 47, .inl (ct 1, 800, .inl f_row)), (ad 54, .inl (ct 0, 8, .inl f_begins))]) X 1 rfl (vp_in_nI (by omega) (by omega)) (nI_clamp (by omega)) dX12_reckon_29 rfl (q := 30) rfl ?_
        refine j_iinc (v := nI (k12_1 + 1)) (lv' := [(2, .int (nI (k12_1 + 1))), (0, .ref a_this), (1, .int (nI v_rowSize))]) X 2 dX12_reckon_30 rfl (nI_inc _ 1) (by decide) rfl (q := 33) rfl ?_
        refine j_goto (tgt := 12) X dX12_reckon_33 (by decide) ?_
        refine j_lv (lv' := [(0, .ref a_this), (1, .int (nI v_rowSize)), (2, .int (nI (k12_1 + 1)))]) [1, 2, 0] rfl ?_
        have hb : (X12_reckon_l12 f_begins) k12_1 t12_1 = upd t12_1 k12_1 y27 := (by subst e_y27; rfl)
        exact ih12_1 (k12_1 + 1) (upd t12_1 k12_1 y27) (by omega) (by rw [itr_s, ← e_t12_1]; exact hb.symm) 
  exact LP12_1 8 0 f_state8 (by omega) (itr_0 _ _).symm 
theorem cal_X12_reckon : Cal yX12_reckon cX12_reckon 6 none 0 := ⟨tb_at 120 (by decide +kernel) (by decide +kernel), tb_at 1501 (by decide +kernel) (by decide +kernel), by decide +kernel, by decide +kernel, by decide +kernel⟩
theorem cwi_X12_reckon : Cond.instanceMethod yX12_reckon ∈ tb := tb_at 1500 (by decide +kernel) (by decide +kernel)
theorem cws_X12_reckon : Cond.selects yX12_reckon.cls yX12_reckon yX12_reckon ∈ tb := tb_at 53 (by decide +kernel) (by decide +kernel)
