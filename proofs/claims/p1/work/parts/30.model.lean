def mfs (ad : Nat → Nat) (i0 i1 i16 i17 i22 i23 i25 i38 i39 i40 i41 i42 i48 : Int32) : List Value := [.int i0, .int i1, .ref (ad 2), .ref (ad 3), .ref (ad 4), .ref (ad 5), .ref (ad 6), .ref (ad 7), .ref (ad 8), .ref (ad 9), .ref (ad 10), .ref (ad 11), .ref (ad 12), .ref (ad 13), .ref (ad 14), .ref (ad 15), .int i16, .int i17, .ref (ad 18), .ref (ad 19), .ref (ad 20), .ref (ad 21), .int i22, .int i23, .ref (ad 24), .int i25, .ref (ad 26), .ref (ad 27), .ref (ad 28), .ref (ad 29), .ref (ad 30), .ref (ad 31), .ref (ad 32), .ref (ad 33), .ref (ad 34), .ref (ad 35), .ref (ad 36), .ref (ad 37), .int i38, .int i39, .int i40, .int i41, .int i42, .ref (ad 43), .ref (ad 44), .ref (ad 45), .ref (ad 46), .ref (ad 47), .int i48, .ref (ad 49), .ref (ad 50), .ref (ad 51), .ref (ad 52), .ref (ad 53), .ref (ad 54), .ref (ad 55), .ref (ad 56), .ref (ad 57), .ref (ad 58), .ref (ad 59), .ref (ad 60), .ref (ad 61), .ref (ad 62), .ref (ad 63), .ref (ad 64), .ref (ad 65), .ref (ad 66), .ref (ad 67), .ref (ad 68), .ref (ad 69), .ref (ad 70), .ref (ad 71), .ref (ad 72), .ref (ad 73), .ref (ad 74), .ref (ad 75), .ref (ad 76)]
def dns (s r : Nat) : Int32 := nI (s * r) - nI s
theorem dns_s (s r : Nat) : dns s (r + 1) = nI (s * r) := by
  unfold dns
  rw [pk_sub (by rw [Nat.mul_succ]; omega), Nat.mul_succ, Nat.add_sub_cancel]
theorem dns_dec (s r : Nat) : nI (s * r) + Int32.ofInt (-(s : Int)) = dns s r := by
  have e : Int32.ofInt (-(s : Int)) = - nI s := by rw [Int32.ofInt_neg]; rfl
  rw [e, ← Int32.sub_eq_add_neg]; rfl
theorem dX12_turn_0 : decode cX12_turn 0 = .ok (.iload_n 0, 1) := by decide +kernel
theorem dX12_turn_1 : decode cX12_turn 1 = .ok (.iload_n 1, 1) := by decide +kernel
theorem dX12_turn_2 : decode cX12_turn 2 = .ok (.iushr, 1) := by decide +kernel
theorem dX12_turn_3 : decode cX12_turn 3 = .ok (.iload_n 0, 1) := by decide +kernel
theorem dX12_turn_4 : decode cX12_turn 4 = .ok (.bipush 32, 2) := by decide +kernel
theorem dX12_turn_6 : decode cX12_turn 6 = .ok (.iload_n 1, 1) := by decide +kernel
theorem dX12_turn_7 : decode cX12_turn 7 = .ok (.isub, 1) := by decide +kernel
theorem dX12_turn_8 : decode cX12_turn 8 = .ok (.ishl, 1) := by decide +kernel
theorem dX12_turn_9 : decode cX12_turn 9 = .ok (.ior, 1) := by decide +kernel
theorem dX12_turn_10 : decode cX12_turn 10 = .ok (.ireturn, 1) := by decide +kernel
noncomputable def f_X12_turn (x1 : Int32) (x2 : Nat) : Int32 :=
  (ur32 x1 x2) ||| (sh32 x1 (32 - x2))
set_option maxHeartbeats 4000000 in
set_option maxRecDepth 100000 in
theorem c_X12_turn (l : Launch) (D : va_G) (ct : Nat → ClassId) (ts : Nat → Nat) (x1 : Int32) (x2 : Nat)  (h_n : x2 ≤ 32)  (sz : Nat) : Met l yX12_turn (Cond.code yX12_turn cX12_turn 2 (some .int) :: tb) { frames := 0, cells := 0, slots := 0, locals := 0 } (PcG D ct SXL ts [.int x1, .int (nI x2)] [] sz) (va_Qi (fun (r : Int32) (u : Unit) => r = f_X12_turn x1 x2) (fun u => BG D ct (va_A [] sz) []) (va_A [] sz)) 0 0 (va_A [] sz) := by
  refine metJ (QcF := fun A => va_Qi (fun (r : Int32) (u : Unit) => r = f_X12_turn x1 x2) (fun u => BG D ct A []) A) (by decide) (Nat.le_of_ble_eq_true rfl) ?_
  intro p e s m below meth c A X hnm
  obtain ⟨Q, hQ⟩ : ∃ Q, Q = MQ below (va_Qi (fun (r : Int32) (u : Unit) => r = f_X12_turn x1 x2) (fun u => BG D ct A []) A) [.int x1, .int (nI x2)].toArray s 0 0 A := ⟨_, rfl⟩
  rw [← hQ]
  refine j_lve (lv' := [(0, .int x1), (1, .int (nI x2))]) rfl ?_
  refine j_iload_n X 0 dX12_turn_0 rfl (q := 1) rfl ?_
  refine j_iload_n X 1 dX12_turn_1 rfl (q := 2) rfl ?_
  refine j_iushr X dX12_turn_2 (q := 3) rfl ?_
  refine j_eqi (show _ = ur32 x1 x2 from rfl) ?_
  refine j_iload_n X 0 dX12_turn_3 rfl (q := 4) rfl ?_
  refine j_bipush (v := nI 32) X dX12_turn_4 (by decide) (q := 6) rfl ?_
  refine j_iload_n X 1 dX12_turn_6 rfl (q := 7) rfl ?_
  refine j_isub X dX12_turn_7 (q := 8) rfl ?_
  refine j_eqi (pk_sub (by omega)) ?_
  refine j_ishl X dX12_turn_8 (q := 9) rfl ?_
  refine j_eqi (show _ = sh32 x1 (32 - x2) from rfl) ?_
  refine j_ior X dX12_turn_9 (q := 10) rfl ?_
  rw [hQ]
  exact j_iret X (()) dX12_turn_10 rfl rfl
theorem cal_X12_turn : Cal yX12_turn cX12_turn 2 (some .int) 2 := ⟨tb_at 120 (by decide +kernel) (by decide +kernel), tb_at 1508 (by decide +kernel) (by decide +kernel), by decide +kernel, by decide +kernel, by decide +kernel⟩
theorem cwt_X12_turn : Cond.static yX12_turn ∈ tb := tb_at 1507 (by decide +kernel) (by decide +kernel)
theorem mw_X12_mix_0 : Cond.fieldLink "GuardedTreeModel" 133 "GuardedTreeModel" "state8" "[I" ∈ tb := tb_at 1287 (by decide +kernel) (by decide +kernel)
theorem mw_X12_mix_1 : Cond.fieldLink "GuardedTreeModel" 139 "GuardedTreeModel" "begun" "[I" ∈ tb := tb_at 1289 (by decide +kernel) (by decide +kernel)
theorem mw_X12_mix_2 : Cond.fieldLink "GuardedTreeModel" 206 "GuardedTreeModel" "roots" "[I" ∈ tb := tb_at 1290 (by decide +kernel) (by decide +kernel)
theorem mw_X12_mix_3 : Cond.fieldLink "GuardedTreeModel" 136 "GuardedTreeModel" "w" "[I" ∈ tb := tb_at 1288 (by decide +kernel) (by decide +kernel)
theorem mw_X12_mix_4 : Cond.methodLink "GuardedTreeModel" 316 yX12_turn ∈ tb := tb_at 1506 (by decide +kernel) (by decide +kernel)
theorem dX12_mix_0 : decode cX12_mix 0 = .ok (.iconst 0, 1) := by decide +kernel
theorem dX12_mix_1 : decode cX12_mix 1 = .ok (.istore_n 1, 1) := by decide +kernel
theorem dX12_mix_2 : decode cX12_mix 2 = .ok (.iload_n 1, 1) := by decide +kernel
theorem dX12_mix_3 : decode cX12_mix 3 = .ok (.bipush 8, 2) := by decide +kernel
theorem dX12_mix_5 : decode cX12_mix 5 = .ok (.if_icmp .ge 21, 3) := by decide +kernel
theorem dX12_mix_8 : decode cX12_mix 8 = .ok (.aload_n 0, 1) := by decide +kernel
theorem dX12_mix_9 : decode cX12_mix 9 = .ok (.getfield 139, 3) := by decide +kernel
theorem dX12_mix_12 : decode cX12_mix 12 = .ok (.iload_n 1, 1) := by decide +kernel
theorem dX12_mix_13 : decode cX12_mix 13 = .ok (.aload_n 0, 1) := by decide +kernel
theorem dX12_mix_14 : decode cX12_mix 14 = .ok (.getfield 133, 3) := by decide +kernel
theorem dX12_mix_17 : decode cX12_mix 17 = .ok (.iload_n 1, 1) := by decide +kernel
theorem dX12_mix_18 : decode cX12_mix 18 = .ok (.iaload, 1) := by decide +kernel
theorem dX12_mix_19 : decode cX12_mix 19 = .ok (.iastore, 1) := by decide +kernel
theorem dX12_mix_20 : decode cX12_mix 20 = .ok (.iinc 1 1, 3) := by decide +kernel
theorem dX12_mix_23 : decode cX12_mix 23 = .ok (.goto (-21), 3) := by decide +kernel
theorem dX12_mix_26 : decode cX12_mix 26 = .ok (.bipush 16, 2) := by decide +kernel
theorem dX12_mix_28 : decode cX12_mix 28 = .ok (.istore_n 1, 1) := by decide +kernel
theorem dX12_mix_29 : decode cX12_mix 29 = .ok (.iload_n 1, 1) := by decide +kernel
theorem dX12_mix_30 : decode cX12_mix 30 = .ok (.bipush 64, 2) := by decide +kernel
theorem dX12_mix_32 : decode cX12_mix 32 = .ok (.if_icmp .ge 90, 3) := by decide +kernel
theorem dX12_mix_35 : decode cX12_mix 35 = .ok (.aload_n 0, 1) := by decide +kernel
theorem dX12_mix_36 : decode cX12_mix 36 = .ok (.getfield 136, 3) := by decide +kernel
theorem dX12_mix_39 : decode cX12_mix 39 = .ok (.iload_n 1, 1) := by decide +kernel
theorem dX12_mix_40 : decode cX12_mix 40 = .ok (.bipush 15, 2) := by decide +kernel
theorem dX12_mix_42 : decode cX12_mix 42 = .ok (.isub, 1) := by decide +kernel
theorem dX12_mix_43 : decode cX12_mix 43 = .ok (.iaload, 1) := by decide +kernel
theorem dX12_mix_44 : decode cX12_mix 44 = .ok (.istore_n 2, 1) := by decide +kernel
theorem dX12_mix_45 : decode cX12_mix 45 = .ok (.aload_n 0, 1) := by decide +kernel
theorem dX12_mix_46 : decode cX12_mix 46 = .ok (.getfield 136, 3) := by decide +kernel
theorem dX12_mix_49 : decode cX12_mix 49 = .ok (.iload_n 1, 1) := by decide +kernel
theorem dX12_mix_50 : decode cX12_mix 50 = .ok (.iconst 2, 1) := by decide +kernel
theorem dX12_mix_51 : decode cX12_mix 51 = .ok (.isub, 1) := by decide +kernel
theorem dX12_mix_52 : decode cX12_mix 52 = .ok (.iaload, 1) := by decide +kernel
theorem dX12_mix_53 : decode cX12_mix 53 = .ok (.istore_n 3, 1) := by decide +kernel
theorem dX12_mix_54 : decode cX12_mix 54 = .ok (.aload_n 0, 1) := by decide +kernel
theorem dX12_mix_55 : decode cX12_mix 55 = .ok (.getfield 136, 3) := by decide +kernel
theorem dX12_mix_58 : decode cX12_mix 58 = .ok (.iload_n 1, 1) := by decide +kernel
theorem dX12_mix_59 : decode cX12_mix 59 = .ok (.aload_n 0, 1) := by decide +kernel
theorem dX12_mix_60 : decode cX12_mix 60 = .ok (.getfield 136, 3) := by decide +kernel
theorem dX12_mix_63 : decode cX12_mix 63 = .ok (.iload_n 1, 1) := by decide +kernel
theorem dX12_mix_64 : decode cX12_mix 64 = .ok (.bipush 16, 2) := by decide +kernel
theorem dX12_mix_66 : decode cX12_mix 66 = .ok (.isub, 1) := by decide +kernel
theorem dX12_mix_67 : decode cX12_mix 67 = .ok (.iaload, 1) := by decide +kernel
theorem dX12_mix_68 : decode cX12_mix 68 = .ok (.iload_n 2, 1) := by decide +kernel
theorem dX12_mix_69 : decode cX12_mix 69 = .ok (.bipush 7, 2) := by decide +kernel
theorem dX12_mix_71 : decode cX12_mix 71 = .ok (.invokestatic 316, 3) := by decide +kernel
theorem dX12_mix_74 : decode cX12_mix 74 = .ok (.iload_n 2, 1) := by decide +kernel
theorem dX12_mix_75 : decode cX12_mix 75 = .ok (.bipush 18, 2) := by decide +kernel
theorem dX12_mix_77 : decode cX12_mix 77 = .ok (.invokestatic 316, 3) := by decide +kernel
theorem dX12_mix_80 : decode cX12_mix 80 = .ok (.ixor, 1) := by decide +kernel
theorem dX12_mix_81 : decode cX12_mix 81 = .ok (.iload_n 2, 1) := by decide +kernel
theorem dX12_mix_82 : decode cX12_mix 82 = .ok (.iconst 3, 1) := by decide +kernel
theorem dX12_mix_83 : decode cX12_mix 83 = .ok (.iushr, 1) := by decide +kernel
theorem dX12_mix_84 : decode cX12_mix 84 = .ok (.ixor, 1) := by decide +kernel
theorem dX12_mix_85 : decode cX12_mix 85 = .ok (.iadd, 1) := by decide +kernel
theorem dX12_mix_86 : decode cX12_mix 86 = .ok (.aload_n 0, 1) := by decide +kernel
theorem dX12_mix_87 : decode cX12_mix 87 = .ok (.getfield 136, 3) := by decide +kernel
theorem dX12_mix_90 : decode cX12_mix 90 = .ok (.iload_n 1, 1) := by decide +kernel
theorem dX12_mix_91 : decode cX12_mix 91 = .ok (.bipush 7, 2) := by decide +kernel
theorem dX12_mix_93 : decode cX12_mix 93 = .ok (.isub, 1) := by decide +kernel
theorem dX12_mix_94 : decode cX12_mix 94 = .ok (.iaload, 1) := by decide +kernel
theorem dX12_mix_95 : decode cX12_mix 95 = .ok (.iadd, 1) := by decide +kernel
theorem dX12_mix_96 : decode cX12_mix 96 = .ok (.iload_n 3, 1) := by decide +kernel
theorem dX12_mix_97 : decode cX12_mix 97 = .ok (.bipush 17, 2) := by decide +kernel
theorem dX12_mix_99 : decode cX12_mix 99 = .ok (.invokestatic 316, 3) := by decide +kernel
theorem dX12_mix_102 : decode cX12_mix 102 = .ok (.iload_n 3, 1) := by decide +kernel
theorem dX12_mix_103 : decode cX12_mix 103 = .ok (.bipush 19, 2) := by decide +kernel
theorem dX12_mix_105 : decode cX12_mix 105 = .ok (.invokestatic 316, 3) := by decide +kernel
theorem dX12_mix_108 : decode cX12_mix 108 = .ok (.ixor, 1) := by decide +kernel
theorem dX12_mix_109 : decode cX12_mix 109 = .ok (.iload_n 3, 1) := by decide +kernel
theorem dX12_mix_110 : decode cX12_mix 110 = .ok (.bipush 10, 2) := by decide +kernel
theorem dX12_mix_112 : decode cX12_mix 112 = .ok (.iushr, 1) := by decide +kernel
theorem dX12_mix_113 : decode cX12_mix 113 = .ok (.ixor, 1) := by decide +kernel
theorem dX12_mix_114 : decode cX12_mix 114 = .ok (.iadd, 1) := by decide +kernel
theorem dX12_mix_115 : decode cX12_mix 115 = .ok (.iastore, 1) := by decide +kernel
theorem dX12_mix_116 : decode cX12_mix 116 = .ok (.iinc 1 1, 3) := by decide +kernel
theorem dX12_mix_119 : decode cX12_mix 119 = .ok (.goto (-90), 3) := by decide +kernel
theorem dX12_mix_122 : decode cX12_mix 122 = .ok (.iconst 0, 1) := by decide +kernel
theorem dX12_mix_123 : decode cX12_mix 123 = .ok (.istore_n 1, 1) := by decide +kernel
theorem dX12_mix_124 : decode cX12_mix 124 = .ok (.iload_n 1, 1) := by decide +kernel
theorem dX12_mix_125 : decode cX12_mix 125 = .ok (.bipush 64, 2) := by decide +kernel
theorem dX12_mix_127 : decode cX12_mix 127 = .ok (.if_icmp .ge 198, 3) := by decide +kernel
theorem dX12_mix_130 : decode cX12_mix 130 = .ok (.aload_n 0, 1) := by decide +kernel
theorem dX12_mix_131 : decode cX12_mix 131 = .ok (.getfield 133, 3) := by decide +kernel
theorem dX12_mix_134 : decode cX12_mix 134 = .ok (.iconst 4, 1) := by decide +kernel
theorem dX12_mix_135 : decode cX12_mix 135 = .ok (.iaload, 1) := by decide +kernel
theorem dX12_mix_136 : decode cX12_mix 136 = .ok (.istore_n 2, 1) := by decide +kernel
theorem dX12_mix_137 : decode cX12_mix 137 = .ok (.aload_n 0, 1) := by decide +kernel
theorem dX12_mix_138 : decode cX12_mix 138 = .ok (.getfield 133, 3) := by decide +kernel
theorem dX12_mix_141 : decode cX12_mix 141 = .ok (.iconst 0, 1) := by decide +kernel
theorem dX12_mix_142 : decode cX12_mix 142 = .ok (.iaload, 1) := by decide +kernel
theorem dX12_mix_143 : decode cX12_mix 143 = .ok (.istore_n 3, 1) := by decide +kernel
theorem dX12_mix_144 : decode cX12_mix 144 = .ok (.aload_n 0, 1) := by decide +kernel
theorem dX12_mix_145 : decode cX12_mix 145 = .ok (.getfield 133, 3) := by decide +kernel
theorem dX12_mix_148 : decode cX12_mix 148 = .ok (.bipush 7, 2) := by decide +kernel
theorem dX12_mix_150 : decode cX12_mix 150 = .ok (.iaload, 1) := by decide +kernel
theorem dX12_mix_151 : decode cX12_mix 151 = .ok (.iload_n 2, 1) := by decide +kernel
theorem dX12_mix_152 : decode cX12_mix 152 = .ok (.bipush 6, 2) := by decide +kernel
theorem dX12_mix_154 : decode cX12_mix 154 = .ok (.invokestatic 316, 3) := by decide +kernel
theorem dX12_mix_157 : decode cX12_mix 157 = .ok (.iload_n 2, 1) := by decide +kernel
theorem dX12_mix_158 : decode cX12_mix 158 = .ok (.bipush 11, 2) := by decide +kernel
theorem dX12_mix_160 : decode cX12_mix 160 = .ok (.invokestatic 316, 3) := by decide +kernel
theorem dX12_mix_163 : decode cX12_mix 163 = .ok (.ixor, 1) := by decide +kernel
theorem dX12_mix_164 : decode cX12_mix 164 = .ok (.iload_n 2, 1) := by decide +kernel
theorem dX12_mix_165 : decode cX12_mix 165 = .ok (.bipush 25, 2) := by decide +kernel
theorem dX12_mix_167 : decode cX12_mix 167 = .ok (.invokestatic 316, 3) := by decide +kernel
theorem dX12_mix_170 : decode cX12_mix 170 = .ok (.ixor, 1) := by decide +kernel
theorem dX12_mix_171 : decode cX12_mix 171 = .ok (.iadd, 1) := by decide +kernel
theorem dX12_mix_172 : decode cX12_mix 172 = .ok (.iload_n 2, 1) := by decide +kernel
theorem dX12_mix_173 : decode cX12_mix 173 = .ok (.aload_n 0, 1) := by decide +kernel
theorem dX12_mix_174 : decode cX12_mix 174 = .ok (.getfield 133, 3) := by decide +kernel
theorem dX12_mix_177 : decode cX12_mix 177 = .ok (.iconst 5, 1) := by decide +kernel
theorem dX12_mix_178 : decode cX12_mix 178 = .ok (.iaload, 1) := by decide +kernel
theorem dX12_mix_179 : decode cX12_mix 179 = .ok (.iand, 1) := by decide +kernel
theorem dX12_mix_180 : decode cX12_mix 180 = .ok (.iload_n 2, 1) := by decide +kernel
theorem dX12_mix_181 : decode cX12_mix 181 = .ok (.iconst (-1), 1) := by decide +kernel
theorem dX12_mix_182 : decode cX12_mix 182 = .ok (.ixor, 1) := by decide +kernel
theorem dX12_mix_183 : decode cX12_mix 183 = .ok (.aload_n 0, 1) := by decide +kernel
theorem dX12_mix_184 : decode cX12_mix 184 = .ok (.getfield 133, 3) := by decide +kernel
theorem dX12_mix_187 : decode cX12_mix 187 = .ok (.bipush 6, 2) := by decide +kernel
theorem dX12_mix_189 : decode cX12_mix 189 = .ok (.iaload, 1) := by decide +kernel
theorem dX12_mix_190 : decode cX12_mix 190 = .ok (.iand, 1) := by decide +kernel
theorem dX12_mix_191 : decode cX12_mix 191 = .ok (.ixor, 1) := by decide +kernel
theorem dX12_mix_192 : decode cX12_mix 192 = .ok (.iadd, 1) := by decide +kernel
theorem dX12_mix_193 : decode cX12_mix 193 = .ok (.aload_n 0, 1) := by decide +kernel
theorem dX12_mix_194 : decode cX12_mix 194 = .ok (.getfield 206, 3) := by decide +kernel
theorem dX12_mix_197 : decode cX12_mix 197 = .ok (.iload_n 1, 1) := by decide +kernel
theorem dX12_mix_198 : decode cX12_mix 198 = .ok (.iaload, 1) := by decide +kernel
theorem dX12_mix_199 : decode cX12_mix 199 = .ok (.iadd, 1) := by decide +kernel
theorem dX12_mix_200 : decode cX12_mix 200 = .ok (.aload_n 0, 1) := by decide +kernel
theorem dX12_mix_201 : decode cX12_mix 201 = .ok (.getfield 136, 3) := by decide +kernel
theorem dX12_mix_204 : decode cX12_mix 204 = .ok (.iload_n 1, 1) := by decide +kernel
theorem dX12_mix_205 : decode cX12_mix 205 = .ok (.iaload, 1) := by decide +kernel
theorem dX12_mix_206 : decode cX12_mix 206 = .ok (.iadd, 1) := by decide +kernel
theorem dX12_mix_207 : decode cX12_mix 207 = .ok (.istore 4, 2) := by decide +kernel
theorem dX12_mix_209 : decode cX12_mix 209 = .ok (.iload_n 3, 1) := by decide +kernel
theorem dX12_mix_210 : decode cX12_mix 210 = .ok (.iconst 2, 1) := by decide +kernel
theorem dX12_mix_211 : decode cX12_mix 211 = .ok (.invokestatic 316, 3) := by decide +kernel
theorem dX12_mix_214 : decode cX12_mix 214 = .ok (.iload_n 3, 1) := by decide +kernel
theorem dX12_mix_215 : decode cX12_mix 215 = .ok (.bipush 13, 2) := by decide +kernel
theorem dX12_mix_217 : decode cX12_mix 217 = .ok (.invokestatic 316, 3) := by decide +kernel
theorem dX12_mix_220 : decode cX12_mix 220 = .ok (.ixor, 1) := by decide +kernel
theorem dX12_mix_221 : decode cX12_mix 221 = .ok (.iload_n 3, 1) := by decide +kernel
theorem dX12_mix_222 : decode cX12_mix 222 = .ok (.bipush 22, 2) := by decide +kernel
theorem dX12_mix_224 : decode cX12_mix 224 = .ok (.invokestatic 316, 3) := by decide +kernel
theorem dX12_mix_227 : decode cX12_mix 227 = .ok (.ixor, 1) := by decide +kernel
theorem dX12_mix_228 : decode cX12_mix 228 = .ok (.iload_n 3, 1) := by decide +kernel
theorem dX12_mix_229 : decode cX12_mix 229 = .ok (.aload_n 0, 1) := by decide +kernel
theorem dX12_mix_230 : decode cX12_mix 230 = .ok (.getfield 133, 3) := by decide +kernel
theorem dX12_mix_233 : decode cX12_mix 233 = .ok (.iconst 1, 1) := by decide +kernel
theorem dX12_mix_234 : decode cX12_mix 234 = .ok (.iaload, 1) := by decide +kernel
theorem dX12_mix_235 : decode cX12_mix 235 = .ok (.iand, 1) := by decide +kernel
theorem dX12_mix_236 : decode cX12_mix 236 = .ok (.iload_n 3, 1) := by decide +kernel
theorem dX12_mix_237 : decode cX12_mix 237 = .ok (.aload_n 0, 1) := by decide +kernel
theorem dX12_mix_238 : decode cX12_mix 238 = .ok (.getfield 133, 3) := by decide +kernel
theorem dX12_mix_241 : decode cX12_mix 241 = .ok (.iconst 2, 1) := by decide +kernel
theorem dX12_mix_242 : decode cX12_mix 242 = .ok (.iaload, 1) := by decide +kernel
theorem dX12_mix_243 : decode cX12_mix 243 = .ok (.iand, 1) := by decide +kernel
theorem dX12_mix_244 : decode cX12_mix 244 = .ok (.ixor, 1) := by decide +kernel
theorem dX12_mix_245 : decode cX12_mix 245 = .ok (.aload_n 0, 1) := by decide +kernel
theorem dX12_mix_246 : decode cX12_mix 246 = .ok (.getfield 133, 3) := by decide +kernel
theorem dX12_mix_249 : decode cX12_mix 249 = .ok (.iconst 1, 1) := by decide +kernel
theorem dX12_mix_250 : decode cX12_mix 250 = .ok (.iaload, 1) := by decide +kernel
theorem dX12_mix_251 : decode cX12_mix 251 = .ok (.aload_n 0, 1) := by decide +kernel
theorem dX12_mix_252 : decode cX12_mix 252 = .ok (.getfield 133, 3) := by decide +kernel
theorem dX12_mix_255 : decode cX12_mix 255 = .ok (.iconst 2, 1) := by decide +kernel
theorem dX12_mix_256 : decode cX12_mix 256 = .ok (.iaload, 1) := by decide +kernel
theorem dX12_mix_257 : decode cX12_mix 257 = .ok (.iand, 1) := by decide +kernel
theorem dX12_mix_258 : decode cX12_mix 258 = .ok (.ixor, 1) := by decide +kernel
theorem dX12_mix_259 : decode cX12_mix 259 = .ok (.iadd, 1) := by decide +kernel
theorem dX12_mix_260 : decode cX12_mix 260 = .ok (.istore 5, 2) := by decide +kernel
theorem dX12_mix_262 : decode cX12_mix 262 = .ok (.bipush 7, 2) := by decide +kernel
theorem dX12_mix_264 : decode cX12_mix 264 = .ok (.istore 6, 2) := by decide +kernel
theorem dX12_mix_266 : decode cX12_mix 266 = .ok (.iload 6, 2) := by decide +kernel
theorem dX12_mix_268 : decode cX12_mix 268 = .ok (.ifCond .le 25, 3) := by decide +kernel
theorem dX12_mix_271 : decode cX12_mix 271 = .ok (.aload_n 0, 1) := by decide +kernel
theorem dX12_mix_272 : decode cX12_mix 272 = .ok (.getfield 133, 3) := by decide +kernel
theorem dX12_mix_275 : decode cX12_mix 275 = .ok (.iload 6, 2) := by decide +kernel
theorem dX12_mix_277 : decode cX12_mix 277 = .ok (.aload_n 0, 1) := by decide +kernel
theorem dX12_mix_278 : decode cX12_mix 278 = .ok (.getfield 133, 3) := by decide +kernel
theorem dX12_mix_281 : decode cX12_mix 281 = .ok (.iload 6, 2) := by decide +kernel
theorem dX12_mix_283 : decode cX12_mix 283 = .ok (.iconst 1, 1) := by decide +kernel
theorem dX12_mix_284 : decode cX12_mix 284 = .ok (.isub, 1) := by decide +kernel
theorem dX12_mix_285 : decode cX12_mix 285 = .ok (.iaload, 1) := by decide +kernel
theorem dX12_mix_286 : decode cX12_mix 286 = .ok (.iastore, 1) := by decide +kernel
theorem dX12_mix_287 : decode cX12_mix 287 = .ok (.iinc 6 (-1), 3) := by decide +kernel
theorem dX12_mix_290 : decode cX12_mix 290 = .ok (.goto (-24), 3) := by decide +kernel
theorem dX12_mix_293 : decode cX12_mix 293 = .ok (.aload_n 0, 1) := by decide +kernel
theorem dX12_mix_294 : decode cX12_mix 294 = .ok (.getfield 133, 3) := by decide +kernel
theorem dX12_mix_297 : decode cX12_mix 297 = .ok (.iconst 4, 1) := by decide +kernel
theorem dX12_mix_298 : decode cX12_mix 298 = .ok (.aload_n 0, 1) := by decide +kernel
theorem dX12_mix_299 : decode cX12_mix 299 = .ok (.getfield 133, 3) := by decide +kernel
theorem dX12_mix_302 : decode cX12_mix 302 = .ok (.iconst 4, 1) := by decide +kernel
theorem dX12_mix_303 : decode cX12_mix 303 = .ok (.iaload, 1) := by decide +kernel
theorem dX12_mix_304 : decode cX12_mix 304 = .ok (.iload 4, 2) := by decide +kernel
theorem dX12_mix_306 : decode cX12_mix 306 = .ok (.iadd, 1) := by decide +kernel
theorem dX12_mix_307 : decode cX12_mix 307 = .ok (.iastore, 1) := by decide +kernel
theorem dX12_mix_308 : decode cX12_mix 308 = .ok (.aload_n 0, 1) := by decide +kernel
theorem dX12_mix_309 : decode cX12_mix 309 = .ok (.getfield 133, 3) := by decide +kernel
theorem dX12_mix_312 : decode cX12_mix 312 = .ok (.iconst 0, 1) := by decide +kernel
theorem dX12_mix_313 : decode cX12_mix 313 = .ok (.iload 4, 2) := by decide +kernel
theorem dX12_mix_315 : decode cX12_mix 315 = .ok (.iload 5, 2) := by decide +kernel
theorem dX12_mix_317 : decode cX12_mix 317 = .ok (.iadd, 1) := by decide +kernel
theorem dX12_mix_318 : decode cX12_mix 318 = .ok (.iastore, 1) := by decide +kernel
theorem dX12_mix_319 : decode cX12_mix 319 = .ok (.iinc 1 1, 3) := by decide +kernel
theorem dX12_mix_322 : decode cX12_mix 322 = .ok (.goto (-198), 3) := by decide +kernel
theorem dX12_mix_325 : decode cX12_mix 325 = .ok (.iconst 0, 1) := by decide +kernel
theorem dX12_mix_326 : decode cX12_mix 326 = .ok (.istore_n 1, 1) := by decide +kernel
theorem dX12_mix_327 : decode cX12_mix 327 = .ok (.iload_n 1, 1) := by decide +kernel
theorem dX12_mix_328 : decode cX12_mix 328 = .ok (.bipush 8, 2) := by decide +kernel
theorem dX12_mix_330 : decode cX12_mix 330 = .ok (.if_icmp .ge 28, 3) := by decide +kernel
theorem dX12_mix_333 : decode cX12_mix 333 = .ok (.aload_n 0, 1) := by decide +kernel
theorem dX12_mix_334 : decode cX12_mix 334 = .ok (.getfield 133, 3) := by decide +kernel
theorem dX12_mix_337 : decode cX12_mix 337 = .ok (.iload_n 1, 1) := by decide +kernel
theorem dX12_mix_338 : decode cX12_mix 338 = .ok (.aload_n 0, 1) := by decide +kernel
theorem dX12_mix_339 : decode cX12_mix 339 = .ok (.getfield 133, 3) := by decide +kernel
theorem dX12_mix_342 : decode cX12_mix 342 = .ok (.iload_n 1, 1) := by decide +kernel
theorem dX12_mix_343 : decode cX12_mix 343 = .ok (.iaload, 1) := by decide +kernel
theorem dX12_mix_344 : decode cX12_mix 344 = .ok (.aload_n 0, 1) := by decide +kernel
theorem dX12_mix_345 : decode cX12_mix 345 = .ok (.getfield 139, 3) := by decide +kernel
theorem dX12_mix_348 : decode cX12_mix 348 = .ok (.iload_n 1, 1) := by decide +kernel
theorem dX12_mix_349 : decode cX12_mix 349 = .ok (.iaload, 1) := by decide +kernel
theorem dX12_mix_350 : decode cX12_mix 350 = .ok (.iadd, 1) := by decide +kernel
theorem dX12_mix_351 : decode cX12_mix 351 = .ok (.iastore, 1) := by decide +kernel
theorem dX12_mix_352 : decode cX12_mix 352 = .ok (.iinc 1 1, 3) := by decide +kernel
theorem dX12_mix_355 : decode cX12_mix 355 = .ok (.goto (-28), 3) := by decide +kernel
theorem dX12_mix_358 : decode cX12_mix 358 = .ok (.return_, 1) := by decide +kernel
noncomputable def X12_mix_l327 (t2_1 : (Nat → Int32)) (k327_7 : Nat) (t327_7 : (Nat → Int32)) : (Nat → Int32) :=
  let y10 := (t327_7 k327_7) + (t2_1 k327_7)
  upd t327_7 k327_7 y10
noncomputable def X12_mix_l266  (r266_34 : Nat) (t266_34 : (Nat → Int32)) : (Nat → Int32) :=
  let y39 := t266_34 ((r266_34 + 1) - 1)
  upd t266_34 (r266_34 + 1) y39
noncomputable def X12_mix_l124 (f_roots : Nat → Int32) (t29_3 : (Nat → Int32)) (k124_5 : Nat) (t124_5 : (Nat → Int32)) : (Nat → Int32) :=
  let y12 := t124_5 4
  let y13 := t124_5 0
  let y23 := ((((t124_5 7) + (((f_X12_turn y12 6) ^^^ (f_X12_turn y12 11)) ^^^ (f_X12_turn y12 25))) + ((y12 &&& (t124_5 5)) ^^^ ((y12 ^^^ ((-1))) &&& (t124_5 6)))) + (f_roots k124_5)) + (t29_3 k124_5)
  let y33 := (((f_X12_turn y13 2) ^^^ (f_X12_turn y13 13)) ^^^ (f_X12_turn y13 22)) + (((y13 &&& (t124_5 1)) ^^^ (y13 &&& (t124_5 2))) ^^^ ((t124_5 1) &&& (t124_5 2)))
  let t266_34 := itd X12_mix_l266 7 t124_5
  let y36 := (t266_34 4) + y23
  let y37 := y23 + y33
  upd (upd t266_34 4 y36) 0 y37
noncomputable def X12_mix_l29  (k29_3 : Nat) (t29_3 : (Nat → Int32)) : (Nat → Int32) :=
  let y41 := t29_3 ((16 + k29_3) - 15)
  let y42 := t29_3 ((16 + k29_3) - 2)
  let y55 := (((t29_3 ((16 + k29_3) - 16)) + (((f_X12_turn y41 7) ^^^ (f_X12_turn y41 18)) ^^^ (ur32 y41 3))) + (t29_3 ((16 + k29_3) - 7))) + (((f_X12_turn y42 17) ^^^ (f_X12_turn y42 19)) ^^^ (ur32 y42 10))
  upd t29_3 (16 + k29_3) y55
noncomputable def X12_mix_l2 (f_state8 : Nat → Int32) (k2_1 : Nat) (t2_1 : (Nat → Int32)) : (Nat → Int32) :=
  let y57 := f_state8 k2_1
  upd t2_1 k2_1 y57
noncomputable def f_X12_mix (f_state8 : Nat → Int32) (f_begun : Nat → Int32) (f_roots : Nat → Int32) (f_w : Nat → Int32) : (Nat → Int32) × (Nat → Int32) × (Nat → Int32) :=
  let t2_1 := itr (X12_mix_l2 f_state8) f_begun 8
  let t29_3 := itr X12_mix_l29 f_w 48
  let t124_5 := itr (X12_mix_l124 f_roots t29_3) f_state8 64
  let t327_7 := itr (X12_mix_l327 t2_1) t124_5 8
  (t2_1, t327_7, t29_3)
set_option maxHeartbeats 4000000 in
set_option maxRecDepth 100000 in
theorem c_X12_mix (l : Launch) (D : va_G) (ct : Nat → ClassId) (ts : Nat → Nat) (a_this : Nat) (ad : Nat → Nat) (v_thrown : Int32) (v_connections : Int32) (v_size : Nat) (v_ids : Nat) (v_dataAll : Nat) (v_putCount : Nat) (v_waiting : Nat) (v_readSize : Nat) (v_power : Int32) (v_left : Int32) (v_since : Int32) (v_changes : Int32) (v_rowSize : Nat) (f_state8 : Nat → Int32) (f_begun : Nat → Int32) (f_roots : Nat → Int32) (f_w : Nat → Int32)    (sz : Nat) : Met l yX12_mix (Cond.code yX12_mix cX12_mix 7 none :: tb) { frames := 1, cells := 0, slots := 0, locals := 21 } (PcG D ct SXL ts [.ref a_this] [(a_this, .inr (12, mfs ad v_thrown v_connections (nI v_size) (nI v_ids) (nI v_dataAll) (nI v_putCount) (nI v_waiting) (nI v_readSize) v_power v_left v_since v_changes (nI v_rowSize))), (ad 50, .inl (ct 0, 8, .inl f_state8)), (ad 52, .inl (ct 0, 8, .inl f_begun)), (ad 53, .inl (ct 0, 64, .inl f_roots)), (ad 51, .inl (ct 0, 64, .inl f_w))] sz) (va_Qv (fun u : (Nat → Int32) × (Nat → Int32) × (Nat → Int32) => u = f_X12_mix f_state8 f_begun f_roots f_w) (fun u => BG D ct (va_A [(a_this, .inr (12, mfs ad v_thrown v_connections (nI v_size) (nI v_ids) (nI v_dataAll) (nI v_putCount) (nI v_waiting) (nI v_readSize) v_power v_left v_since v_changes (nI v_rowSize))), (ad 50, .inl (ct 0, 8, .inl f_state8)), (ad 52, .inl (ct 0, 8, .inl f_begun)), (ad 53, .inl (ct 0, 64, .inl f_roots)), (ad 51, .inl (ct 0, 64, .inl f_w))] sz) [(a_this, .inr (12, mfs ad v_thrown v_connections (nI v_size) (nI v_ids) (nI v_dataAll) (nI v_putCount) (nI v_waiting) (nI v_readSize) v_power v_left v_since v_changes (nI v_rowSize))), (ad 50, .inl (ct 0, 8, .inl u.2.1)), (ad 52, .inl (ct 0, 8, .inl u.1)), (ad 53, .inl (ct 0, 64, .inl f_roots)), (ad 51, .inl (ct 0, 64, .inl u.2.2))]) (va_A [(a_this, .inr (12, mfs ad v_thrown v_connections (nI v_size) (nI v_ids) (nI v_dataAll) (nI v_putCount) (nI v_waiting) (nI v_readSize) v_power v_left v_since v_changes (nI v_rowSize))), (ad 50, .inl (ct 0, 8, .inl f_state8)), (ad 52, .inl (ct 0, 8, .inl f_begun)), (ad 53, .inl (ct 0, 64, .inl f_roots)), (ad 51, .inl (ct 0, 64, .inl f_w))] sz)) 0 0 (va_A [(a_this, .inr (12, mfs ad v_thrown v_connections (nI v_size) (nI v_ids) (nI v_dataAll) (nI v_putCount) (nI v_waiting) (nI v_readSize) v_power v_left v_since v_changes (nI v_rowSize))), (ad 50, .inl (ct 0, 8, .inl f_state8)), (ad 52, .inl (ct 0, 8, .inl f_begun)), (ad 53, .inl (ct 0, 64, .inl f_roots)), (ad 51, .inl (ct 0, 64, .inl f_w))] sz) := by
  refine metJ (QcF := fun A => va_Qv (fun u : (Nat → Int32) × (Nat → Int32) × (Nat → Int32) => u = f_X12_mix f_state8 f_begun f_roots f_w) (fun u => BG D ct A [(a_this, .inr (12, mfs ad v_thrown v_connections (nI v_size) (nI v_ids) (nI v_dataAll) (nI v_putCount) (nI v_waiting) (nI v_readSize) v_power v_left v_since v_changes (nI v_rowSize))), (ad 50, .inl (ct 0, 8, .inl u.2.1)), (ad 52, .inl (ct 0, 8, .inl u.1)), (ad 53, .inl (ct 0, 64, .inl f_roots)), (ad 51, .inl (ct 0, 64, .inl u.2.2))]) A) (by decide) (Nat.le_of_ble_eq_true rfl) ?_
  intro p e s m below meth c A X hnm
  obtain ⟨Q, hQ⟩ : ∃ Q, Q = MQ below (va_Qv (fun u : (Nat → Int32) × (Nat → Int32) × (Nat → Int32) => u = f_X12_mix f_state8 f_begun f_roots f_w) (fun u => BG D ct A [(a_this, .inr (12, mfs ad v_thrown v_connections (nI v_size) (nI v_ids) (nI v_dataAll) (nI v_putCount) (nI v_waiting) (nI v_readSize) v_power v_left v_since v_changes (nI v_rowSize))), (ad 50, .inl (ct 0, 8, .inl u.2.1)), (ad 52, .inl (ct 0, 8, .inl u.1)), (ad 53, .inl (ct 0, 64, .inl f_roots)), (ad 51, .inl (ct 0, 64, .inl u.2.2))]) A) [.ref a_this].toArray s 0 0 A := ⟨_, rfl⟩
  rw [← hQ]
  refine j_lve (lv' := [(0, .ref a_this)]) rfl ?_
  refine j_iconst (v := nI 0) X dX12_mix_0 (by decide) (q := 1) rfl ?_
  refine j_istore_n (lv' := [(1, .int (nI 0)), (0, .ref a_this)]) X dX12_mix_1 (by decide) rfl (q := 2) rfl ?_
  refine j_lv (lv' := [(0, .ref a_this), (1, .int (nI 0))]) [1, 0] rfl ?_
  have LP2_1 : ∀ (r2_1 k2_1 : Nat) (t2_1 : (Nat → Int32)), k2_1 + r2_1 = 8 → t2_1 = itr (X12_mix_l2 f_state8) f_begun k2_1 → J p l e { frames := 1, cells := 0, slots := 0, locals := 21 } s m [.ref a_this].toArray below meth c D A 7 Q 0 0 [(a_this, .inr (12, mfs ad v_thrown v_connections (nI v_size) (nI v_ids) (nI v_dataAll) (nI v_putCount) (nI v_waiting) (nI v_readSize) v_power v_left v_since v_changes (nI v_rowSize))), (ad 50, .inl (ct 0, 8, .inl f_state8)), (ad 52, .inl (ct 0, 8, .inl t2_1)), (ad 53, .inl (ct 0, 64, .inl f_roots)), (ad 51, .inl (ct 0, 64, .inl f_w))] [(0, .ref a_this), (1, .int (nI k2_1))] [] 2 := by
    intro r2_1
    induction r2_1 with
    | zero =>
      intro k2_1 t2_1 hk_t2_1 e_t2_1 
      have hkk_t2_1 : 8 = k2_1 := by omega
      subst hkk_t2_1
      refine j_iload_n X 1 dX12_mix_2 rfl (q := 3) rfl ?_
      refine j_bipush (v := nI 8) X dX12_mix_3 (by decide) (q := 5) rfl ?_
      refine j_icmp_ge (tgt := 26) X dX12_mix_5 (by decide) (q := 8) rfl (fun c2 => ?_) (fun c2 => ?_)
      · skip
        have c2 : 8 ≤ 8 := (nI_leI (a := 8) (b := 8) (by omega) (by omega)).mp c2
        refine j_bipush (v := nI 16) X dX12_mix_26 (by decide) (q := 28) rfl ?_
        refine j_istore_n (lv' := [(1, .int (nI 16)), (0, .ref a_this)]) X dX12_mix_28 (by decide) rfl (q := 29) rfl ?_
        refine j_lv (lv' := [(0, .ref a_this), (1, .int (nI 16))]) [1, 0] rfl ?_
        have LP29_3 : ∀ (r29_3 k29_3 : Nat) (t29_3 : (Nat → Int32)), k29_3 + r29_3 = 48 → t29_3 = itr X12_mix_l29 f_w k29_3 → J p l e { frames := 1, cells := 0, slots := 0, locals := 21 } s m [.ref a_this].toArray below meth c D A 7 Q 0 0 [(a_this, .inr (12, mfs ad v_thrown v_connections (nI v_size) (nI v_ids) (nI v_dataAll) (nI v_putCount) (nI v_waiting) (nI v_readSize) v_power v_left v_since v_changes (nI v_rowSize))), (ad 50, .inl (ct 0, 8, .inl f_state8)), (ad 52, .inl (ct 0, 8, .inl t2_1)), (ad 53, .inl (ct 0, 64, .inl f_roots)), (ad 51, .inl (ct 0, 64, .inl t29_3))] [(0, .ref a_this), (1, .int (nI (16 + k29_3)))] [] 29 := by
          intro r29_3
          induction r29_3 with
          | zero =>
            intro k29_3 t29_3 hk_t29_3 e_t29_3 
            have hkk_t29_3 : 48 = k29_3 := by omega
            subst hkk_t29_3
            refine j_iload_n X 1 dX12_mix_29 rfl (q := 30) rfl ?_
            refine j_bipush (v := nI 64) X dX12_mix_30 (by decide) (q := 32) rfl ?_
            refine j_icmp_ge (tgt := 122) X dX12_mix_32 (by decide) (q := 35) rfl (fun c4 => ?_) (fun c4 => ?_)
            · skip
              have c4 : 64 ≤ 16 + 48 := (nI_leI (a := 64) (b := 16 + 48) (by omega) (by omega)).mp c4
              refine j_iconst (v := nI 0) X dX12_mix_122 (by decide) (q := 123) rfl ?_
              refine j_istore_n (lv' := [(1, .int (nI 0)), (0, .ref a_this)]) X dX12_mix_123 (by decide) rfl (q := 124) rfl ?_
              refine j_lv (lv' := [(0, .ref a_this), (1, .int (nI 0))]) [1, 0] rfl ?_
              have LP124_5 : ∀ (r124_5 k124_5 : Nat) (t124_5 : (Nat → Int32)), k124_5 + r124_5 = 64 → t124_5 = itr (X12_mix_l124 f_roots t29_3) f_state8 k124_5 → J p l e { frames := 1, cells := 0, slots := 0, locals := 21 } s m [.ref a_this].toArray below meth c D A 7 Q 0 0 [(a_this, .inr (12, mfs ad v_thrown v_connections (nI v_size) (nI v_ids) (nI v_dataAll) (nI v_putCount) (nI v_waiting) (nI v_readSize) v_power v_left v_since v_changes (nI v_rowSize))), (ad 50, .inl (ct 0, 8, .inl t124_5)), (ad 52, .inl (ct 0, 8, .inl t2_1)), (ad 53, .inl (ct 0, 64, .inl f_roots)), (ad 51, .inl (ct 0, 64, .inl t29_3))] [(0, .ref a_this), (1, .int (nI k124_5))] [] 124 := by
                intro r124_5
                induction r124_5 with
                | zero =>
                  intro k124_5 t124_5 hk_t124_5 e_t124_5 
                  have hkk_t124_5 : 64 = k124_5 := by omega
                  subst hkk_t124_5
                  refine j_iload_n X 1 dX12_mix_124 rfl (q := 125) rfl ?_
                  refine j_bipush (v := nI 64) X dX12_mix_125 (by decide) (q := 127) rfl ?_
                  refine j_icmp_ge (tgt := 325) X dX12_mix_127 (by decide) (q := 130) rfl (fun c6 => ?_) (fun c6 => ?_)
                  · skip
                    have c6 : 64 ≤ 64 := (nI_leI (a := 64) (b := 64) (by omega) (by omega)).mp c6
                    refine j_iconst (v := nI 0) X dX12_mix_325 (by decide) (q := 326) rfl ?_
                    refine j_istore_n (lv' := [(1, .int (nI 0)), (0, .ref a_this)]) X dX12_mix_326 (by decide) rfl (q := 327) rfl ?_
                    refine j_lv (lv' := [(0, .ref a_this), (1, .int (nI 0))]) [1, 0] rfl ?_
                    have LP327_7 : ∀ (r327_7 k327_7 : Nat) (t327_7 : (Nat → Int32)), k327_7 + r327_7 = 8 → t327_7 = itr (X12_mix_l327 t2_1) t124_5 k327_7 → J p l e { frames := 1, cells := 0, slots := 0, locals := 21 } s m [.ref a_this].toArray below meth c D A 7 Q 0 0 [(a_this, .inr (12, mfs ad v_thrown v_connections (nI v_size) (nI v_ids) (nI v_dataAll) (nI v_putCount) (nI v_waiting) (nI v_readSize) v_power v_left v_since v_changes (nI v_rowSize))), (ad 50, .inl (ct 0, 8, .inl t327_7)), (ad 52, .inl (ct 0, 8, .inl t2_1)), (ad 53, .inl (ct 0, 64, .inl f_roots)), (ad 51, .inl (ct 0, 64, .inl t29_3))] [(0, .ref a_this), (1, .int (nI k327_7))] [] 327 := by
                      intro r327_7
                      induction r327_7 with
                      | zero =>
                        intro k327_7 t327_7 hk_t327_7 e_t327_7 
                        have hkk_t327_7 : 8 = k327_7 := by omega
                        subst hkk_t327_7
                        refine j_iload_n X 1 dX12_mix_327 rfl (q := 328) rfl ?_
                        refine j_bipush (v := nI 8) X dX12_mix_328 (by decide) (q := 330) rfl ?_
                        refine j_icmp_ge (tgt := 358) X dX12_mix_330 (by decide) (q := 333) rfl (fun c8 => ?_) (fun c8 => ?_)
                        · skip
                          have c8 : 8 ≤ 8 := (nI_leI (a := 8) (b := 8) (by omega) (by omega)).mp c8
                          rw [hQ]
                          exact j_vret X ((t2_1, t327_7, t29_3)) dX12_mix_358 (by subst e_t2_1; subst e_t29_3; subst e_t124_5; subst e_t327_7; rfl) rfl
                        · skip
                          have c8 : ¬ 8 ≤ 8 := fun h => c8 ((nI_leI (a := 8) (b := 8) (by omega) (by omega)).mpr h)
                          exfalso; omega
                      | succ r327_7 ih327_7 =>
                        intro k327_7 t327_7 hk_t327_7 e_t327_7 
                        refine j_iload_n X 1 dX12_mix_327 rfl (q := 328) rfl ?_
                        refine j_bipush (v := nI 8) X dX12_mix_328 (by decide) (q := 330) rfl ?_
                        refine j_icmp_ge (tgt := 358) X dX12_mix_330 (by decide) (q := 333) rfl (fun c9 => ?_) (fun c9 => ?_)
                        · skip
                          have c9 : 8 ≤ k327_7 := (nI_leI (a := 8) (b := k327_7) (by omega) (by omega)).mp c9
                          exfalso; omega
                        · skip
                          have c9 : ¬ 8 ≤ k327_7 := fun h => c9 ((nI_leI (a := 8) (b := k327_7) (by omega) (by omega)).mpr h)
                          refine j_aload_n X 0 dX12_mix_333 rfl (q := 334) rfl ?_
                          refine j_get (f := 50) X 0 inT12 rfl rfl (by decide) mw_X12_mix_0 rfl dX12_mix_334 (q := 337) rfl ?_
                          refine j_iload_n X 1 dX12_mix_337 rfl (q := 338) rfl ?_
                          refine j_aload_n X 0 dX12_mix_338 rfl (q := 339) rfl ?_
                          refine j_get (f := 50) X 0 inT12 rfl rfl (by decide) mw_X12_mix_0 rfl dX12_mix_339 (q := 342) rfl ?_
                          refine j_iload_n X 1 dX12_mix_342 rfl (q := 343) rfl ?_
                          refine k_iald X 1 rfl (vp_in_nI (by omega) (by omega)) (nI_clamp (by omega)) dX12_mix_343 (q := 344) rfl ?_
                          refine j_aload_n X 0 dX12_mix_344 rfl (q := 345) rfl ?_
                          refine j_get (f := 52) X 0 inT12 rfl rfl (by decide) mw_X12_mix_1 rfl dX12_mix_345 (q := 348) rfl ?_
                          refine j_iload_n X 1 dX12_mix_348 rfl (q := 349) rfl ?_
                          refine k_iald X 2 rfl (vp_in_nI (by omega) (by omega)) (nI_clamp (by omega)) dX12_mix_349 (q := 350) rfl ?_
                          refine j_iadd X dX12_mix_350 (q := 351) rfl ?_
                          refine j_topi (fun y10 e_y10 => ?_)
                          refine k_iast (ws2 := [(a_this, .inr (12, mfs ad v_thrown v_connections (nI v_size) (nI v_ids) (nI v_dataAll) (nI v_putCount) (nI v_waiting) (nI v_readSize) v_power v_left v_since v_changes (nI v_rowSize))), (ad 50, .inl (ct 0, 8, .inl (upd t327_7 k327_7 y10))), (ad 52, .inl (ct 0, 8, .inl t2_1)), (ad 53, .inl (ct 0, 64, .inl f_roots)), (ad 51, .inl (ct 0, 64, .inl t29_3))]) X 1 rfl (vp_in_nI (by omega) (by omega)) (nI_clamp (by omega)) dX12_mix_351 rfl (q := 352) rfl ?_
                          refine j_iinc (v := nI (k327_7 + 1)) (lv' := [(1, .int (nI (k327_7 + 1))), (0, .ref a_this)]) X 1 dX12_mix_352 rfl (nI_inc _ 1) (by decide) rfl (q := 355) rfl ?_
                          refine j_goto (tgt := 327) X dX12_mix_355 (by decide) ?_
                          refine j_lv (lv' := [(0, .ref a_this), (1, .int (nI (k327_7 + 1)))]) [1, 0] rfl ?_
                          have hb : (X12_mix_l327 t2_1) k327_7 t327_7 = upd t327_7 k327_7 y10 := (by subst e_y10; rfl)
                          exact ih327_7 (k327_7 + 1) (upd t327_7 k327_7 y10) (by omega) (by rw [itr_s, ← e_t327_7]; exact hb.symm) 
                    exact LP327_7 8 0 t124_5 (by omega) (itr_0 _ _).symm 
                  · skip
                    have c6 : ¬ 64 ≤ 64 := fun h => c6 ((nI_leI (a := 64) (b := 64) (by omega) (by omega)).mpr h)
                    exfalso; omega
                | succ r124_5 ih124_5 =>
                  intro k124_5 t124_5 hk_t124_5 e_t124_5 
                  refine j_iload_n X 1 dX12_mix_124 rfl (q := 125) rfl ?_
                  refine j_bipush (v := nI 64) X dX12_mix_125 (by decide) (q := 127) rfl ?_
                  refine j_icmp_ge (tgt := 325) X dX12_mix_127 (by decide) (q := 130) rfl (fun c11 => ?_) (fun c11 => ?_)
                  · skip
                    have c11 : 64 ≤ k124_5 := (nI_leI (a := 64) (b := k124_5) (by omega) (by omega)).mp c11
                    exfalso; omega
                  · skip
                    have c11 : ¬ 64 ≤ k124_5 := fun h => c11 ((nI_leI (a := 64) (b := k124_5) (by omega) (by omega)).mpr h)
                    refine j_aload_n X 0 dX12_mix_130 rfl (q := 131) rfl ?_
                    refine j_get (f := 50) X 0 inT12 rfl rfl (by decide) mw_X12_mix_0 rfl dX12_mix_131 (q := 134) rfl ?_
                    refine j_iconst (v := nI 4) X dX12_mix_134 (by decide) (q := 135) rfl ?_
                    refine k_iald X 1 rfl (vp_in_nI (by omega) (by omega)) (nI_clamp (by omega)) dX12_mix_135 (q := 136) rfl ?_
                    refine j_topi (fun y12 e_y12 => ?_)
                    refine j_istore_n (lv' := [(2, .int y12), (0, .ref a_this), (1, .int (nI k124_5))]) X dX12_mix_136 (by decide) rfl (q := 137) rfl ?_
                    refine j_aload_n X 1 dX12_mix_137 rfl (q := 138) rfl ?_
                    refine j_get (f := 50) X 0 inT12 rfl rfl (by decide) mw_X12_mix_0 rfl dX12_mix_138 (q := 141) rfl ?_
                    refine j_iconst (v := nI 0) X dX12_mix_141 (by decide) (q := 142) rfl ?_
                    refine k_iald X 1 rfl (vp_in_nI (by omega) (by omega)) (nI_clamp (by omega)) dX12_mix_142 (q := 143) rfl ?_
                    refine j_topi (fun y13 e_y13 => ?_)
                    refine j_istore_n (lv' := [(3, .int y13), (2, .int y12), (0, .ref a_this), (1, .int (nI k124_5))]) X dX12_mix_143 (by decide) rfl (q := 144) rfl ?_
                    refine j_aload_n X 2 dX12_mix_144 rfl (q := 145) rfl ?_
                    refine j_get (f := 50) X 0 inT12 rfl rfl (by decide) mw_X12_mix_0 rfl dX12_mix_145 (q := 148) rfl ?_
                    refine j_bipush (v := nI 7) X dX12_mix_148 (by decide) (q := 150) rfl ?_
                    refine k_iald X 1 rfl (vp_in_nI (by omega) (by omega)) (nI_clamp (by omega)) dX12_mix_150 (q := 151) rfl ?_
                    refine j_iload_n X 1 dX12_mix_151 rfl (q := 152) rfl ?_
                    refine j_bipush (v := nI 6) X dX12_mix_152 (by decide) (q := 154) rfl ?_
                    refine j_callSi (As := [.int y12, .int (nI 6)]) (rest := [.int (t124_5 7)]) (wn := (fun u14 => [(a_this, .inr (12, mfs ad v_thrown v_connections (nI v_size) (nI v_ids) (nI v_dataAll) (nI v_putCount) (nI v_waiting) (nI v_readSize) v_power v_left v_since v_changes (nI v_rowSize))), (ad 50, .inl (ct 0, 8, .inl t124_5)), (ad 52, .inl (ct 0, 8, .inl t2_1)), (ad 53, .inl (ct 0, 64, .inl f_roots)), (ad 51, .inl (ct 0, 64, .inl t29_3))])) (wr := [(a_this, .inr (12, mfs ad v_thrown v_connections (nI v_size) (nI v_ids) (nI v_dataAll) (nI v_putCount) (nI v_waiting) (nI v_readSize) v_power v_left v_since v_changes (nI v_rowSize))), (ad 50, .inl (ct 0, 8, .inl t124_5)), (ad 52, .inl (ct 0, 8, .inl t2_1)), (ad 53, .inl (ct 0, 64, .inl f_roots)), (ad 51, .inl (ct 0, 64, .inl t29_3))]) X (fun sz => c_X12_turn l D ct ts y12 6 (by first | omega | assumption) sz) cal_X12_turn mw_X12_mix_4 cwt_X12_turn rfl ⟨by decide, by decide⟩ rfl rfl (Nat.le_of_ble_eq_true rfl) ⟨by decide, by decide⟩ [] [0, 1, 2, 3, 4] [0, 1, 2, 3, 4] rfl (by decide) rfl (by decide) (by decide) (fun _ => rfl) (by decide) dX12_mix_154 (q := 157) rfl (fun r15 u14 hu14 => ?_)
                    have hu14 : r15 = f_X12_turn y12 6 := hu14
                    subst hu14
                    refine j_iload_n X 1 dX12_mix_157 rfl (q := 158) rfl ?_
                    refine j_bipush (v := nI 11) X dX12_mix_158 (by decide) (q := 160) rfl ?_
                    refine j_callSi (As := [.int y12, .int (nI 11)]) (rest := [.int (f_X12_turn y12 6), .int (t124_5 7)]) (wn := (fun u17 => [(a_this, .inr (12, mfs ad v_thrown v_connections (nI v_size) (nI v_ids) (nI v_dataAll) (nI v_putCount) (nI v_waiting) (nI v_readSize) v_power v_left v_since v_changes (nI v_rowSize))), (ad 50, .inl (ct 0, 8, .inl t124_5)), (ad 52, .inl (ct 0, 8, .inl t2_1)), (ad 53, .inl (ct 0, 64, .inl f_roots)), (ad 51, .inl (ct 0, 64, .inl t29_3))])) (wr := [(a_this, .inr (12, mfs ad v_thrown v_connections (nI v_size) (nI v_ids) (nI v_dataAll) (nI v_putCount) (nI v_waiting) (nI v_readSize) v_power v_left v_since v_changes (nI v_rowSize))), (ad 50, .inl (ct 0, 8, .inl t124_5)), (ad 52, .inl (ct 0, 8, .inl t2_1)), (ad 53, .inl (ct 0, 64, .inl f_roots)), (ad 51, .inl (ct 0, 64, .inl t29_3))]) X (fun sz => c_X12_turn l D ct ts y12 11 (by first | omega | assumption) sz) cal_X12_turn mw_X12_mix_4 cwt_X12_turn rfl ⟨by decide, by decide⟩ rfl rfl (Nat.le_of_ble_eq_true rfl) ⟨by decide, by decide⟩ [] [0, 1, 2, 3, 4] [0, 1, 2, 3, 4] rfl (by decide) rfl (by decide) (by decide) (fun _ => rfl) (by decide) dX12_mix_160 (q := 163) rfl (fun r18 u17 hu17 => ?_)
                    have hu17 : r18 = f_X12_turn y12 11 := hu17
                    subst hu17
                    refine j_ixor X dX12_mix_163 (q := 164) rfl ?_
                    refine j_iload_n X 1 dX12_mix_164 rfl (q := 165) rfl ?_
                    refine j_bipush (v := nI 25) X dX12_mix_165 (by decide) (q := 167) rfl ?_
                    refine j_callSi (As := [.int y12, .int (nI 25)]) (rest := [.int ((f_X12_turn y12 6) ^^^ (f_X12_turn y12 11)), .int (t124_5 7)]) (wn := (fun u20 => [(a_this, .inr (12, mfs ad v_thrown v_connections (nI v_size) (nI v_ids) (nI v_dataAll) (nI v_putCount) (nI v_waiting) (nI v_readSize) v_power v_left v_since v_changes (nI v_rowSize))), (ad 50, .inl (ct 0, 8, .inl t124_5)), (ad 52, .inl (ct 0, 8, .inl t2_1)), (ad 53, .inl (ct 0, 64, .inl f_roots)), (ad 51, .inl (ct 0, 64, .inl t29_3))])) (wr := [(a_this, .inr (12, mfs ad v_thrown v_connections (nI v_size) (nI v_ids) (nI v_dataAll) (nI v_putCount) (nI v_waiting) (nI v_readSize) v_power v_left v_since v_changes (nI v_rowSize))), (ad 50, .inl (ct 0, 8, .inl t124_5)), (ad 52, .inl (ct 0, 8, .inl t2_1)), (ad 53, .inl (ct 0, 64, .inl f_roots)), (ad 51, .inl (ct 0, 64, .inl t29_3))]) X (fun sz => c_X12_turn l D ct ts y12 25 (by first | omega | assumption) sz) cal_X12_turn mw_X12_mix_4 cwt_X12_turn rfl ⟨by decide, by decide⟩ rfl rfl (Nat.le_of_ble_eq_true rfl) ⟨by decide, by decide⟩ [] [0, 1, 2, 3, 4] [0, 1, 2, 3, 4] rfl (by decide) rfl (by decide) (by decide) (fun _ => rfl) (by decide) dX12_mix_167 (q := 170) rfl (fun r21 u20 hu20 => ?_)
                    have hu20 : r21 = f_X12_turn y12 25 := hu20
                    subst hu20
                    refine j_ixor X dX12_mix_170 (q := 171) rfl ?_
                    refine j_iadd X dX12_mix_171 (q := 172) rfl ?_
                    refine j_iload_n X 1 dX12_mix_172 rfl (q := 173) rfl ?_
                    refine j_aload_n X 2 dX12_mix_173 rfl (q := 174) rfl ?_
                    refine j_get (f := 50) X 0 inT12 rfl rfl (by decide) mw_X12_mix_0 rfl dX12_mix_174 (q := 177) rfl ?_
                    refine j_iconst (v := nI 5) X dX12_mix_177 (by decide) (q := 178) rfl ?_
                    refine k_iald X 1 rfl (vp_in_nI (by omega) (by omega)) (nI_clamp (by omega)) dX12_mix_178 (q := 179) rfl ?_
                    refine j_iand X dX12_mix_179 (q := 180) rfl ?_
                    refine j_iload_n X 1 dX12_mix_180 rfl (q := 181) rfl ?_
                    refine j_iconst (v := -1) X dX12_mix_181 (by decide) (q := 182) rfl ?_
                    refine j_ixor X dX12_mix_182 (q := 183) rfl ?_
                    refine j_aload_n X 2 dX12_mix_183 rfl (q := 184) rfl ?_
                    refine j_get (f := 50) X 0 inT12 rfl rfl (by decide) mw_X12_mix_0 rfl dX12_mix_184 (q := 187) rfl ?_
                    refine j_bipush (v := nI 6) X dX12_mix_187 (by decide) (q := 189) rfl ?_
                    refine k_iald X 1 rfl (vp_in_nI (by omega) (by omega)) (nI_clamp (by omega)) dX12_mix_189 (q := 190) rfl ?_
                    refine j_iand X dX12_mix_190 (q := 191) rfl ?_
                    refine j_ixor X dX12_mix_191 (q := 192) rfl ?_
                    refine j_iadd X dX12_mix_192 (q := 193) rfl ?_
                    refine j_aload_n X 2 dX12_mix_193 rfl (q := 194) rfl ?_
                    refine j_get (f := 53) X 0 inT12 rfl rfl (by decide) mw_X12_mix_2 rfl dX12_mix_194 (q := 197) rfl ?_
                    refine j_iload_n X 3 dX12_mix_197 rfl (q := 198) rfl ?_
                    refine k_iald X 3 rfl (vp_in_nI (by omega) (by omega)) (nI_clamp (by omega)) dX12_mix_198 (q := 199) rfl ?_
                    refine j_iadd X dX12_mix_199 (q := 200) rfl ?_
                    refine j_aload_n X 2 dX12_mix_200 rfl (q := 201) rfl ?_
                    refine j_get (f := 51) X 0 inT12 rfl rfl (by decide) mw_X12_mix_3 rfl dX12_mix_201 (q := 204) rfl ?_
                    refine j_iload_n X 3 dX12_mix_204 rfl (q := 205) rfl ?_
                    refine k_iald X 4 rfl (vp_in_nI (by omega) (by omega)) (nI_clamp (by omega)) dX12_mix_205 (q := 206) rfl ?_
                    refine j_iadd X dX12_mix_206 (q := 207) rfl ?_
                    refine j_topi (fun y23 e_y23 => ?_)
                    refine j_istore (lv' := [(4, .int y23), (3, .int y13), (2, .int y12), (0, .ref a_this), (1, .int (nI k124_5))]) X dX12_mix_207 (by decide) rfl (q := 209) rfl ?_
                    refine j_iload_n X 1 dX12_mix_209 rfl (q := 210) rfl ?_
                    refine j_iconst (v := nI 2) X dX12_mix_210 (by decide) (q := 211) rfl ?_
                    refine j_callSi (As := [.int y13, .int (nI 2)]) (rest := []) (wn := (fun u24 => [(a_this, .inr (12, mfs ad v_thrown v_connections (nI v_size) (nI v_ids) (nI v_dataAll) (nI v_putCount) (nI v_waiting) (nI v_readSize) v_power v_left v_since v_changes (nI v_rowSize))), (ad 50, .inl (ct 0, 8, .inl t124_5)), (ad 52, .inl (ct 0, 8, .inl t2_1)), (ad 53, .inl (ct 0, 64, .inl f_roots)), (ad 51, .inl (ct 0, 64, .inl t29_3))])) (wr := [(a_this, .inr (12, mfs ad v_thrown v_connections (nI v_size) (nI v_ids) (nI v_dataAll) (nI v_putCount) (nI v_waiting) (nI v_readSize) v_power v_left v_since v_changes (nI v_rowSize))), (ad 50, .inl (ct 0, 8, .inl t124_5)), (ad 52, .inl (ct 0, 8, .inl t2_1)), (ad 53, .inl (ct 0, 64, .inl f_roots)), (ad 51, .inl (ct 0, 64, .inl t29_3))]) X (fun sz => c_X12_turn l D ct ts y13 2 (by first | omega | assumption) sz) cal_X12_turn mw_X12_mix_4 cwt_X12_turn rfl ⟨by decide, by decide⟩ rfl rfl (Nat.le_of_ble_eq_true rfl) ⟨by decide, by decide⟩ [] [0, 1, 2, 3, 4] [0, 1, 2, 3, 4] rfl (by decide) rfl (by decide) (by decide) (fun _ => rfl) (by decide) dX12_mix_211 (q := 214) rfl (fun r25 u24 hu24 => ?_)
                    have hu24 : r25 = f_X12_turn y13 2 := hu24
                    subst hu24
                    refine j_iload_n X 1 dX12_mix_214 rfl (q := 215) rfl ?_
                    refine j_bipush (v := nI 13) X dX12_mix_215 (by decide) (q := 217) rfl ?_
                    refine j_callSi (As := [.int y13, .int (nI 13)]) (rest := [.int (f_X12_turn y13 2)]) (wn := (fun u27 => [(a_this, .inr (12, mfs ad v_thrown v_connections (nI v_size) (nI v_ids) (nI v_dataAll) (nI v_putCount) (nI v_waiting) (nI v_readSize) v_power v_left v_since v_changes (nI v_rowSize))), (ad 50, .inl (ct 0, 8, .inl t124_5)), (ad 52, .inl (ct 0, 8, .inl t2_1)), (ad 53, .inl (ct 0, 64, .inl f_roots)), (ad 51, .inl (ct 0, 64, .inl t29_3))])) (wr := [(a_this, .inr (12, mfs ad v_thrown v_connections (nI v_size) (nI v_ids) (nI v_dataAll) (nI v_putCount) (nI v_waiting) (nI v_readSize) v_power v_left v_since v_changes (nI v_rowSize))), (ad 50, .inl (ct 0, 8, .inl t124_5)), (ad 52, .inl (ct 0, 8, .inl t2_1)), (ad 53, .inl (ct 0, 64, .inl f_roots)), (ad 51, .inl (ct 0, 64, .inl t29_3))]) X (fun sz => c_X12_turn l D ct ts y13 13 (by first | omega | assumption) sz) cal_X12_turn mw_X12_mix_4 cwt_X12_turn rfl ⟨by decide, by decide⟩ rfl rfl (Nat.le_of_ble_eq_true rfl) ⟨by decide, by decide⟩ [] [0, 1, 2, 3, 4] [0, 1, 2, 3, 4] rfl (by decide) rfl (by decide) (by decide) (fun _ => rfl) (by decide) dX12_mix_217 (q := 220) rfl (fun r28 u27 hu27 => ?_)
                    have hu27 : r28 = f_X12_turn y13 13 := hu27
                    subst hu27
                    refine j_ixor X dX12_mix_220 (q := 221) rfl ?_
                    refine j_iload_n X 1 dX12_mix_221 rfl (q := 222) rfl ?_
                    refine j_bipush (v := nI 22) X dX12_mix_222 (by decide) (q := 224) rfl ?_
                    refine j_callSi (As := [.int y13, .int (nI 22)]) (rest := [.int ((f_X12_turn y13 2) ^^^ (f_X12_turn y13 13))]) (wn := (fun u30 => [(a_this, .inr (12, mfs ad v_thrown v_connections (nI v_size) (nI v_ids) (nI v_dataAll) (nI v_putCount) (nI v_waiting) (nI v_readSize) v_power v_left v_since v_changes (nI v_rowSize))), (ad 50, .inl (ct 0, 8, .inl t124_5)), (ad 52, .inl (ct 0, 8, .inl t2_1)), (ad 53, .inl (ct 0, 64, .inl f_roots)), (ad 51, .inl (ct 0, 64, .inl t29_3))])) (wr := [(a_this, .inr (12, mfs ad v_thrown v_connections (nI v_size) (nI v_ids) (nI v_dataAll) (nI v_putCount) (nI v_waiting) (nI v_readSize) v_power v_left v_since v_changes (nI v_rowSize))), (ad 50, .inl (ct 0, 8, .inl t124_5)), (ad 52, .inl (ct 0, 8, .inl t2_1)), (ad 53, .inl (ct 0, 64, .inl f_roots)), (ad 51, .inl (ct 0, 64, .inl t29_3))]) X (fun sz => c_X12_turn l D ct ts y13 22 (by first | omega | assumption) sz) cal_X12_turn mw_X12_mix_4 cwt_X12_turn rfl ⟨by decide, by decide⟩ rfl rfl (Nat.le_of_ble_eq_true rfl) ⟨by decide, by decide⟩ [] [0, 1, 2, 3, 4] [0, 1, 2, 3, 4] rfl (by decide) rfl (by decide) (by decide) (fun _ => rfl) (by decide) dX12_mix_224 (q := 227) rfl (fun r31 u30 hu30 => ?_)
                    have hu30 : r31 = f_X12_turn y13 22 := hu30
                    subst hu30
                    refine j_ixor X dX12_mix_227 (q := 228) rfl ?_
                    refine j_iload_n X 1 dX12_mix_228 rfl (q := 229) rfl ?_
                    refine j_aload_n X 3 dX12_mix_229 rfl (q := 230) rfl ?_
                    refine j_get (f := 50) X 0 inT12 rfl rfl (by decide) mw_X12_mix_0 rfl dX12_mix_230 (q := 233) rfl ?_
                    refine j_iconst (v := nI 1) X dX12_mix_233 (by decide) (q := 234) rfl ?_
                    refine k_iald X 1 rfl (vp_in_nI (by omega) (by omega)) (nI_clamp (by omega)) dX12_mix_234 (q := 235) rfl ?_
                    refine j_iand X dX12_mix_235 (q := 236) rfl ?_
                    refine j_iload_n X 1 dX12_mix_236 rfl (q := 237) rfl ?_
                    refine j_aload_n X 3 dX12_mix_237 rfl (q := 238) rfl ?_
                    refine j_get (f := 50) X 0 inT12 rfl rfl (by decide) mw_X12_mix_0 rfl dX12_mix_238 (q := 241) rfl ?_
                    refine j_iconst (v := nI 2) X dX12_mix_241 (by decide) (q := 242) rfl ?_
                    refine k_iald X 1 rfl (vp_in_nI (by omega) (by omega)) (nI_clamp (by omega)) dX12_mix_242 (q := 243) rfl ?_
                    refine j_iand X dX12_mix_243 (q := 244) rfl ?_
                    refine j_ixor X dX12_mix_244 (q := 245) rfl ?_
                    refine j_aload_n X 3 dX12_mix_245 rfl (q := 246) rfl ?_
                    refine j_get (f := 50) X 0 inT12 rfl rfl (by decide) mw_X12_mix_0 rfl dX12_mix_246 (q := 249) rfl ?_
                    refine j_iconst (v := nI 1) X dX12_mix_249 (by decide) (q := 250) rfl ?_
                    refine k_iald X 1 rfl (vp_in_nI (by omega) (by omega)) (nI_clamp (by omega)) dX12_mix_250 (q := 251) rfl ?_
                    refine j_aload_n X 3 dX12_mix_251 rfl (q := 252) rfl ?_
                    refine j_get (f := 50) X 0 inT12 rfl rfl (by decide) mw_X12_mix_0 rfl dX12_mix_252 (q := 255) rfl ?_
                    refine j_iconst (v := nI 2) X dX12_mix_255 (by decide) (q := 256) rfl ?_
                    refine k_iald X 1 rfl (vp_in_nI (by omega) (by omega)) (nI_clamp (by omega)) dX12_mix_256 (q := 257) rfl ?_
                    refine j_iand X dX12_mix_257 (q := 258) rfl ?_
                    refine j_ixor X dX12_mix_258 (q := 259) rfl ?_
                    refine j_iadd X dX12_mix_259 (q := 260) rfl ?_
                    refine j_topi (fun y33 e_y33 => ?_)
                    refine j_istore (lv' := [(5, .int y33), (4, .int y23), (3, .int y13), (2, .int y12), (0, .ref a_this), (1, .int (nI k124_5))]) X dX12_mix_260 (by decide) rfl (q := 262) rfl ?_
                    refine j_bipush (v := nI 7) X dX12_mix_262 (by decide) (q := 264) rfl ?_
                    refine j_istore (lv' := [(6, .int (nI 7)), (5, .int y33), (4, .int y23), (3, .int y13), (2, .int y12), (0, .ref a_this), (1, .int (nI k124_5))]) X dX12_mix_264 (by decide) rfl (q := 266) rfl ?_
                    refine j_lv (lv' := [(0, .ref a_this), (1, .int (nI k124_5)), (2, .int y12), (3, .int y13), (4, .int y23), (5, .int y33), (6, .int (nI 7))]) [5, 6, 4, 3, 2, 1, 0] rfl ?_
                    have LP266_34 : ∀ (r266_34 : Nat) (t266_34 : (Nat → Int32)), r266_34 ≤ 7 → itd X12_mix_l266 7 t124_5 = itd X12_mix_l266 r266_34 t266_34 → J p l e { frames := 1, cells := 0, slots := 0, locals := 21 } s m [.ref a_this].toArray below meth c D A 7 Q 0 0 [(a_this, .inr (12, mfs ad v_thrown v_connections (nI v_size) (nI v_ids) (nI v_dataAll) (nI v_putCount) (nI v_waiting) (nI v_readSize) v_power v_left v_since v_changes (nI v_rowSize))), (ad 50, .inl (ct 0, 8, .inl t266_34)), (ad 52, .inl (ct 0, 8, .inl t2_1)), (ad 53, .inl (ct 0, 64, .inl f_roots)), (ad 51, .inl (ct 0, 64, .inl t29_3))] [(0, .ref a_this), (1, .int (nI k124_5)), (2, .int y12), (3, .int y13), (4, .int y23), (5, .int y33), (6, .int (nI r266_34))] [] 266 := by
                      intro r266_34
                      induction r266_34 with
                      | zero =>
                        intro t266_34 hk_t266_34 e0_t266_34 
                        have e_t266_34 : t266_34 = itd X12_mix_l266 7 t124_5 := (e0_t266_34.trans (itd_0 _ _)).symm
                        refine j_iload X 6 dX12_mix_266 rfl (q := 268) rfl ?_
                        refine j_if_le (tgt := 293) X dX12_mix_268 (by decide) (q := 271) rfl (fun c35 => ?_) (fun c35 => ?_)
                        · skip
                          have c35 : 0 ≤ 0 := (nI_leI (a := 0) (b := 0) (by omega) (by omega)).mp c35
                          refine j_aload_n X 0 dX12_mix_293 rfl (q := 294) rfl ?_
                          refine j_get (f := 50) X 0 inT12 rfl rfl (by decide) mw_X12_mix_0 rfl dX12_mix_294 (q := 297) rfl ?_
                          refine j_iconst (v := nI 4) X dX12_mix_297 (by decide) (q := 298) rfl ?_
                          refine j_aload_n X 0 dX12_mix_298 rfl (q := 299) rfl ?_
                          refine j_get (f := 50) X 0 inT12 rfl rfl (by decide) mw_X12_mix_0 rfl dX12_mix_299 (q := 302) rfl ?_
                          refine j_iconst (v := nI 4) X dX12_mix_302 (by decide) (q := 303) rfl ?_
                          refine k_iald X 1 rfl (vp_in_nI (by omega) (by omega)) (nI_clamp (by omega)) dX12_mix_303 (q := 304) rfl ?_
                          refine j_iload X 4 dX12_mix_304 rfl (q := 306) rfl ?_
                          refine j_iadd X dX12_mix_306 (q := 307) rfl ?_
                          refine j_topi (fun y36 e_y36 => ?_)
                          refine k_iast (ws2 := [(a_this, .inr (12, mfs ad v_thrown v_connections (nI v_size) (nI v_ids) (nI v_dataAll) (nI v_putCount) (nI v_waiting) (nI v_readSize) v_power v_left v_since v_changes (nI v_rowSize))), (ad 50, .inl (ct 0, 8, .inl (upd t266_34 4 y36))), (ad 52, .inl (ct 0, 8, .inl t2_1)), (ad 53, .inl (ct 0, 64, .inl f_roots)), (ad 51, .inl (ct 0, 64, .inl t29_3))]) X 1 rfl (vp_in_nI (by omega) (by omega)) (nI_clamp (by omega)) dX12_mix_307 rfl (q := 308) rfl ?_
                          refine j_aload_n X 0 dX12_mix_308 rfl (q := 309) rfl ?_
                          refine j_get (f := 50) X 0 inT12 rfl rfl (by decide) mw_X12_mix_0 rfl dX12_mix_309 (q := 312) rfl ?_
                          refine j_iconst (v := nI 0) X dX12_mix_312 (by decide) (q := 313) rfl ?_
                          refine j_iload X 4 dX12_mix_313 rfl (q := 315) rfl ?_
                          refine j_iload X 5 dX12_mix_315 rfl (q := 317) rfl ?_
                          refine j_iadd X dX12_mix_317 (q := 318) rfl ?_
                          refine j_topi (fun y37 e_y37 => ?_)
                          refine k_iast (ws2 := [(a_this, .inr (12, mfs ad v_thrown v_connections (nI v_size) (nI v_ids) (nI v_dataAll) (nI v_putCount) (nI v_waiting) (nI v_readSize) v_power v_left v_since v_changes (nI v_rowSize))), (ad 50, .inl (ct 0, 8, .inl (upd (upd t266_34 4 y36) 0 y37))), (ad 52, .inl (ct 0, 8, .inl t2_1)), (ad 53, .inl (ct 0, 64, .inl f_roots)), (ad 51, .inl (ct 0, 64, .inl t29_3))]) X 1 rfl (vp_in_nI (by omega) (by omega)) (nI_clamp (by omega)) dX12_mix_318 rfl (q := 319) rfl ?_
                          refine j_iinc (v := nI (k124_5 + 1)) (lv' := [(1, .int (nI (k124_5 + 1))), (0, .ref a_this), (2, .int y12), (3, .int y13), (4, .int y23), (5, .int y33), (6, .int (nI 0))]) X 1 dX12_mix_319 rfl (nI_inc _ 1) (by decide) rfl (q := 322) rfl ?_
                          refine j_goto (tgt := 124) X dX12_mix_322 (by decide) ?_
                          refine j_lv (lv' := [(0, .ref a_this), (1, .int (nI (k124_5 + 1)))]) [1, 0] rfl ?_
                          have hb : (X12_mix_l124 f_roots t29_3) k124_5 t124_5 = upd (upd t266_34 4 y36) 0 y37 := (by subst e_y12; subst e_y13; subst e_y23; subst e_y33; subst e_t266_34; subst e_y36; subst e_y37; rfl)
                          exact ih124_5 (k124_5 + 1) (upd (upd t266_34 4 y36) 0 y37) (by omega) (by rw [itr_s, ← e_t124_5]; exact hb.symm) 
                        · skip
                          have c35 : ¬ 0 ≤ 0 := fun h => c35 ((nI_leI (a := 0) (b := 0) (by omega) (by omega)).mpr h)
                          exfalso; omega
                      | succ r266_34 ih266_34 =>
                        intro t266_34 hk_t266_34 e_t266_34 
                        refine j_iload X 6 dX12_mix_266 rfl (q := 268) rfl ?_
                        refine j_if_le (tgt := 293) X dX12_mix_268 (by decide) (q := 271) rfl (fun c38 => ?_) (fun c38 => ?_)
                        · skip
                          have c38 : r266_34 + 1 ≤ 0 := (nI_leI (a := r266_34 + 1) (b := 0) (by omega) (by omega)).mp c38
                          exfalso; omega
                        · skip
                          have c38 : ¬ r266_34 + 1 ≤ 0 := fun h => c38 ((nI_leI (a := r266_34 + 1) (b := 0) (by omega) (by omega)).mpr h)
                          refine j_aload_n X 0 dX12_mix_271 rfl (q := 272) rfl ?_
                          refine j_get (f := 50) X 0 inT12 rfl rfl (by decide) mw_X12_mix_0 rfl dX12_mix_272 (q := 275) rfl ?_
                          refine j_iload X 6 dX12_mix_275 rfl (q := 277) rfl ?_
                          refine j_aload_n X 0 dX12_mix_277 rfl (q := 278) rfl ?_
                          refine j_get (f := 50) X 0 inT12 rfl rfl (by decide) mw_X12_mix_0 rfl dX12_mix_278 (q := 281) rfl ?_
                          refine j_iload X 6 dX12_mix_281 rfl (q := 283) rfl ?_
                          refine j_iconst (v := nI 1) X dX12_mix_283 (by decide) (q := 284) rfl ?_
                          refine j_isub X dX12_mix_284 (q := 285) rfl ?_
                          refine j_eqi (pk_sub (by omega)) ?_
                          refine k_iald X 1 rfl (vp_in_nI (by omega) (by omega)) (nI_clamp (by omega)) dX12_mix_285 (q := 286) rfl ?_
                          refine j_topi (fun y39 e_y39 => ?_)
                          refine k_iast (ws2 := [(a_this, .inr (12, mfs ad v_thrown v_connections (nI v_size) (nI v_ids) (nI v_dataAll) (nI v_putCount) (nI v_waiting) (nI v_readSize) v_power v_left v_since v_changes (nI v_rowSize))), (ad 50, .inl (ct 0, 8, .inl (upd t266_34 (r266_34 + 1) y39))), (ad 52, .inl (ct 0, 8, .inl t2_1)), (ad 53, .inl (ct 0, 64, .inl f_roots)), (ad 51, .inl (ct 0, 64, .inl t29_3))]) X 1 rfl (vp_in_nI (by omega) (by omega)) (nI_clamp (by omega)) dX12_mix_286 rfl (q := 287) rfl ?_
                          refine j_iinc (v := nI (r266_34 + 1 - 1)) (lv' := [(6, .int (nI (r266_34 + 1 - 1))), (0, .ref a_this), (1, .int (nI k124_5)), (2, .int y12), (3, .int y13), (4, .int y23), (5, .int y33)]) X 6 dX12_mix_287 rfl (nI_dec (n := 1) (by omega)) (by decide) rfl (q := 290) rfl ?_
                          refine j_goto (tgt := 266) X dX12_mix_290 (by decide) ?_
                          refine j_lv (lv' := [(0, .ref a_this), (1, .int (nI k124_5)), (2, .int y12), (3, .int y13), (4, .int y23), (5, .int y33), (6, .int (nI (r266_34 + 1 - 1)))]) [1, 2, 3, 4, 5, 6, 0] rfl ?_
                          have hb : X12_mix_l266 r266_34 t266_34 = upd t266_34 (r266_34 + 1) y39 := (by subst e_y39; rfl)
                          exact ih266_34 (upd t266_34 (r266_34 + 1) y39) (by omega) (by rw [e_t266_34, itd_s, hb]) 
                    exact LP266_34 7 t124_5 (by omega) rfl 
              exact LP124_5 64 0 f_state8 (by omega) (itr_0 _ _).symm 
            · skip
              have c4 : ¬ 64 ≤ 16 + 48 := fun h => c4 ((nI_leI (a := 64) (b := 16 + 48) (by omega) (by omega)).mpr h)
              exfalso; omega
          | succ r29_3 ih29_3 =>
            intro k29_3 t29_3 hk_t29_3 e_t29_3 
            refine j_iload_n X 1 dX12_mix_29 rfl (q := 30) rfl ?_
            refine j_bipush (v := nI 64) X dX12_mix_30 (by decide) (q := 32) rfl ?_
            refine j_icmp_ge (tgt := 122) X dX12_mix_32 (by decide) (q := 35) rfl (fun c40 => ?_) (fun c40 => ?_)
            · skip
              have c40 : 64 ≤ 16 + k29_3 := (nI_leI (a := 64) (b := 16 + k29_3) (by omega) (by omega)).mp c40
              exfalso; omega
            · skip
              have c40 : ¬ 64 ≤ 16 + k29_3 := fun h => c40 ((nI_leI (a := 64) (b := 16 + k29_3) (by omega) (by omega)).mpr h)
              refine j_aload_n X 0 dX12_mix_35 rfl (q := 36) rfl ?_
              refine j_get (f := 51) X 0 inT12 rfl rfl (by decide) mw_X12_mix_3 rfl dX12_mix_36 (q := 39) rfl ?_
              refine j_iload_n X 1 dX12_mix_39 rfl (q := 40) rfl ?_
              refine j_bipush (v := nI 15) X dX12_mix_40 (by decide) (q := 42) rfl ?_
              refine j_isub X dX12_mix_42 (q := 43) rfl ?_
              refine j_eqi (pk_sub (by omega)) ?_
              refine k_iald X 4 rfl (vp_in_nI (by omega) (by omega)) (nI_clamp (by omega)) dX12_mix_43 (q := 44) rfl ?_
              refine j_topi (fun y41 e_y41 => ?_)
              refine j_istore_n (lv' := [(2, .int y41), (0, .ref a_this), (1, .int (nI (16 + k29_3)))]) X dX12_mix_44 (by decide) rfl (q := 45) rfl ?_
              refine j_aload_n X 1 dX12_mix_45 rfl (q := 46) rfl ?_
              refine j_get (f := 51) X 0 inT12 rfl rfl (by decide) mw_X12_mix_3 rfl dX12_mix_46 (q := 49) rfl ?_
              refine j_iload_n X 2 dX12_mix_49 rfl (q := 50) rfl ?_
              refine j_iconst (v := nI 2) X dX12_mix_50 (by decide) (q := 51) rfl ?_
              refine j_isub X dX12_mix_51 (q := 52) rfl ?_
              refine j_eqi (pk_sub (by omega)) ?_
              refine k_iald X 4 rfl (vp_in_nI (by omega) (by omega)) (nI_clamp (by omega)) dX12_mix_52 (q := 53) rfl ?_
              refine j_topi (fun y42 e_y42 => ?_)
              refine j_istore_n (lv' := [(3, .int y42), (2, .int y41), (0, .ref a_this), (1, .int (nI (16 + k29_3)))]) X dX12_mix_53 (by decide) rfl (q := 54) rfl ?_
              refine j_aload_n X 2 dX12_mix_54 rfl (q := 55) rfl ?_
              refine j_get (f := 51) X 0 inT12 rfl rfl (by decide) mw_X12_mix_3 rfl dX12_mix_55 (q := 58) rfl ?_
              refine j_iload_n X 3 dX12_mix_58 rfl (q := 59) rfl ?_
              refine j_aload_n X 2 dX12_mix_59 rfl (q := 60) rfl ?_
              refine j_get (f := 51) X 0 inT12 rfl rfl (by decide) mw_X12_mix_3 rfl dX12_mix_60 (q := 63) rfl ?_
              refine j_iload_n X 3 dX12_mix_63 rfl (q := 64) rfl ?_
              refine j_bipush (v := nI 16) X dX12_mix_64 (by decide) (q := 66) rfl ?_
              refine j_isub X dX12_mix_66 (q := 67) rfl ?_
              refine j_eqi (pk_sub (by omega)) ?_
              refine k_iald X 4 rfl (vp_in_nI (by omega) (by omega)) (nI_clamp (by omega)) dX12_mix_67 (q := 68) rfl ?_
              refine j_iload_n X 1 dX12_mix_68 rfl (q := 69) rfl ?_
              refine j_bipush (v := nI 7) X dX12_mix_69 (by decide) (q := 71) rfl ?_
              refine j_callSi (As := [.int y41, .int (nI 7)]) (rest := [.int (t29_3 ((16 + k29_3) - 16)), .int (nI (16 + k29_3)), .ref (ad 51)]) (wn := (fun u43 => [(a_this, .inr (12, mfs ad v_thrown v_connections (nI v_size) (nI v_ids) (nI v_dataAll) (nI v_putCount) (nI v_waiting) (nI v_readSize) v_power v_left v_since v_changes (nI v_rowSize))), (ad 50, .inl (ct 0, 8, .inl f_state8)), (ad 52, .inl (ct 0, 8, .inl t2_1)), (ad 53, .inl (ct 0, 64, .inl f_roots)), (ad 51, .inl (ct 0, 64, .inl t29_3))])) (wr := [(a_this, .inr (12, mfs ad v_thrown v_connections (nI v_size) (nI v_ids) (nI v_dataAll) (nI v_putCount) (nI v_waiting) (nI v_readSize) v_power v_left v_since v_changes (nI v_rowSize))), (ad 50, .inl (ct 0, 8, .inl f_state8)), (ad 52, .inl (ct 0, 8, .inl t2_1)), (ad 53, .inl (ct 0, 64, .inl f_roots)), (ad 51, .inl (ct 0, 64, .inl t29_3))]) X (fun sz => c_X12_turn l D ct ts y41 7 (by first | omega | assumption) sz) cal_X12_turn mw_X12_mix_4 cwt_X12_turn rfl ⟨by decide, by decide⟩ rfl rfl (Nat.le_of_ble_eq_true rfl) ⟨by decide, by decide⟩ [] [0, 1, 2, 3, 4] [0, 1, 2, 3, 4] rfl (by decide) rfl (by decide) (by decide) (fun _ => rfl) (by decide) dX12_mix_71 (q := 74) rfl (fun r44 u43 hu43 => ?_)
              have hu43 : r44 = f_X12_turn y41 7 := hu43
              subst hu43
              refine j_iload_n X 1 dX12_mix_74 rfl (q := 75) rfl ?_
              refine j_bipush (v := nI 18) X dX12_mix_75 (by decide) (q := 77) rfl ?_
              refine j_callSi (As := [.int y41, .int (nI 18)]) (rest := [.int (f_X12_turn y41 7), .int (t29_3 ((16 + k29_3) - 16)), .int (nI (16 + k29_3)), .ref (ad 51)]) (wn := (fun u46 => [(a_this, .inr (12, mfs ad v_thrown v_connections (nI v_size) (nI v_ids) (nI v_dataAll) (nI v_putCount) (nI v_waiting) (nI v_readSize) v_power v_left v_since v_changes (nI v_rowSize))), (ad 50, .inl (ct 0, 8, .inl f_state8)), (ad 52, .inl (ct 0, 8, .inl t2_1)), (ad 53, .inl (ct 0, 64, .inl f_roots)), (ad 51, .inl (ct 0, 64, .inl t29_3))])) (wr := [(a_this, .inr (12, mfs ad v_thrown v_connections (nI v_size) (nI v_ids) (nI v_dataAll) (nI v_putCount) (nI v_waiting) (nI v_readSize) v_power v_left v_since v_changes (nI v_rowSize))), (ad 50, .inl (ct 0, 8, .inl f_state8)), (ad 52, .inl (ct 0, 8, .inl t2_1)), (ad 53, .inl (ct 0, 64, .inl f_roots)), (ad 51, .inl (ct 0, 64, .inl t29_3))]) X (fun sz => c_X12_turn l D ct ts y41 18 (by first | omega | assumption) sz) cal_X12_turn mw_X12_mix_4 cwt_X12_turn rfl ⟨by decide, by decide⟩ rfl rfl (Nat.le_of_ble_eq_true rfl) ⟨by decide, by decide⟩ [] [0, 1, 2, 3, 4] [0, 1, 2, 3, 4] rfl (by decide) rfl (by decide) (by decide) (fun _ => rfl) (by decide) dX12_mix_77 (q := 80) rfl (fun r47 u46 hu46 => ?_)
              have hu46 : r47 = f_X12_turn y41 18 := hu46
              subst hu46
              refine j_ixor X dX12_mix_80 (q := 81) rfl ?_
              refine j_iload_n X 1 dX12_mix_81 rfl (q := 82) rfl ?_
              refine j_iconst (v := nI 3) X dX12_mix_82 (by decide) (q := 83) rfl ?_
              refine j_iushr X dX12_mix_83 (q := 84) rfl ?_
              refine j_eqi (show _ = ur32 y41 3 from rfl) ?_
              refine j_ixor X dX12_mix_84 (q := 85) rfl ?_
              refine j_iadd X dX12_mix_85 (q := 86) rfl ?_
              refine j_aload_n X 2 dX12_mix_86 rfl (q := 87) rfl ?_
              refine j_get (f := 51) X 0 inT12 rfl rfl (by decide) mw_X12_mix_3 rfl dX12_mix_87 (q := 90) rfl ?_
              refine j_iload_n X 3 dX12_mix_90 rfl (q := 91) rfl ?_
              refine j_bipush (v := nI 7) X dX12_mix_91 (by decide) (q := 93) rfl ?_
              refine j_isub X dX12_mix_93 (q := 94) rfl ?_
              refine j_eqi (pk_sub (by omega)) ?_
              refine k_iald X 4 rfl (vp_in_nI (by omega) (by omega)) (nI_clamp (by omega)) dX12_mix_94 (q := 95) rfl ?_
              refine j_iadd X dX12_mix_95 (q := 96) rfl ?_
              refine j_iload_n X 0 dX12_mix_96 rfl (q := 97) rfl ?_
              refine j_bipush (v := nI 17) X dX12_mix_97 (by decide) (q := 99) rfl ?_
              refine j_callSi (As := [.int y42, .int (nI 17)]) (rest := [.int (((t29_3 ((16 + k29_3) - 16)) + (((f_X12_turn y41 7) ^^^ (f_X12_turn y41 18)) ^^^ (ur32 y41 3))) + (t29_3 ((16 + k29_3) - 7))), .int (nI (16 + k29_3)), .ref (ad 51)]) (wn := (fun u49 => [(a_this, .inr (12, mfs ad v_thrown v_connections (nI v_size) (nI v_ids) (nI v_dataAll) (nI v_putCount) (nI v_waiting) (nI v_readSize) v_power v_left v_since v_changes (nI v_rowSize))), (ad 50, .inl (ct 0, 8, .inl f_state8)), (ad 52, .inl (ct 0, 8, .inl t2_1)), (ad 53, .inl (ct 0, 64, .inl f_roots)), (ad 51, .inl (ct 0, 64, .inl t29_3))])) (wr := [(a_this, .inr (12, mfs ad v_thrown v_connections (nI v_size) (nI v_ids) (nI v_dataAll) (nI v_putCount) (nI v_waiting) (nI v_readSize) v_power v_left v_since v_changes (nI v_rowSize))), (ad 50, .inl (ct 0, 8, .inl f_state8)), (ad 52, .inl (ct 0, 8, .inl t2_1)), (ad 53, .inl (ct 0, 64, .inl f_roots)), (ad 51, .inl (ct 0, 64, .inl t29_3))]) X (fun sz => c_X12_turn l D ct ts y42 17 (by first | omega | assumption) sz) cal_X12_turn mw_X12_mix_4 cwt_X12_turn rfl ⟨by decide, by decide⟩ rfl rfl (Nat.le_of_ble_eq_true rfl) ⟨by decide, by decide⟩ [] [0, 1, 2, 3, 4] [0, 1, 2, 3, 4] rfl (by decide) rfl (by decide) (by decide) (fun _ => rfl) (by decide) dX12_mix_99 (q := 102) rfl (fun r50 u49 hu49 => ?_)
              have hu49 : r50 = f_X12_turn y42 17 := hu49
              subst hu49
              refine j_iload_n X 0 dX12_mix_102 rfl (q := 103) rfl ?_
              refine j_bipush (v := nI 19) X dX12_mix_103 (by decide) (q := 105) rfl ?_
              refine j_callSi (As := [.int y42, .int (nI 19)]) (rest := [.int (f_X12_turn y42 17), .int (((t29_3 ((16 + k29_3) - 16)) + (((f_X12_turn y41 7) ^^^ (f_X12_turn y41 18)) ^^^ (ur32 y41 3))) + (t29_3 ((16 + k29_3) - 7))), .int (nI (16 + k29_3)), .ref (ad 51)]) (wn := (fun u52 => [(a_this, .inr (12, mfs ad v_thrown v_connections (nI v_size) (nI v_ids) (nI v_dataAll) (nI v_putCount) (nI v_waiting) (nI v_readSize) v_power v_left v_since v_changes (nI v_rowSize))), (ad 50, .inl (ct 0, 8, .inl f_state8)), (ad 52, .inl (ct 0, 8, .inl t2_1)), (ad 53, .inl (ct 0, 64, .inl f_roots)), (ad 51, .inl (ct 0, 64, .inl t29_3))])) (wr := [(a_this, .inr (12, mfs ad v_thrown v_connections (nI v_size) (nI v_ids) (nI v_dataAll) (nI v_putCount) (nI v_waiting) (nI v_readSize) v_power v_left v_since v_changes (nI v_rowSize))), (ad 50, .inl (ct 0, 8, .inl f_state8)), (ad 52, .inl (ct 0, 8, .inl t2_1)), (ad 53, .inl (ct 0, 64, .inl f_roots)), (ad 51, .inl (ct 0, 64, .inl t29_3))]) X (fun sz => c_X12_turn l D ct ts y42 19 (by first | omega | assumption) sz) cal_X12_turn mw_X12_mix_4 cwt_X12_turn rfl ⟨by decide, by decide⟩ rfl rfl (Nat.le_of_ble_eq_true rfl) ⟨by decide, by decide⟩ [] [0, 1, 2, 3, 4] [0, 1, 2, 3, 4] rfl (by decide) rfl (by decide) (by decide) (fun _ => rfl) (by decide) dX12_mix_105 (q := 108) rfl (fun r53 u52 hu52 => ?_)
              have hu52 : r53 = f_X12_turn y42 19 := hu52
              subst hu52
              refine j_ixor X dX12_mix_108 (q := 109) rfl ?_
              refine j_iload_n X 0 dX12_mix_109 rfl (q := 110) rfl ?_
              refine j_bipush (v := nI 10) X dX12_mix_110 (by decide) (q := 112) rfl ?_
              refine j_iushr X dX12_mix_112 (q := 113) rfl ?_
              refine j_eqi (show _ = ur32 y42 10 from rfl) ?_
              refine j_ixor X dX12_mix_113 (q := 114) rfl ?_
              refine j_iadd X dX12_mix_114 (q := 115) rfl ?_
              refine j_topi (fun y55 e_y55 => ?_)
              refine k_iast (ws2 := [(a_this, .inr (12, mfs ad v_thrown v_connections (nI v_size) (nI v_ids) (nI v_dataAll) (nI v_putCount) (nI v_waiting) (nI v_readSize) v_power v_left v_since v_changes (nI v_rowSize))), (ad 50, .inl (ct 0, 8, .inl f_state8)), (ad 52, .inl (ct 0, 8, .inl t2_1)), (ad 53, .inl (ct 0, 64, .inl f_roots)), (ad 51, .inl (ct 0, 64, .inl (upd t29_3 (16 + k29_3) y55)))]) X 4 rfl (vp_in_nI (by omega) (by omega)) (nI_clamp (by omega)) dX12_mix_115 rfl (q := 116) rfl ?_
              refine j_iinc (v := nI (16 + k29_3 + 1)) (lv' := [(1, .int (nI (16 + k29_3 + 1))), (3, .int y42), (2, .int y41), (0, .ref a_this)]) X 3 dX12_mix_116 rfl (nI_inc _ 1) (by decide) rfl (q := 119) rfl ?_
              refine j_goto (tgt := 29) X dX12_mix_119 (by decide) ?_
              refine j_lv (lv' := [(0, .ref a_this), (1, .int (nI (16 + k29_3 + 1)))]) [3, 0] rfl ?_
              have hb : X12_mix_l29 k29_3 t29_3 = upd t29_3 (16 + k29_3) y55 := (by subst e_y41; subst e_y42; subst e_y55; rfl)
              exact ih29_3 (k29_3 + 1) (upd t29_3 (16 + k29_3) y55) (by omega) (by rw [itr_s, ← e_t29_3]; exact hb.symm) 
        exact LP29_3 48 0 f_w (by omega) (itr_0 _ _).symm 
      · skip
        have c2 : ¬ 8 ≤ 8 := fun h => c2 ((nI_leI (a := 8) (b := 8) (by omega) (by omega)).mpr h)
        exfalso; omega
    | succ r2_1 ih2_1 =>
      intro k2_1 t2_1 hk_t2_1 e_t2_1 
      refine j_iload_n X 1 dX12_mix_2 rfl (q := 3) rfl ?_
      refine j_bipush (v := nI 8) X dX12_mix_3 (by decide) (q := 5) rfl ?_
      refine j_icmp_ge (tgt := 26) X dX12_mix_5 (by decide) (q := 8) rfl (fun c56 => ?_) (fun c56 => ?_)
      · skip
        have c56 : 8 ≤ k2_1 := (nI_leI (a := 8) (b := k2_1) (by omega) (by omega)).mp c56
        exfalso; omega
      · skip
        have c56 : ¬ 8 ≤ k2_1 := fun h => c56 ((nI_leI (a := 8) (b := k2_1) (by omega) (by omega)).mpr h)
        refine j_aload_n X 0 dX12_mix_8 rfl (q := 9) rfl ?_
        refine j_get (f := 52) X 0 inT12 rfl rfl (by decide) mw_X12_mix_1 rfl dX12_mix_9 (q := 12) rfl ?_
        refine j_iload_n X 1 dX12_mix_12 rfl (q := 13) rfl ?_
        refine j_aload_n X 0 dX12_mix_13 rfl (q := 14) rfl ?_
        refine j_get (f := 50) X 0 inT12 rfl rfl (by decide) mw_X12_mix_0 rfl dX12_mix_14 (q := 17) rfl ?_
        refine j_iload_n X 1 dX12_mix_17 rfl (q := 18) rfl ?_
        refine k_iald X 1 rfl (vp_in_nI (by omega) (by omega)) (nI_clamp (by omega)) dX12_mix_18 (q := 19) rfl ?_
        refine j_topi (fun y57 e_y57 => ?_)
        refine k_iast (ws2 := [(a_this, .inr (12, mfs ad v_thrown v_connections (nI v_size) (nI v_ids) (nI v_dataAll) (nI v_putCount) (nI v_waiting) (nI v_readSize) v_power v_left v_since v_changes (nI v_rowSize))), (ad 50, .inl (ct 0, 8, .inl f_state8)), (ad 52, .inl (ct 0, 8, .inl (upd t2_1 k2_1 y57))), (ad 53, .inl (ct 0, 64, .inl f_roots)), (ad 51, .inl (ct 0, 64, .inl f_w))]) X 2 rfl (vp_in_nI (by omega) (by omega)) (nI_clamp (by omega)) dX12_mix_19 rfl (q := 20) rfl ?_
        refine j_iinc (v := nI (k2_1 + 1)) (lv' := [(1, .int (nI (k2_1 + 1))), (0, .ref a_this)]) X 1 dX12_mix_20 rfl (nI_inc _ 1) (by decide) rfl (q := 23) rfl ?_
        refine j_goto (tgt := 2) X dX12_mix_23 (by decide) ?_
        refine j_lv (lv' := [(0, .ref a_this), (1, .int (nI (k2_1 + 1)))]) [1, 0] rfl ?_
        have hb : (X12_mix_l2 f_state8) k2_1 t2_1 = upd t2_1 k2_1 y57 := (by subst e_y57; rfl)
        exact ih2_1 (k2_1 + 1) (upd t2_1 k2_1 y57) (by omega) (by rw [itr_s, ← e_t2_1]; exact hb.symm) 
  exact LP2_1 8 0 f_begun (by omega) (itr_0 _ _).symm 
theorem cal_X12_mix : Cal yX12_mix cX12_mix 7 none 0 := ⟨tb_at 120 (by decide +kernel) (by decide +kernel), tb_at 1505 (by decide +kernel) (by decide +kernel), by decide +kernel, by decide +kernel, by decide +kernel⟩
theorem cwi_X12_mix : Cond.instanceMethod yX12_mix ∈ tb := tb_at 1504 (by decide +kernel) (by decide +kernel)
theorem cws_X12_mix : Cond.selects yX12_mix.cls yX12_mix yX12_mix ∈ tb := tb_at 54 (by decide +kernel) (by decide +kernel)
theorem mw_X12_addByte_0 : Cond.fieldLink "GuardedTreeModel" 127 "GuardedTreeModel" "row" "[B" ∈ tb := tb_at 1284 (by decide +kernel) (by decide +kernel)
theorem mw_X12_addByte_1 : Cond.fieldLink "GuardedTreeModel" 319 "GuardedTreeModel" "rowSize" "I" ∈ tb := tb_at 1285 (by decide +kernel) (by decide +kernel)
theorem dX12_addByte_0 : decode cX12_addByte 0 = .ok (.aload_n 0, 1) := by decide +kernel
theorem dX12_addByte_1 : decode cX12_addByte 1 = .ok (.getfield 127, 3) := by decide +kernel
theorem dX12_addByte_4 : decode cX12_addByte 4 = .ok (.aload_n 0, 1) := by decide +kernel
theorem dX12_addByte_5 : decode cX12_addByte 5 = .ok (.getfield 319, 3) := by decide +kernel
theorem dX12_addByte_8 : decode cX12_addByte 8 = .ok (.iload_n 1, 1) := by decide +kernel
theorem dX12_addByte_9 : decode cX12_addByte 9 = .ok (.i2b, 1) := by decide +kernel
theorem dX12_addByte_10 : decode cX12_addByte 10 = .ok (.bastore, 1) := by decide +kernel
theorem dX12_addByte_11 : decode cX12_addByte 11 = .ok (.aload_n 0, 1) := by decide +kernel
theorem dX12_addByte_12 : decode cX12_addByte 12 = .ok (.dup, 1) := by decide +kernel
theorem dX12_addByte_13 : decode cX12_addByte 13 = .ok (.getfield 319, 3) := by decide +kernel
theorem dX12_addByte_16 : decode cX12_addByte 16 = .ok (.iconst 1, 1) := by decide +kernel
theorem dX12_addByte_17 : decode cX12_addByte 17 = .ok (.iadd, 1) := by decide +kernel
theorem dX12_addByte_18 : decode cX12_addByte 18 = .ok (.putfield 319, 3) := by decide +kernel
theorem dX12_addByte_21 : decode cX12_addByte 21 = .ok (.return_, 1) := by decide +kernel
noncomputable def f_X12_addByte (v_rowSize : Nat) (f_row : Nat → Int32) (x1 : Int32) : (Nat) × (Nat → Int32) :=
  let n1 := v_rowSize + 1
  (n1, upd f_row v_rowSize (b8 x1))
set_option maxHeartbeats 4000000 in
set_option maxRecDepth 100000 in
theorem c_X12_addByte (l : Launch) (D : va_G) (ct : Nat → ClassId) (ts : Nat → Nat) (a_this : Nat) (ad : Nat → Nat) (v_thrown : Int32) (v_connections : Int32) (v_size : Nat) (v_ids : Nat) (v_dataAll : Nat) (v_putCount : Nat) (v_waiting : Nat) (v_readSize : Nat) (v_power : Int32) (v_left : Int32) (v_since : Int32) (v_changes : Int32) (v_rowSize : Nat) (f_row : Nat → Int32) (x1 : Int32)  (h_r : v_rowSize < 800)  (sz : Nat) : Met l yX12_addByte (Cond.code yX12_addByte cX12_addByte 2 none :: tb) { frames := 0, cells := 0, slots := 0, locals := 0 } (PcG D ct SXL ts [.ref a_this, .int x1] [(a_this, .inr (12, mfs ad v_thrown v_connections (nI v_size) (nI v_ids) (nI v_dataAll) (nI v_putCount) (nI v_waiting) (nI v_readSize) v_power v_left v_since v_changes (nI v_rowSize))), (ad 47, .inl (ct 1, 800, .inl f_row))] sz) (va_Qv (fun u : (Nat) × (Nat → Int32) => u = f_X12_addByte v_rowSize f_row x1) (fun u => BG D ct (va_A [(a_this, .inr (12, mfs ad v_thrown v_connections (nI v_size) (nI v_ids) (nI v_dataAll) (nI v_putCount) (nI v_waiting) (nI v_readSize) v_power v_left v_since v_changes (nI v_rowSize))), (ad 47, .inl (ct 1, 800, .inl f_row))] sz) [(a_this, .inr (12, mfs ad v_thrown v_connections (nI v_size) (nI v_ids) (nI v_dataAll) (nI v_putCount) (nI v_waiting) (nI v_readSize) v_power v_left v_since v_changes (nI u.1))), (ad 47, .inl (ct 1, 800, .inl u.2))]) (va_A [(a_this, .inr (12, mfs ad v_thrown v_connections (nI v_size) (nI v_ids) (nI v_dataAll) (nI v_putCount) (nI v_waiting) (nI v_readSize) v_power v_left v_since v_changes (nI v_rowSize))), (ad 47, .inl (ct 1, 800, .inl f_row))] sz)) 0 0 (va_A [(a_this, .inr (12, mfs ad v_thrown v_connections (nI v_size) (nI v_ids) (nI v_dataAll) (nI v_putCount) (nI v_waiting) (nI v_readSize) v_power v_left v_since v_changes (nI v_rowSize))), (ad 47, .inl (ct 1, 800, .inl f_row))] sz) := by
  refine metJ (QcF := fun A => va_Qv (fun u : (Nat) × (Nat → Int32) => u = f_X12_addByte v_rowSize f_row x1) (fun u => BG D ct A [(a_this, .inr (12, mfs ad v_thrown v_connections (nI v_size) (nI v_ids) (nI v_dataAll) (nI v_putCount) (nI v_waiting) (nI v_readSize) v_power v_left v_since v_changes (nI u.1))), (ad 47, .inl (ct 1, 800, .inl u.2))]) A) (by decide) (Nat.le_of_ble_eq_true rfl) ?_
  intro p e s m below meth c A X hnm
  obtain ⟨Q, hQ⟩ : ∃ Q, Q = MQ below (va_Qv (fun u : (Nat) × (Nat → Int32) => u = f_X12_addByte v_rowSize f_row x1) (fun u => BG D ct A [(a_this, .inr (12, mfs ad v_thrown v_connections (nI v_size) (nI v_ids) (nI v_dataAll) (nI v_putCount) (nI v_waiting) (nI v_readSize) v_power v_left v_since v_changes (nI u.1))), (ad 47, .inl (ct 1, 800, .inl u.2))]) A) [.ref a_this, .int x1].toArray s 0 0 A := ⟨_, rfl⟩
  rw [← hQ]
  refine j_lve (lv' := [(0, .ref a_this), (1, .int x1)]) rfl ?_
  refine j_aload_n X 0 dX12_addByte_0 rfl (q := 1) rfl ?_
  refine j_get (f := 47) X 0 inT12 rfl rfl (by decide) mw_X12_addByte_0 rfl dX12_addByte_1 (q := 4) rfl ?_
  refine j_aload_n X 0 dX12_addByte_4 rfl (q := 5) rfl ?_
  refine j_get (f := 48) X 0 inT12 rfl rfl (by decide) mw_X12_addByte_1 rfl dX12_addByte_5 (q := 8) rfl ?_
  refine j_iload_n X 1 dX12_addByte_8 rfl (q := 9) rfl ?_
  refine j_i2b X dX12_addByte_9 (q := 10) rfl ?_
  refine j_eqi (show _ = b8 x1 from rfl) ?_
  refine k_bast (ws2 := [(a_this, .inr (12, mfs ad v_thrown v_connections (nI v_size) (nI v_ids) (nI v_dataAll) (nI v_putCount) (nI v_waiting) (nI v_readSize) v_power v_left v_since v_changes (nI v_rowSize))), (ad 47, .inl (ct 1, 800, .inl (upd f_row v_rowSize (b8 x1))))]) X 1 rfl (vp_in_nI (by omega) (by omega)) (nI_clamp (by omega)) (pk_vb _) dX12_addByte_10 rfl (q := 11) rfl ?_
  refine j_aload_n X 0 dX12_addByte_11 rfl (q := 12) rfl ?_
  refine j_dup X dX12_addByte_12 rfl (q := 13) rfl ?_
  refine j_get (f := 48) X 0 inT12 rfl rfl (by decide) mw_X12_addByte_1 rfl dX12_addByte_13 (q := 16) rfl ?_
  refine j_iconst (v := nI 1) X dX12_addByte_16 (by decide) (q := 17) rfl ?_
  refine j_iadd X dX12_addByte_17 (q := 18) rfl ?_
  refine j_eqi (nI_add _ _) ?_
  refine j_topn (fun n1 e_n1 => ?_)
  refine j_put (f := 48) (ws2 := [(a_this, .inr (12, mfs ad v_thrown v_connections (nI v_size) (nI v_ids) (nI v_dataAll) (nI v_putCount) (nI v_waiting) (nI v_readSize) v_power v_left v_since v_changes (nI n1))), (ad 47, .inl (ct 1, 800, .inl (upd f_row v_rowSize (b8 x1))))]) (ty := .int) X 0 inT12 tyX12_ok nmX12 rfl rfl (by decide) mw_X12_addByte_1 rfl rfl rfl rfl (Nat.le_of_ble_eq_true rfl) dX12_addByte_18 rfl (q := 21) rfl ?_
  rw [hQ]
  exact j_vret X ((n1, upd f_row v_rowSize (b8 x1))) dX12_addByte_21 (by subst e_n1; rfl) rfl
theorem cal_X12_addByte : Cal yX12_addByte cX12_addByte 2 none 1 := ⟨tb_at 120 (by decide +kernel) (by decide +kernel), tb_at 1497 (by decide +kernel) (by decide +kernel), by decide +kernel, by decide +kernel, by decide +kernel⟩
theorem cwi_X12_addByte : Cond.instanceMethod yX12_addByte ∈ tb := tb_at 1496 (by decide +kernel) (by decide +kernel)
theorem cws_X12_addByte : Cond.selects yX12_addByte.cls yX12_addByte yX12_addByte ∈ tb := tb_at 52 (by decide +kernel) (by decide +kernel)
theorem mw_X12_addWord_0 : Cond.methodLink "GuardedTreeModel" 322 yX12_addByte ∈ tb := tb_at 1494 (by decide +kernel) (by decide +kernel)
theorem dX12_addWord_0 : decode cX12_addWord 0 = .ok (.bipush 24, 2) := by decide +kernel
theorem dX12_addWord_2 : decode cX12_addWord 2 = .ok (.istore_n 2, 1) := by decide +kernel
theorem dX12_addWord_3 : decode cX12_addWord 3 = .ok (.iload_n 2, 1) := by decide +kernel
theorem dX12_addWord_4 : decode cX12_addWord 4 = .ok (.ifCond .lt 16, 3) := by decide +kernel
theorem dX12_addWord_7 : decode cX12_addWord 7 = .ok (.aload_n 0, 1) := by decide +kernel
theorem dX12_addWord_8 : decode cX12_addWord 8 = .ok (.iload_n 1, 1) := by decide +kernel
theorem dX12_addWord_9 : decode cX12_addWord 9 = .ok (.iload_n 2, 1) := by decide +kernel
theorem dX12_addWord_10 : decode cX12_addWord 10 = .ok (.ishr, 1) := by decide +kernel
theorem dX12_addWord_11 : decode cX12_addWord 11 = .ok (.invokevirtual 322, 3) := by decide +kernel
theorem dX12_addWord_14 : decode cX12_addWord 14 = .ok (.iinc 2 (-8), 3) := by decide +kernel
theorem dX12_addWord_17 : decode cX12_addWord 17 = .ok (.goto (-14), 3) := by decide +kernel
theorem dX12_addWord_20 : decode cX12_addWord 20 = .ok (.return_, 1) := by decide +kernel
noncomputable def X12_addWord_l3 (x1 : Int32) (r3_1 : Nat) (t3_1 : (Nat → Int32) × (Nat)) : (Nat → Int32) × (Nat) :=
  let u4 := f_X12_addByte t3_1.2 t3_1.1 (sr32 x1 (8 * r3_1))
  (u4.2, u4.1)
noncomputable def f_X12_addWord (v_rowSize : Nat) (f_row : Nat → Int32) (x1 : Int32) : (Nat) × (Nat → Int32) :=
  let t3_1 := itd (X12_addWord_l3 x1) 4 ((f_row, v_rowSize))
  (t3_1.2, t3_1.1)
set_option maxHeartbeats 4000000 in
set_option maxRecDepth 100000 in
theorem c_X12_addWord (l : Launch) (D : va_G) (ct : Nat → ClassId) (ts : Nat → Nat) (a_this : Nat) (ad : Nat → Nat) (v_thrown : Int32) (v_connections : Int32) (v_size : Nat) (v_ids : Nat) (v_dataAll : Nat) (v_putCount : Nat) (v_waiting : Nat) (v_readSize : Nat) (v_power : Int32) (v_left : Int32) (v_since : Int32) (v_changes : Int32) (v_rowSize : Nat) (f_row : Nat → Int32) (x1 : Int32)  (h_r : v_rowSize < 790)  (sz : Nat) : Met l yX12_addWord (Cond.code yX12_addWord cX12_addWord 3 none :: tb) { frames := 1, cells := 0, slots := 0, locals := 21 } (PcG D ct SXL ts [.ref a_this, .int x1] [(a_this, .inr (12, mfs ad v_thrown v_connections (nI v_size) (nI v_ids) (nI v_dataAll) (nI v_putCount) (nI v_waiting) (nI v_readSize) v_power v_left v_since v_changes (nI v_rowSize))), (ad 47, .inl (ct 1, 800, .inl f_row))] sz) (va_Qv (fun u : (Nat) × (Nat → Int32) => u = f_X12_addWord v_rowSize f_row x1) (fun u => BG D ct (va_A [(a_this, .inr (12, mfs ad v_thrown v_connections (nI v_size) (nI v_ids) (nI v_dataAll) (nI v_putCount) (nI v_waiting) (nI v_readSize) v_power v_left v_since v_changes (nI v_rowSize))), (ad 47, .inl (ct 1, 800, .inl f_row))] sz) [(a_this, .inr (12, mfs ad v_thrown v_connections (nI v_size) (nI v_ids) (nI v_dataAll) (nI v_putCount) (nI v_waiting) (nI v_readSize) v_power v_left v_since v_changes (nI u.1))), (ad 47, .inl (ct 1, 800, .inl u.2))]) (va_A [(a_this, .inr (12, mfs ad v_thrown v_connections (nI v_size) (nI v_ids) (nI v_dataAll) (nI v_putCount) (nI v_waiting) (nI v_readSize) v_power v_left v_since v_changes (nI v_rowSize))), (ad 47, .inl (ct 1, 800, .inl f_row))] sz)) 0 0 (va_A [(a_this, .inr (12, mfs ad v_thrown v_connections (nI v_size) (nI v_ids) (nI v_dataAll) (nI v_putCount) (nI v_waiting) (nI v_readSize) v_power v_left v_since v_changes (nI v_rowSize))), (ad 47, .inl (ct 1, 800, .inl f_row))] sz) := by
  refine metJ (QcF := fun A => va_Qv (fun u : (Nat) × (Nat → Int32) => u = f_X12_addWord v_rowSize f_row x1) (fun u => BG D ct A [(a_this, .inr (12, mfs ad v_thrown v_connections (nI v_size) (nI v_ids) (nI v_dataAll) (nI v_putCount) (nI v_waiting) (nI v_readSize) v_power v_left v_since v_changes (nI u.1))), (ad 47, .inl (ct 1, 800, .inl u.2))]) A) (by decide) (Nat.le_of_ble_eq_true rfl) ?_
  intro p e s m below meth c A X hnm
  obtain ⟨Q, hQ⟩ : ∃ Q, Q = MQ below (va_Qv (fun u : (Nat) × (Nat → Int32) => u = f_X12_addWord v_rowSize f_row x1) (fun u => BG D ct A [(a_this, .inr (12, mfs ad v_thrown v_connections (nI v_size) (nI v_ids) (nI v_dataAll) (nI v_putCount) (nI v_waiting) (nI v_readSize) v_power v_left v_since v_changes (nI u.1))), (ad 47, .inl (ct 1, 800, .inl u.2))]) A) [.ref a_this, .int x1].toArray s 0 0 A := ⟨_, rfl⟩
  rw [← hQ]
  refine j_lve (lv' := [(0, .ref a_this), (1, .int x1)]) rfl ?_
  refine j_bipush (v := nI 24) X dX12_addWord_0 (by decide) (q := 2) rfl ?_
  refine j_istore_n (lv' := [(2, .int (nI 24)), (0, .ref a_this), (1, .int x1)]) X dX12_addWord_2 (by decide) rfl (q := 3) rfl ?_
  refine j_lv (lv' := [(0, .ref a_this), (1, .int x1), (2, .int (nI 24))]) [1, 2, 0] rfl ?_
  have LP3_1 : ∀ (r3_1 : Nat) (t3_1 : (Nat → Int32) × (Nat)), r3_1 ≤ 4 → itd (X12_addWord_l3 x1) 4 ((f_row, v_rowSize)) = itd (X12_addWord_l3 x1) r3_1 t3_1 → (t3_1.2 + r3_1 = v_rowSize + 4) → J p l e { frames := 1, cells := 0, slots := 0, locals := 21 } s m [.ref a_this, .int x1].toArray below meth c D A 3 Q 0 0 [(a_this, .inr (12, mfs ad v_thrown v_connections (nI v_size) (nI v_ids) (nI v_dataAll) (nI v_putCount) (nI v_waiting) (nI v_readSize) v_power v_left v_since v_changes (nI t3_1.2))), (ad 47, .inl (ct 1, 800, .inl t3_1.1))] [(0, .ref a_this), (1, .int x1), (2, .int (dns 8 r3_1))] [] 3 := by
    intro r3_1
    induction r3_1 with
    | zero =>
      intro t3_1 hk_t3_1 e0_t3_1 hi0_t3_1
      have e_t3_1 : t3_1 = itd (X12_addWord_l3 x1) 4 ((f_row, v_rowSize)) := (e0_t3_1.trans (itd_0 _ _)).symm
      refine j_iload_n X 2 dX12_addWord_3 rfl (q := 4) rfl ?_
      refine j_if_lt (tgt := 20) X dX12_addWord_4 (by decide) (q := 7) rfl (fun c2 => ?_) (fun c2 => ?_)
      · skip
        rw [hQ]
        exact j_vret X ((t3_1.2, t3_1.1)) dX12_addWord_20 (by subst e_t3_1; rfl) rfl
      · skip
        exact absurd (show dns 8 0 < 0 by decide) c2
    | succ r3_1 ih3_1 =>
      intro t3_1 hk_t3_1 e_t3_1 hi0_t3_1
      rw [dns_s]
      refine j_iload_n X 2 dX12_addWord_3 rfl (q := 4) rfl ?_
      refine j_if_lt (tgt := 20) X dX12_addWord_4 (by decide) (q := 7) rfl (fun c3 => ?_) (fun c3 => ?_)
      · skip
        have c3 : 8 * r3_1 < 0 := (nI_ltI (a := 8 * r3_1) (b := 0) (by omega) (by omega)).mp c3
        exfalso; omega
      · skip
        have c3 : ¬ 8 * r3_1 < 0 := fun h => c3 ((nI_ltI (a := 8 * r3_1) (b := 0) (by omega) (by omega)).mpr h)
        refine j_aload_n X 0 dX12_addWord_7 rfl (q := 8) rfl ?_
        refine j_iload_n X 1 dX12_addWord_8 rfl (q := 9) rfl ?_
        refine j_iload_n X 2 dX12_addWord_9 rfl (q := 10) rfl ?_
        refine j_ishr X dX12_addWord_10 (q := 11) rfl ?_
        refine j_eqi (show _ = sr32 x1 (8 * r3_1) from rfl) ?_
        refine j_callVv (As := [.int (sr32 x1 (8 * r3_1))]) (rest := []) (wn := (fun u4 => [(a_this, .inr (12, mfs ad v_thrown v_connections (nI v_size) (nI v_ids) (nI v_dataAll) (nI v_putCount) (nI v_waiting) (nI v_readSize) v_power v_left v_since v_changes (nI u4.1))), (ad 47, .inl (ct 1, 800, .inl u4.2))])) (wr := []) X (fun sz => c_X12_addByte l D ct ts a_this ad v_thrown v_connections v_size v_ids v_dataAll v_putCount v_waiting v_readSize v_power v_left v_since v_changes t3_1.2 t3_1.1 (sr32 x1 (8 * r3_1)) (by first | omega | assumption) sz) cal_X12_addByte 0 rfl rfl mw_X12_addWord_0 cwi_X12_addByte cws_X12_addByte rfl ⟨by decide, by decide⟩ rfl rfl (Nat.le_of_ble_eq_true rfl) ⟨by decide, by decide⟩ [0, 1] [] [0, 1] rfl (by decide) rfl (by decide) (by decide) (fun _ => rfl) (by decide) dX12_addWord_11 (q := 14) rfl (fun u4 hu4 => ?_)
        have hq_u4 : u4.1 = t3_1.2 + 1 := by rw [hu4]; rfl
        refine j_iinc (v := dns 8 r3_1) (lv' := [(2, .int (dns 8 r3_1)), (0, .ref a_this), (1, .int x1)]) X 2 dX12_addWord_14 rfl (dns_dec 8 _) (by decide) rfl (q := 17) rfl ?_
        refine j_goto (tgt := 3) X dX12_addWord_17 (by decide) ?_
        refine j_lv (lv' := [(0, .ref a_this), (1, .int x1), (2, .int (dns 8 r3_1))]) [1, 2, 0] rfl ?_
        have hb : (X12_addWord_l3 x1) r3_1 t3_1 = (u4.2, u4.1) := (by subst hu4; rfl)
        exact ih3_1 ((u4.2, u4.1)) (by omega) (by rw [e_t3_1, itd_s, hb]) (show u4.1 + r3_1 = v_rowSize + 4 from by omega)
  exact LP3_1 4 ((f_row, v_rowSize)) (by omega) rfl (show v_rowSize + 4 = v_rowSize + 4 from by omega)
theorem cal_X12_addWord : Cal yX12_addWord cX12_addWord 3 none 1 := ⟨tb_at 120 (by decide +kernel) (by decide +kernel), tb_at 1493 (by decide +kernel) (by decide +kernel), by decide +kernel, by decide +kernel, by decide +kernel⟩
theorem cwi_X12_addWord : Cond.instanceMethod yX12_addWord ∈ tb := tb_at 1492 (by decide +kernel) (by decide +kernel)
theorem cws_X12_addWord : Cond.selects yX12_addWord.cls yX12_addWord yX12_addWord ∈ tb := tb_at 51 (by decide +kernel) (by decide +kernel)
theorem row_word {n : Nat} {f : Nat → Int32} {x : Int32} : (f_X12_addWord n f x).1 = n + 4 := by
  show (itd (X12_addWord_l3 x) 4 _).2 = n + 4
  rw [itd_s, itd_s, itd_s, itd_s, itd_0]
  rfl

