/-- numbers of figures, each below 65536 -/
abbrev lI (z : Int) : Int64 := Int64.ofInt z
theorem lI_add (a b : Int) : lI a + lI b = lI (a + b) := (Int64.ofInt_add a b).symm
theorem lI_sub (a b : Int) : lI a - lI b = lI (a - b) := (Int64.ofInt_sub a b).symm
theorem lI_mul (a b : Int) : lI a * lI b = lI (a * b) := (Int64.ofInt_mul a b).symm
theorem lI_toInt {z : Int} (h0 : -2 ^ 63 ≤ z) (h1 : z < 2 ^ 63) : (lI z).toInt = z := Int64.toInt_ofInt_of_le h0 h1
theorem lI_and (z : Int) : lI z &&& 65535 = lI (z % 65536) := by
  apply Int64.toBitVec_inj.mp
  apply BitVec.eq_of_toNat_eq
  rw [Int64.toBitVec_and, BitVec.toNat_and]
  have e : (Int64.toBitVec 65535).toNat = 2 ^ 16 - 1 := rfl
  rw [e, Nat.and_two_pow_sub_one_eq_mod]
  show (Int64.ofInt z).toBitVec.toNat % 2 ^ 16 = (Int64.ofInt (z % 65536)).toBitVec.toNat
  rw [Int64.toBitVec_ofInt, Int64.toBitVec_ofInt, BitVec.toNat_ofInt, BitVec.toNat_ofInt]
  omega
theorem lI_shr {z : Int} (h0 : -2 ^ 63 ≤ z) (h1 : z < 2 ^ 63) : lI z >>> ((nI 16).toInt64 &&& 63) = lI (z / 65536) := by
  apply Int64.toInt_inj.mp
  rw [lI_toInt (z := z / 65536) (by omega) (by omega)]
  show ((Int64.ofInt z) >>> (16 : Int64)).toInt = _
  have : ((Int64.ofInt z) >>> (16 : Int64)).toBitVec = (Int64.ofInt z).toBitVec.sshiftRight 16 := by
    rw [Int64.toBitVec_shiftRight]; rfl
  rw [← Int64.toInt_toBitVec, this, BitVec.toInt_sshiftRight, Int64.toInt_toBitVec, Int64.toInt_ofInt_of_le h0 h1, Int.shiftRight_eq_div_pow]
  rfl
theorem lI_div {a b : Nat} (ha : a < 2 ^ 63) (hb : b < 2 ^ 63) (h0 : 0 < b) : lI (a : Int) / lI (b : Int) = lI ((a / b : Nat) : Int) := by
  apply Int64.toInt_inj.mp
  have hd : a / b ≤ a := Nat.div_le_self a b
  have hz : (0 : Int) ≤ ((a / b : Nat) : Int) := Int.natCast_nonneg _
  have hz2 : ((a / b : Nat) : Int) ≤ (a : Int) := by exact_mod_cast hd
  rw [lI_toInt (z := ((a / b : Nat) : Int)) (Int.le_trans (by decide) hz) (Int.lt_of_le_of_lt hz2 (by omega))]
  have h2 : (lI (b : Int)) ≠ -1 := by
    intro h
    have := congrArg Int64.toInt h
    rw [lI_toInt (by omega) (by omega)] at this
    have e : (-1 : Int64).toInt = -1 := rfl
    omega
  rw [Int64.toInt_div_of_ne_right _ _ h2, lI_toInt (by omega) (by omega), lI_toInt (by omega) (by omega)]
  rw [Int.tdiv_eq_ediv_of_nonneg (by omega)]
  rfl
theorem nI_lI {d : Nat} (h : d < 2 ^ 31) : (nI d).toInt64 = lI (d : Int) := by
  apply Int64.toInt_inj.mp
  rw [lI_toInt (by omega) (by omega), Int32.toInt_toInt64, nI_toInt h]
theorem lI_32 (d : Nat) : (lI (d : Int)).toInt32 = nI d := by
  rw [show lI (d : Int) = Int64.ofInt d from rfl, Int64.toInt32_ofInt]
  rfl
def dv (f : Nat → Int32) (k : Nat) : Nat := (f k).toNatClampNeg
def VV (f : Nat → Int32) : Nat → Nat
  | 0 => 0
  | n + 1 => VV f n + dv f n * 65536 ^ n
theorem VV_s (f : Nat → Int32) (n : Nat) : VV f (n + 1) = VV f n + dv f n * 65536 ^ n := rfl
abbrev DG (n : Nat) (f : Nat → Int32) : Prop := ∀ k, k < n → f k = nI (dv f k) ∧ dv f k < 65536
def FU : Nat := 65536 ^ 18
theorem dg_of {f : Nat → Int32} {k d : Nat} (h : f k = nI d) (hd : d < 65536) : f k = nI (dv f k) ∧ dv f k < 65536 := by
  have e : dv f k = d := by unfold dv; rw [h]; exact nI_clamp (by omega)
  rw [e]; exact ⟨h, hd⟩
theorem dv_nI {f : Nat → Int32} {k d : Nat} (h : f k = nI d) (hd : d < 65536) : dv f k = d := by
  unfold dv; rw [h]; exact nI_clamp (by omega)
theorem VV_congr {f g : Nat → Int32} : ∀ n, (∀ k, k < n → f k = g k) → VV f n = VV g n
  | 0, _ => rfl
  | n + 1, h => by
    unfold VV
    rw [VV_congr n (fun k hk => h k (by omega))]
    unfold dv
    rw [h n (by omega)]
theorem DG_congr {f g : Nat → Int32} {n : Nat} (h : ∀ k, k < n → f k = g k) (hg : DG n g) : DG n f := by
  intro k hk
  unfold dv
  rw [h k hk]
  exact hg k hk
theorem VV_lt {f : Nat → Int32} : ∀ n, DG n f → VV f n < 65536 ^ n
  | 0, _ => Nat.one_pos
  | n + 1, h => by
    have h1 := VV_lt n (fun k hk => h k (by omega))
    have h2 := (h n (by omega)).2
    unfold VV
    have h3 : (dv f n + 1) * 65536 ^ n ≤ 65536 * 65536 ^ n := Nat.mul_le_mul_right _ (by omega)
    rw [Nat.pow_succ, Nat.mul_comm _ 65536]
    rw [Nat.add_mul] at h3
    omega
theorem VV_put {f : Nat → Int32} {n j : Nat} {x : Int32} (h : n ≤ j) : VV (upd f j x) n = VV f n := VV_congr n (fun k hk => pk_un (by omega))
theorem VV_lo {f : Nat → Int32} {n k : Nat} (h : n ≤ k) : VV f n ≤ VV f k := by
  induction k with
  | zero => have : n = 0 := by omega
            subst this; exact Nat.le_refl _
  | succ k ih =>
    by_cases e : n = k + 1
    · subst e; exact Nat.le_refl _
    · exact Nat.le_trans (ih (by omega)) (Nat.le_add_right _ _)
theorem VV_shift {f g : Nat → Int32} (h : ∀ k, g (k + 1) = f k) : ∀ n, VV g (n + 1) = 65536 * VV f n + dv g 0
  | 0 => by simp [VV]
  | n + 1 => by
    rw [VV, VV_shift h n, VV]
    have e : dv g (n + 1) = dv f n := by unfold dv; rw [h]
    rw [e, Nat.pow_succ, Nat.mul_add]
    have : dv f n * (65536 ^ n * 65536) = 65536 * (dv f n * 65536 ^ n) := by rw [Nat.mul_comm (65536 ^ n), Nat.mul_left_comm]
    omega
/-- a number of sixteen figures with zeros above -/
def pd16 (mm : Nat → Int32) : Nat → Int32 := fun k => if 16 ≤ k then nI 0 else mm k
theorem pd_ge {mm : Nat → Int32} {k : Nat} (h : 16 ≤ k) : pd16 mm k = nI 0 := if_pos h
theorem pd_lt {mm : Nat → Int32} {k : Nat} (h : ¬ 16 ≤ k) : pd16 mm k = mm k := if_neg h
theorem pd_dg {mm : Nat → Int32} {n : Nat} (hm : DG 16 mm) : DG n (pd16 mm) := by
  intro k hk
  by_cases e : 16 ≤ k
  · exact dg_of (pd_ge e) (by decide)
  · have h1 := hm k (by omega)
    exact dg_of ((pd_lt e).trans h1.1) h1.2
theorem pd_VV {mm : Nat → Int32} : VV (pd16 mm) 18 = VV mm 16 := by
  have e : ∀ k, 16 ≤ k → dv (pd16 mm) k = 0 := fun k hk => by
    unfold dv
    rw [pd_ge hk]; rfl
  have h17 : VV (pd16 mm) 18 = VV (pd16 mm) 17 := by rw [VV_s (pd16 mm) 17, e 17 (by decide), Nat.zero_mul, Nat.add_zero]
  have h16 : VV (pd16 mm) 17 = VV (pd16 mm) 16 := by rw [VV_s (pd16 mm) 16, e 16 (by decide), Nat.zero_mul, Nat.add_zero]
  exact h17.trans (h16.trans (VV_congr 16 (fun k hk => pd_lt (by omega))))
theorem fig_lt {a b u v P : Nat} (hu : u < P) (h : a < b) : u + a * P < v + b * P := by
  have := Nat.mul_le_mul_right P h
  rw [Nat.succ_mul] at this
  omega
theorem mw_X12_remain_0 : Cond.fieldLink "GuardedTreeModel" 262 "GuardedTreeModel" "m" "[I" ∈ tb := tb_at 1306 (by decide +kernel) (by decide +kernel)
theorem mw_X12_remain_1 : Cond.constantLong "GuardedTreeModel" 343 65536 ∈ tb := tb_at 1235 (by decide +kernel) (by decide +kernel)
theorem mw_X12_remain_2 : Cond.fieldLink "GuardedTreeModel" 277 "GuardedTreeModel" "rest" "[I" ∈ tb := tb_at 1311 (by decide +kernel) (by decide +kernel)
theorem mw_X12_remain_3 : Cond.fieldLink "GuardedTreeModel" 274 "GuardedTreeModel" "product" "[I" ∈ tb := tb_at 1310 (by decide +kernel) (by decide +kernel)
theorem mw_X12_remain_4 : Cond.constantLong "GuardedTreeModel" 345 65535 ∈ tb := tb_at 1228 (by decide +kernel) (by decide +kernel)
theorem mw_X12_remain_5 : Cond.methodLink "GuardedTreeModel" 351 yX12_isLess ∈ tb := tb_at 1524 (by decide +kernel) (by decide +kernel)
theorem dX12_remain_0 : decode cX12_remain 0 = .ok (.bipush 15, 2) := by decide +kernel
theorem dX12_remain_2 : decode cX12_remain 2 = .ok (.istore_n 2, 1) := by decide +kernel
theorem dX12_remain_3 : decode cX12_remain 3 = .ok (.aload_n 0, 1) := by decide +kernel
theorem dX12_remain_4 : decode cX12_remain 4 = .ok (.getfield 262, 3) := by decide +kernel
theorem dX12_remain_7 : decode cX12_remain 7 = .ok (.iload_n 2, 1) := by decide +kernel
theorem dX12_remain_8 : decode cX12_remain 8 = .ok (.iaload, 1) := by decide +kernel
theorem dX12_remain_9 : decode cX12_remain 9 = .ok (.ifCond .ne 9, 3) := by decide +kernel
theorem dX12_remain_12 : decode cX12_remain 12 = .ok (.iinc 2 (-1), 3) := by decide +kernel
theorem dX12_remain_15 : decode cX12_remain 15 = .ok (.goto (-12), 3) := by decide +kernel
theorem dX12_remain_18 : decode cX12_remain 18 = .ok (.ldc2_w 343, 3) := by decide +kernel
theorem dX12_remain_21 : decode cX12_remain 21 = .ok (.aload_n 0, 1) := by decide +kernel
theorem dX12_remain_22 : decode cX12_remain 22 = .ok (.getfield 262, 3) := by decide +kernel
theorem dX12_remain_25 : decode cX12_remain 25 = .ok (.iload_n 2, 1) := by decide +kernel
theorem dX12_remain_26 : decode cX12_remain 26 = .ok (.iaload, 1) := by decide +kernel
theorem dX12_remain_27 : decode cX12_remain 27 = .ok (.i2l, 1) := by decide +kernel
theorem dX12_remain_28 : decode cX12_remain 28 = .ok (.lmul, 1) := by decide +kernel
theorem dX12_remain_29 : decode cX12_remain 29 = .ok (.iload_n 2, 1) := by decide +kernel
theorem dX12_remain_30 : decode cX12_remain 30 = .ok (.ifCond .le 14, 3) := by decide +kernel
theorem dX12_remain_33 : decode cX12_remain 33 = .ok (.aload_n 0, 1) := by decide +kernel
theorem dX12_remain_34 : decode cX12_remain 34 = .ok (.getfield 262, 3) := by decide +kernel
theorem dX12_remain_37 : decode cX12_remain 37 = .ok (.iload_n 2, 1) := by decide +kernel
theorem dX12_remain_38 : decode cX12_remain 38 = .ok (.iconst 1, 1) := by decide +kernel
theorem dX12_remain_39 : decode cX12_remain 39 = .ok (.isub, 1) := by decide +kernel
theorem dX12_remain_40 : decode cX12_remain 40 = .ok (.iaload, 1) := by decide +kernel
theorem dX12_remain_41 : decode cX12_remain 41 = .ok (.goto 4, 3) := by decide +kernel
theorem dX12_remain_44 : decode cX12_remain 44 = .ok (.iconst 0, 1) := by decide +kernel
theorem dX12_remain_45 : decode cX12_remain 45 = .ok (.i2l, 1) := by decide +kernel
theorem dX12_remain_46 : decode cX12_remain 46 = .ok (.ladd, 1) := by decide +kernel
theorem dX12_remain_47 : decode cX12_remain 47 = .ok (.lconst 1, 1) := by decide +kernel
theorem dX12_remain_48 : decode cX12_remain 48 = .ok (.ladd, 1) := by decide +kernel
theorem dX12_remain_49 : decode cX12_remain 49 = .ok (.lstore_n 3, 1) := by decide +kernel
theorem dX12_remain_50 : decode cX12_remain 50 = .ok (.iconst 0, 1) := by decide +kernel
theorem dX12_remain_51 : decode cX12_remain 51 = .ok (.istore 5, 2) := by decide +kernel
theorem dX12_remain_53 : decode cX12_remain 53 = .ok (.iload 5, 2) := by decide +kernel
theorem dX12_remain_55 : decode cX12_remain 55 = .ok (.bipush 18, 2) := by decide +kernel
theorem dX12_remain_57 : decode cX12_remain 57 = .ok (.if_icmp .ge 17, 3) := by decide +kernel
theorem dX12_remain_60 : decode cX12_remain 60 = .ok (.aload_n 0, 1) := by decide +kernel
theorem dX12_remain_61 : decode cX12_remain 61 = .ok (.getfield 277, 3) := by decide +kernel
theorem dX12_remain_64 : decode cX12_remain 64 = .ok (.iload 5, 2) := by decide +kernel
theorem dX12_remain_66 : decode cX12_remain 66 = .ok (.iconst 0, 1) := by decide +kernel
theorem dX12_remain_67 : decode cX12_remain 67 = .ok (.iastore, 1) := by decide +kernel
theorem dX12_remain_68 : decode cX12_remain 68 = .ok (.iinc 5 1, 3) := by decide +kernel
theorem dX12_remain_71 : decode cX12_remain 71 = .ok (.goto (-18), 3) := by decide +kernel
theorem dX12_remain_74 : decode cX12_remain 74 = .ok (.bipush 31, 2) := by decide +kernel
theorem dX12_remain_76 : decode cX12_remain 76 = .ok (.istore 5, 2) := by decide +kernel
theorem dX12_remain_78 : decode cX12_remain 78 = .ok (.iload 5, 2) := by decide +kernel
theorem dX12_remain_80 : decode cX12_remain 80 = .ok (.ifCond .lt 206, 3) := by decide +kernel
theorem dX12_remain_83 : decode cX12_remain 83 = .ok (.bipush 17, 2) := by decide +kernel
theorem dX12_remain_85 : decode cX12_remain 85 = .ok (.istore 6, 2) := by decide +kernel
theorem dX12_remain_87 : decode cX12_remain 87 = .ok (.iload 6, 2) := by decide +kernel
theorem dX12_remain_89 : decode cX12_remain 89 = .ok (.ifCond .le 25, 3) := by decide +kernel
theorem dX12_remain_92 : decode cX12_remain 92 = .ok (.aload_n 0, 1) := by decide +kernel
theorem dX12_remain_93 : decode cX12_remain 93 = .ok (.getfield 277, 3) := by decide +kernel
theorem dX12_remain_96 : decode cX12_remain 96 = .ok (.iload 6, 2) := by decide +kernel
theorem dX12_remain_98 : decode cX12_remain 98 = .ok (.aload_n 0, 1) := by decide +kernel
theorem dX12_remain_99 : decode cX12_remain 99 = .ok (.getfield 277, 3) := by decide +kernel
theorem dX12_remain_102 : decode cX12_remain 102 = .ok (.iload 6, 2) := by decide +kernel
theorem dX12_remain_104 : decode cX12_remain 104 = .ok (.iconst 1, 1) := by decide +kernel
theorem dX12_remain_105 : decode cX12_remain 105 = .ok (.isub, 1) := by decide +kernel
theorem dX12_remain_106 : decode cX12_remain 106 = .ok (.iaload, 1) := by decide +kernel
theorem dX12_remain_107 : decode cX12_remain 107 = .ok (.iastore, 1) := by decide +kernel
theorem dX12_remain_108 : decode cX12_remain 108 = .ok (.iinc 6 (-1), 3) := by decide +kernel
theorem dX12_remain_111 : decode cX12_remain 111 = .ok (.goto (-24), 3) := by decide +kernel
theorem dX12_remain_114 : decode cX12_remain 114 = .ok (.aload_n 0, 1) := by decide +kernel
theorem dX12_remain_115 : decode cX12_remain 115 = .ok (.getfield 277, 3) := by decide +kernel
theorem dX12_remain_118 : decode cX12_remain 118 = .ok (.iconst 0, 1) := by decide +kernel
theorem dX12_remain_119 : decode cX12_remain 119 = .ok (.aload_n 0, 1) := by decide +kernel
theorem dX12_remain_120 : decode cX12_remain 120 = .ok (.getfield 274, 3) := by decide +kernel
theorem dX12_remain_123 : decode cX12_remain 123 = .ok (.iload 5, 2) := by decide +kernel
theorem dX12_remain_125 : decode cX12_remain 125 = .ok (.iaload, 1) := by decide +kernel
theorem dX12_remain_126 : decode cX12_remain 126 = .ok (.iastore, 1) := by decide +kernel
theorem dX12_remain_127 : decode cX12_remain 127 = .ok (.aload_n 0, 1) := by decide +kernel
theorem dX12_remain_128 : decode cX12_remain 128 = .ok (.iload_n 2, 1) := by decide +kernel
theorem dX12_remain_129 : decode cX12_remain 129 = .ok (.invokevirtual 351, 3) := by decide +kernel
theorem dX12_remain_132 : decode cX12_remain 132 = .ok (.ifCond .ne 148, 3) := by decide +kernel
theorem dX12_remain_135 : decode cX12_remain 135 = .ok (.ldc2_w 343, 3) := by decide +kernel
theorem dX12_remain_138 : decode cX12_remain 138 = .ok (.ldc2_w 343, 3) := by decide +kernel
theorem dX12_remain_141 : decode cX12_remain 141 = .ok (.aload_n 0, 1) := by decide +kernel
theorem dX12_remain_142 : decode cX12_remain 142 = .ok (.getfield 277, 3) := by decide +kernel
theorem dX12_remain_145 : decode cX12_remain 145 = .ok (.iload_n 2, 1) := by decide +kernel
theorem dX12_remain_146 : decode cX12_remain 146 = .ok (.iconst 1, 1) := by decide +kernel
theorem dX12_remain_147 : decode cX12_remain 147 = .ok (.iadd, 1) := by decide +kernel
theorem dX12_remain_148 : decode cX12_remain 148 = .ok (.iaload, 1) := by decide +kernel
theorem dX12_remain_149 : decode cX12_remain 149 = .ok (.i2l, 1) := by decide +kernel
theorem dX12_remain_150 : decode cX12_remain 150 = .ok (.lmul, 1) := by decide +kernel
theorem dX12_remain_151 : decode cX12_remain 151 = .ok (.aload_n 0, 1) := by decide +kernel
theorem dX12_remain_152 : decode cX12_remain 152 = .ok (.getfield 277, 3) := by decide +kernel
theorem dX12_remain_155 : decode cX12_remain 155 = .ok (.iload_n 2, 1) := by decide +kernel
theorem dX12_remain_156 : decode cX12_remain 156 = .ok (.iaload, 1) := by decide +kernel
theorem dX12_remain_157 : decode cX12_remain 157 = .ok (.i2l, 1) := by decide +kernel
theorem dX12_remain_158 : decode cX12_remain 158 = .ok (.ladd, 1) := by decide +kernel
theorem dX12_remain_159 : decode cX12_remain 159 = .ok (.lmul, 1) := by decide +kernel
theorem dX12_remain_160 : decode cX12_remain 160 = .ok (.iload_n 2, 1) := by decide +kernel
theorem dX12_remain_161 : decode cX12_remain 161 = .ok (.ifCond .le 14, 3) := by decide +kernel
theorem dX12_remain_164 : decode cX12_remain 164 = .ok (.aload_n 0, 1) := by decide +kernel
theorem dX12_remain_165 : decode cX12_remain 165 = .ok (.getfield 277, 3) := by decide +kernel
theorem dX12_remain_168 : decode cX12_remain 168 = .ok (.iload_n 2, 1) := by decide +kernel
theorem dX12_remain_169 : decode cX12_remain 169 = .ok (.iconst 1, 1) := by decide +kernel
theorem dX12_remain_170 : decode cX12_remain 170 = .ok (.isub, 1) := by decide +kernel
theorem dX12_remain_171 : decode cX12_remain 171 = .ok (.iaload, 1) := by decide +kernel
theorem dX12_remain_172 : decode cX12_remain 172 = .ok (.goto 4, 3) := by decide +kernel
theorem dX12_remain_175 : decode cX12_remain 175 = .ok (.iconst 0, 1) := by decide +kernel
theorem dX12_remain_176 : decode cX12_remain 176 = .ok (.i2l, 1) := by decide +kernel
theorem dX12_remain_177 : decode cX12_remain 177 = .ok (.ladd, 1) := by decide +kernel
theorem dX12_remain_178 : decode cX12_remain 178 = .ok (.lstore 6, 2) := by decide +kernel
theorem dX12_remain_180 : decode cX12_remain 180 = .ok (.lload 6, 2) := by decide +kernel
theorem dX12_remain_182 : decode cX12_remain 182 = .ok (.lload_n 3, 1) := by decide +kernel
theorem dX12_remain_183 : decode cX12_remain 183 = .ok (.ldiv, 1) := by decide +kernel
theorem dX12_remain_184 : decode cX12_remain 184 = .ok (.lstore 8, 2) := by decide +kernel
theorem dX12_remain_186 : decode cX12_remain 186 = .ok (.lload 8, 2) := by decide +kernel
theorem dX12_remain_188 : decode cX12_remain 188 = .ok (.lconst 1, 1) := by decide +kernel
theorem dX12_remain_189 : decode cX12_remain 189 = .ok (.lcmp, 1) := by decide +kernel
theorem dX12_remain_190 : decode cX12_remain 190 = .ok (.ifCond .ge 7, 3) := by decide +kernel
theorem dX12_remain_193 : decode cX12_remain 193 = .ok (.lconst 1, 1) := by decide +kernel
theorem dX12_remain_194 : decode cX12_remain 194 = .ok (.goto 5, 3) := by decide +kernel
theorem dX12_remain_197 : decode cX12_remain 197 = .ok (.lload 8, 2) := by decide +kernel
theorem dX12_remain_199 : decode cX12_remain 199 = .ok (.lstore 8, 2) := by decide +kernel
theorem dX12_remain_201 : decode cX12_remain 201 = .ok (.lconst 0, 1) := by decide +kernel
theorem dX12_remain_202 : decode cX12_remain 202 = .ok (.lstore 10, 2) := by decide +kernel
theorem dX12_remain_204 : decode cX12_remain 204 = .ok (.iconst 0, 1) := by decide +kernel
theorem dX12_remain_205 : decode cX12_remain 205 = .ok (.istore 12, 2) := by decide +kernel
theorem dX12_remain_207 : decode cX12_remain 207 = .ok (.iload 12, 2) := by decide +kernel
theorem dX12_remain_209 : decode cX12_remain 209 = .ok (.bipush 18, 2) := by decide +kernel
theorem dX12_remain_211 : decode cX12_remain 211 = .ok (.if_icmp .ge 66, 3) := by decide +kernel
theorem dX12_remain_214 : decode cX12_remain 214 = .ok (.lload 10, 2) := by decide +kernel
theorem dX12_remain_216 : decode cX12_remain 216 = .ok (.aload_n 0, 1) := by decide +kernel
theorem dX12_remain_217 : decode cX12_remain 217 = .ok (.getfield 277, 3) := by decide +kernel
theorem dX12_remain_220 : decode cX12_remain 220 = .ok (.iload 12, 2) := by decide +kernel
theorem dX12_remain_222 : decode cX12_remain 222 = .ok (.iaload, 1) := by decide +kernel
theorem dX12_remain_223 : decode cX12_remain 223 = .ok (.i2l, 1) := by decide +kernel
theorem dX12_remain_224 : decode cX12_remain 224 = .ok (.ladd, 1) := by decide +kernel
theorem dX12_remain_225 : decode cX12_remain 225 = .ok (.iload 12, 2) := by decide +kernel
theorem dX12_remain_227 : decode cX12_remain 227 = .ok (.bipush 16, 2) := by decide +kernel
theorem dX12_remain_229 : decode cX12_remain 229 = .ok (.if_icmp .ge 17, 3) := by decide +kernel
theorem dX12_remain_232 : decode cX12_remain 232 = .ok (.lload 8, 2) := by decide +kernel
theorem dX12_remain_234 : decode cX12_remain 234 = .ok (.aload_n 0, 1) := by decide +kernel
theorem dX12_remain_235 : decode cX12_remain 235 = .ok (.getfield 262, 3) := by decide +kernel
theorem dX12_remain_238 : decode cX12_remain 238 = .ok (.iload 12, 2) := by decide +kernel
theorem dX12_remain_240 : decode cX12_remain 240 = .ok (.iaload, 1) := by decide +kernel
theorem dX12_remain_241 : decode cX12_remain 241 = .ok (.i2l, 1) := by decide +kernel
theorem dX12_remain_242 : decode cX12_remain 242 = .ok (.lmul, 1) := by decide +kernel
theorem dX12_remain_243 : decode cX12_remain 243 = .ok (.goto 4, 3) := by decide +kernel
theorem dX12_remain_246 : decode cX12_remain 246 = .ok (.lconst 0, 1) := by decide +kernel
theorem dX12_remain_247 : decode cX12_remain 247 = .ok (.lsub, 1) := by decide +kernel
theorem dX12_remain_248 : decode cX12_remain 248 = .ok (.lstore 10, 2) := by decide +kernel
theorem dX12_remain_250 : decode cX12_remain 250 = .ok (.aload_n 0, 1) := by decide +kernel
theorem dX12_remain_251 : decode cX12_remain 251 = .ok (.getfield 277, 3) := by decide +kernel
theorem dX12_remain_254 : decode cX12_remain 254 = .ok (.iload 12, 2) := by decide +kernel
theorem dX12_remain_256 : decode cX12_remain 256 = .ok (.lload 10, 2) := by decide +kernel
theorem dX12_remain_258 : decode cX12_remain 258 = .ok (.ldc2_w 345, 3) := by decide +kernel
theorem dX12_remain_261 : decode cX12_remain 261 = .ok (.land, 1) := by decide +kernel
theorem dX12_remain_262 : decode cX12_remain 262 = .ok (.l2i, 1) := by decide +kernel
theorem dX12_remain_263 : decode cX12_remain 263 = .ok (.iastore, 1) := by decide +kernel
theorem dX12_remain_264 : decode cX12_remain 264 = .ok (.lload 10, 2) := by decide +kernel
theorem dX12_remain_266 : decode cX12_remain 266 = .ok (.bipush 16, 2) := by decide +kernel
theorem dX12_remain_268 : decode cX12_remain 268 = .ok (.lshr, 1) := by decide +kernel
theorem dX12_remain_269 : decode cX12_remain 269 = .ok (.lstore 10, 2) := by decide +kernel
theorem dX12_remain_271 : decode cX12_remain 271 = .ok (.iinc 12 1, 3) := by decide +kernel
theorem dX12_remain_274 : decode cX12_remain 274 = .ok (.goto (-67), 3) := by decide +kernel
theorem dX12_remain_277 : decode cX12_remain 277 = .ok (.goto (-150), 3) := by decide +kernel
theorem dX12_remain_280 : decode cX12_remain 280 = .ok (.iinc 5 (-1), 3) := by decide +kernel
theorem dX12_remain_283 : decode cX12_remain 283 = .ok (.goto (-205), 3) := by decide +kernel
theorem dX12_remain_286 : decode cX12_remain 286 = .ok (.iconst 0, 1) := by decide +kernel
theorem dX12_remain_287 : decode cX12_remain 287 = .ok (.istore 5, 2) := by decide +kernel
theorem dX12_remain_289 : decode cX12_remain 289 = .ok (.iload 5, 2) := by decide +kernel
theorem dX12_remain_291 : decode cX12_remain 291 = .ok (.bipush 16, 2) := by decide +kernel
theorem dX12_remain_293 : decode cX12_remain 293 = .ok (.if_icmp .ge 20, 3) := by decide +kernel
theorem dX12_remain_296 : decode cX12_remain 296 = .ok (.aload_n 1, 1) := by decide +kernel
theorem dX12_remain_297 : decode cX12_remain 297 = .ok (.iload 5, 2) := by decide +kernel
theorem dX12_remain_299 : decode cX12_remain 299 = .ok (.aload_n 0, 1) := by decide +kernel
theorem dX12_remain_300 : decode cX12_remain 300 = .ok (.getfield 277, 3) := by decide +kernel
theorem dX12_remain_303 : decode cX12_remain 303 = .ok (.iload 5, 2) := by decide +kernel
theorem dX12_remain_305 : decode cX12_remain 305 = .ok (.iaload, 1) := by decide +kernel
theorem dX12_remain_306 : decode cX12_remain 306 = .ok (.iastore, 1) := by decide +kernel
theorem dX12_remain_307 : decode cX12_remain 307 = .ok (.iinc 5 1, 3) := by decide +kernel
theorem dX12_remain_310 : decode cX12_remain 310 = .ok (.goto (-21), 3) := by decide +kernel
theorem dX12_remain_313 : decode cX12_remain 313 = .ok (.return_, 1) := by decide +kernel
noncomputable def X12_remain_l289 (t78_8 : (Nat → Int32)) (k289_10 : Nat) (t289_10 : (Nat → Int32)) : (Nat → Int32) :=
  let y13 := t78_8 k289_10
  upd t289_10 k289_10 y13
noncomputable def X12_remain_m229 (f_m : Nat → Int32) (g190_29 : (Int64)) (k207_32 : Nat) : (Int64) :=
  if 16 ≤ k207_32 then
  ((0 : Int64))
  else
  (g190_29 * ((f_m k207_32).toInt64))
noncomputable def X12_remain_l207 (f_m : Nat → Int32) (g190_29 : (Int64)) (k207_32 : Nat) (t207_32 : (Nat → Int32) × (Int64)) : (Nat → Int32) × (Int64) :=
  let g229_35 := X12_remain_m229 f_m g190_29 k207_32
  let y37 := (t207_32.2 + ((t207_32.1 k207_32).toInt64)) - g229_35
  let y38 := (y37 &&& ((65535 : Int64))).toInt32
  let y39 := y37 >>> ((nI 16).toInt64 &&& 63)
  (upd t207_32.1 k207_32 y38, y39)
noncomputable def X12_remain_m190 (y28 : Int64) : (Int64) :=
  if 0 ≤ (lg_cmp y28 ((1 : Int64))) then
  (y28)
  else
  ((1 : Int64))
noncomputable def X12_remain_m161 (g3_2 : (Nat)) (t127_18 : (Nat → Int32)) : (Int32) :=
  if g3_2 ≤ 0 then
  (nI 0)
  else
  (t127_18 (g3_2 - 1))
noncomputable def X12_remain_l127 (f_m : Nat → Int32) (g3_2 : (Nat)) (y5 : Int64) (k127_18 : Nat) (t127_18 : (Nat → Int32)) : ((Nat → Int32)) ⊕ ((Nat → Int32)) :=
  if (f_X12_isLess t127_18 f_m) = 0 then
  (let g161_25 := X12_remain_m161 g3_2 t127_18
  let y27 := (((65536 : Int64)) * ((((65536 : Int64)) * ((t127_18 (g3_2 + 1)).toInt64)) + ((t127_18 g3_2).toInt64))) + g161_25.toInt64
  let y28 := y27 / y5
  let g190_29 := X12_remain_m190 y28
  let y31 := (0 : Int64)
  let t207_32 := itr (X12_remain_l207 f_m g190_29) ((t127_18, y31)) 18
  .inl t207_32.1)
  else
  (.inr t127_18)
noncomputable def X12_remain_l87  (r87_15 : Nat) (t87_15 : (Nat → Int32)) : (Nat → Int32) :=
  let y41 := t87_15 ((r87_15 + 1) - 1)
  upd t87_15 (r87_15 + 1) y41
noncomputable def X12_remain_l78 (f_m : Nat → Int32) (f_product : Nat → Int32) (g3_2 : (Nat)) (y5 : Int64) (r78_8 : Nat) (t78_8 : (Nat → Int32)) : (Nat → Int32) :=
  let t87_15 := itd X12_remain_l87 17 t78_8
  let y17 := f_product r78_8
  let g127_19 := mrg (itx (X12_remain_l127 f_m g3_2 y5) FU 0 (upd t87_15 0 y17))
  g127_19
noncomputable def X12_remain_l53  (k53_6 : Nat) (t53_6 : (Nat → Int32)) : (Nat → Int32) :=
  upd t53_6 k53_6 (nI 0)
noncomputable def X12_remain_m30 (f_m : Nat → Int32) (g3_2 : (Nat)) : (Int32) :=
  if g3_2 ≤ 0 then
  (nI 0)
  else
  (f_m (g3_2 - 1))
noncomputable def X12_remain_l3 (f_m : Nat → Int32) (k3_1 : Nat) (t3_1 : (Nat)) : ((Nat)) ⊕ ((Nat)) :=
  if (f_m t3_1) = 0 then
  (.inl (t3_1 - 1))
  else
  (.inr t3_1)
noncomputable def f_X12_remain (f_m : Nat → Int32) (f_rest : Nat → Int32) (f_p1 : Nat → Int32) (f_product : Nat → Int32) : (Nat → Int32) × (Nat → Int32) :=
  let g3_2 := mrg (itx (X12_remain_l3 f_m) 16 0 15)
  let g30_3 := X12_remain_m30 f_m g3_2
  let y5 := ((((65536 : Int64)) * ((f_m g3_2).toInt64)) + g30_3.toInt64) + ((1 : Int64))
  let t53_6 := itr X12_remain_l53 f_rest 18
  let t78_8 := itd (X12_remain_l78 f_m f_product g3_2 y5) 32 t53_6
  let t289_10 := itr (X12_remain_l289 t78_8) f_p1 16
  (t289_10, t78_8)
theorem rm_l87 (t : Nat → Int32) : ∀ r, ∀ s : Nat → Int32, (∀ j, j ≤ r → s j = t j) → (∀ j, r < j → j ≤ 17 → s j = t (j - 1)) → r ≤ 17 → (∀ j, 1 ≤ j → j ≤ 17 → itd X12_remain_l87 r s j = t (j - 1)) ∧ itd X12_remain_l87 r s 0 = t 0
  | 0, s, h1, h2, _ => by
    rw [itd_0]
    exact ⟨fun j a b => h2 j (by omega) b, h1 0 (Nat.le_refl _)⟩
  | r + 1, s, h1, h2, h3 => by
    rw [itd_s]
    refine rm_l87 t r _ ?_ ?_ (by omega)
    · intro j hj
      show upd s (r + 1) (s (r + 1 - 1)) j = t j
      rw [pk_un (by omega)]
      exact h1 j (by omega)
    · intro j a b
      show upd s (r + 1) (s (r + 1 - 1)) j = t (j - 1)
      by_cases e : j = r + 1
      · subst e; rw [pk_us]; exact h1 r (by omega)
      · rw [pk_un e]; exact h2 j (by omega) b
theorem rm_up {t : Nat → Int32} {x : Int32} (h : DG 18 t) (hx : ∃ d, d < 65536 ∧ x = nI d) : DG 18 (upd (itd X12_remain_l87 17 t) 0 x) ∧ VV (upd (itd X12_remain_l87 17 t) 0 x) 18 = 65536 * VV t 17 + x.toNatClampNeg := by
  obtain ⟨a, b⟩ := rm_l87 t 17 t (fun _ _ => rfl) (fun j h1 h2 => absurd h1 (by omega)) (Nat.le_refl _)
  obtain ⟨d, hd, rfl⟩ := hx
  have hs : ∀ k, k < 17 → upd (itd X12_remain_l87 17 t) 0 (nI d) (k + 1) = t k := fun k hk => by
    rw [pk_un (by omega)]; exact a (k + 1) (by omega) (by omega)
  constructor
  · intro k hk
    by_cases e : k = 0
    · subst e; exact dg_of (d := d) (by rw [pk_us]) hd
    · obtain ⟨j, rfl⟩ : ∃ j, k = j + 1 := ⟨k - 1, by omega⟩
      have h1 := h j (by omega)
      exact dg_of ((hs j (by omega)).trans h1.1) h1.2
  · have e := VV_shift (f := fun k => upd (itd X12_remain_l87 17 t) 0 (nI d) (k + 1)) (g := upd (itd X12_remain_l87 17 t) 0 (nI d)) (fun _ => rfl) 17
    rw [e, VV_congr 17 hs]
    congr 1
/-- the comparison -/
theorem rm_less_go {rest mm : Nat → Int32} (hr : DG 18 rest) (hm : DG 16 mm) : ∀ n, n ≤ 18 → ((match itxd (X12_isLess_l3 rest mm) n () with | .inl _ => (nI 0) | .inr r => r) = 0 ↔ VV (pd16 mm) n ≤ VV rest n)
  | 0, _ => by rw [itxd_0]; exact ⟨fun _ => Nat.le_refl _, fun _ => rfl⟩
  | n + 1, hn => by
    have hg : DG 18 (pd16 mm) := pd_dg hm
    have IH := rm_less_go hr hm n (by omega)
    have em : X12_isLess_m10 mm n = pd16 mm n := rfl
    generalize pd16 mm = g at hg em IH ⊢
    obtain ⟨r1, r2⟩ := hr n (by omega)
    obtain ⟨g1, g2⟩ := hg n (by omega)
    have v1 := VV_lt n (fun k hk => hr k (by omega))
    have v2 := VV_lt n (fun k hk => hg k (by omega))
    rw [VV_s, VV_s]
    by_cases e : rest n = g n
    · have hx : X12_isLess_l3 rest mm n () = .inl () := by simp only [X12_isLess_l3, em, if_pos e]
      rw [itxd_in hx, IH]
      have ed : dv rest n = dv g n := by unfold dv; rw [e]
      rw [ed]
      omega
    · by_cases q : g n ≤ rest n
      · have hx : X12_isLess_l3 rest mm n () = .inr (nI 0) := by simp only [X12_isLess_l3, em, if_neg e, if_pos q]
        rw [itxd_out hx]
        rw [r1, g1] at q e
        have q2 := (nI_leI (by omega) (by omega)).mp q
        have hlt : dv g n < dv rest n := Nat.lt_of_le_of_ne q2 (fun h => e (by rw [h]))
        exact ⟨fun _ => Nat.le_of_lt (fig_lt v2 hlt), fun _ => rfl⟩
      · have hx : X12_isLess_l3 rest mm n () = .inr (nI 1) := by simp only [X12_isLess_l3, em, if_neg e, if_neg q]
        rw [itxd_out hx]
        rw [r1, g1] at q
        have q2 : ¬ dv g n ≤ dv rest n := fun h => q ((nI_leI (by omega) (by omega)).mpr h)
        have := fig_lt (v := VV g n) v1 (show dv rest n < dv g n by omega)
        exact ⟨fun h => absurd h (by decide), fun h => by omega⟩
theorem rm_less {rest mm : Nat → Int32} (hr : DG 18 rest) (hm : DG 16 mm) : f_X12_isLess rest mm = 0 ↔ VV mm 16 ≤ VV rest 18 := by
  have := rm_less_go hr hm 18 (Nat.le_refl _)
  rw [pd_VV] at this
  exact this
/-- a multiple is taken away: figure by figure -/
theorem rm_sub_go {rest mm : Nat → Int32} {q : Nat} (hr : DG 18 rest) (hm : DG 16 mm) (hq : q < 2 ^ 40) : ∀ n, n ≤ 18 → ∃ c : Int, (itr (X12_remain_l207 mm (lI (q : Int))) (rest, (0 : Int64)) n).2 = lI c ∧ -2 ^ 58 < c ∧ c ≤ 0 ∧ DG n (itr (X12_remain_l207 mm (lI (q : Int))) (rest, (0 : Int64)) n).1 ∧ (∀ j, n ≤ j → (itr (X12_remain_l207 mm (lI (q : Int))) (rest, (0 : Int64)) n).1 j = rest j) ∧ (VV (itr (X12_remain_l207 mm (lI (q : Int))) (rest, (0 : Int64)) n).1 n : Int) + c * 65536 ^ n = VV rest n - q * VV (pd16 mm) n
  | 0, _ => by
    refine ⟨0, ?_, by decide, by decide, fun k hk => absurd hk (Nat.not_lt_zero k), ?_, ?_⟩
    · rw [itr_0]; rfl
    · intro j _; rw [itr_0]
    · rw [itr_0]; simp [VV]
  | n + 1, hn => by
    obtain ⟨c, h1, h2, h3, h4, h5, h6⟩ := rm_sub_go hr hm hq n (by omega)
    rw [itr_s]
    generalize itr (X12_remain_l207 mm (lI (q : Int))) (rest, (0 : Int64)) n = t at h1 h4 h5 h6 ⊢
    obtain ⟨g1, g2⟩ := pd_dg (n := 18) hm n (by omega)
    have hg : X12_remain_m229 mm (lI (q : Int)) n = lI ((q * dv (pd16 mm) n : Nat) : Int) := by
      by_cases e : 16 ≤ n
      · have : dv (pd16 mm) n = 0 := by unfold dv; rw [pd_ge e]; rfl
        rw [this]
        simp only [X12_remain_m229, if_pos e]; rfl
      · rw [pd_lt e] at g1
        simp only [X12_remain_m229, if_neg e]
        rw [g1, nI_lI (by omega), lI_mul]
        congr 1
    have gs := VV_s (pd16 mm) n
    generalize dv (pd16 mm) n = d at hg g2 gs
    obtain ⟨r1, r2⟩ := hr n (by omega)
    have er : t.1 n = nI (dv rest n) := (h5 n (Nat.le_refl _)).trans r1
    have hqd : q * d < 2 ^ 56 := Nat.lt_of_le_of_lt (Nat.mul_le_mul_left q (show d ≤ 65536 by omega)) (by omega)
    have hst : X12_remain_l207 mm (lI (q : Int)) n t = (upd t.1 n (nI ((c + dv rest n - (q * d : Nat)) % 65536).toNat), lI ((c + dv rest n - (q * d : Nat)) / 65536)) := by
      simp only [X12_remain_l207]
      rw [hg, h1, er, nI_lI (by omega), lI_add, lI_sub, lI_and, lI_shr (by omega) (by omega)]
      have ez : (c + dv rest n - (q * d : Nat)) % 65536 = (((c + dv rest n - (q * d : Nat)) % 65536).toNat : Int) := by omega
      rw [show (lI ((c + dv rest n - (q * d : Nat)) % 65536)).toInt32 = nI ((c + dv rest n - (q * d : Nat)) % 65536).toNat by rw [ez, lI_32]; rfl]
    rw [hst]
    generalize hz : c + (dv rest n : Int) - ((q * d : Nat) : Int) = z
    have hb : (z % 65536).toNat < 65536 := by omega
    refine ⟨z / 65536, rfl, by omega, by omega, ?_, ?_, ?_⟩
    · intro k hk
      by_cases e : k = n
      · subst e; exact dg_of (pk_us) hb
      · have h7 := h4 k (by omega)
        exact dg_of (d := dv t.1 k) (by show upd t.1 n _ k = _; rw [pk_un e]; exact h7.1) h7.2
    · intro j hj
      show upd t.1 n _ j = _
      rw [pk_un (by omega)]; exact h5 j (by omega)
    · show (VV (upd t.1 n (nI (z % 65536).toNat)) (n + 1) : Int) + z / 65536 * 65536 ^ (n + 1) = _
      rw [VV_s, VV_put (Nat.le_refl _), dv_nI pk_us hb, VV_s rest, gs]
      have e1 : ((z % 65536).toNat : Int) = z % 65536 := by omega
      have e2 : z = 65536 * (z / 65536) + z % 65536 := by omega
      have e3 : ∀ k : Nat, (65536 : Int) ^ k = ((65536 ^ k : Nat) : Int) := fun k => (Int.natCast_pow 65536 k).symm
      rw [e3 n] at h6
      rw [e3 (n + 1), Nat.pow_succ]
      generalize (65536 ^ n : Nat) = P at *
      rw [Int.natCast_add, Int.natCast_add, Int.natCast_add, Int.natCast_mul, Int.natCast_mul, Int.natCast_mul, Int.natCast_mul, e1]
      rw [Int.natCast_mul] at hz
      have e4 : ((65536 : Nat) : Int) = 65536 := rfl
      rw [e4]
      generalize z / 65536 = a at *
      generalize z % 65536 = b at *
      generalize (VV t.1 n : Int) = v1 at *
      generalize (VV rest n : Int) = v2 at *
      generalize (VV (pd16 mm) n : Int) = v3 at *
      generalize (dv rest n : Int) = rn at *
      subst e2
      have : v2 = v1 + c * P + q * v3 := by omega
      subst this
      have : rn = 65536 * a + b - c + q * d := by omega
      subst this
      grind
/-- a round of the inner loop: a multiple of m goes -/
theorem rm_sub {rest mm : Nat → Int32} {q : Nat} (hr : DG 18 rest) (hm : DG 16 mm) (hq : q < 2 ^ 40) (hle : q * VV mm 16 ≤ VV rest 18) : DG 18 (itr (X12_remain_l207 mm (lI (q : Int))) (rest, (0 : Int64)) 18).1 ∧ VV (itr (X12_remain_l207 mm (lI (q : Int))) (rest, (0 : Int64)) 18).1 18 + q * VV mm 16 = VV rest 18 := by
  obtain ⟨c, h1, h2, h3, h4, h5, h6⟩ := rm_sub_go hr hm hq 18 (Nat.le_refl _)
  refine ⟨h4, ?_⟩
  have v1 := VV_lt 18 h4
  rw [pd_VV] at h6
  generalize (itr (X12_remain_l207 mm (lI (q : Int))) (rest, (0 : Int64)) 18).1 = t at h4 h6 v1 ⊢
  have e : ((q * VV mm 16 : Nat) : Int) = (q : Int) * (VV mm 16 : Int) := by push_cast; rfl
  rw [← e] at h6
  generalize q * VV mm 16 = w at hle h6 ⊢
  have e2 : (65536 : Int) ^ 18 = ((65536 ^ 18 : Nat) : Int) := by decide
  rw [e2] at h6
  generalize (65536 ^ 18 : Nat) = P at v1 h6
  have hc : c = 0 := by
    rcases Int.lt_or_le c 0 with hc | hc
    · exfalso
      have : c * (P : Int) ≤ -1 * (P : Int) := Int.mul_le_mul_of_nonneg_right (by omega) (by omega)
      omega
    · omega
  subst hc
  omega
theorem VV_above {f : Nat → Int32} {n : Nat} : ∀ k, n ≤ k → (∀ j, n ≤ j → j < k → f j = 0) → VV f k = VV f n
  | 0, h, _ => by have : n = 0 := by omega
                  subst this; rfl
  | k + 1, h, h0 => by
    by_cases e : n = k + 1
    · subst e; rfl
    · have h1 : dv f k = 0 := by unfold dv; rw [h0 k (by omega) (by omega)]; rfl
      rw [VV_s, h1, Nat.zero_mul, Nat.add_zero]
      exact VV_above k (by omega) (fun j a b => h0 j a (by omega))
abbrev TOP (mm : Nat → Int32) (top : Nat) : Prop := top < 16 ∧ ¬ mm top = 0 ∧ ∀ j, top + 1 ≤ j → j < 16 → mm j = 0
theorem rm_high {mm : Nat → Int32} {top : Nat} {g30 : Int32} {y5 : Int64} (hm : DG 16 mm) (ht : TOP mm top) (eg : g30 = X12_remain_m30 mm top) (e5 : y5 = ((((65536 : Int64)) * ((mm top).toInt64)) + g30.toInt64) + ((1 : Int64))) : ∃ h : Nat, y5 = lI (h : Int) ∧ 65536 ≤ h ∧ h < 2 ^ 40 ∧ VV mm 16 * 65536 < h * 65536 ^ top := by
  obtain ⟨t1, t2, t3⟩ := ht
  obtain ⟨a1, a2⟩ := hm top t1
  have hB : (65536 : Int64) = lI ((65536 : Nat) : Int) := rfl
  have h1 : (1 : Int64) = lI ((1 : Nat) : Int) := rfl
  have hp : 1 ≤ dv mm top := Nat.pos_of_ne_zero (fun h => t2 (by rw [a1, h]; rfl))
  rw [VV_above 16 (by omega) t3, VV_s]
  by_cases e : top ≤ 0
  · have e0 : top = 0 := by omega
    subst e0
    refine ⟨65536 * dv mm 0 + 1, ?_, by omega, by omega, ?_⟩
    · rw [e5, eg]
      simp only [X12_remain_m30, if_pos e]
      rw [a1, nI_lI (by omega), nI_lI (by decide), hB, h1, lI_mul, lI_add, lI_add]
      congr 1
    · simp only [VV, Nat.pow_zero]; omega
  · obtain ⟨n, rfl⟩ : ∃ n, top = n + 1 := ⟨top - 1, by omega⟩
    obtain ⟨b1, b2⟩ := hm n (by omega)
    refine ⟨65536 * dv mm (n + 1) + dv mm n + 1, ?_, by omega, by omega, ?_⟩
    · rw [e5, eg]
      simp only [X12_remain_m30, if_neg e]
      rw [a1, nI_lI (by omega), show n + 1 - 1 = n from rfl, b1, nI_lI (by omega), hB, h1, lI_mul, lI_add, lI_add]
      congr 1
    · have v := VV_lt n (fun k hk => hm k (by omega))
      rw [VV_s, Nat.pow_succ]
      generalize 65536 ^ n = P at *
      generalize dv mm n = b at *
      generalize dv mm (n + 1) = a at *
      have : (65536 * a + b + 1) * (P * 65536) = 65536 * (65536 * (a * P)) + 65536 * (b * P) + 65536 * P := by grind
      rw [this]
      have : a * (P * 65536) = 65536 * (a * P) := by grind
      rw [this]
      omega
theorem rm_head {t : Nat → Int32} {top : Nat} (hr : DG 18 t) (ht : top < 16) : ∃ hd : Nat, (((65536 : Int64)) * ((((65536 : Int64)) * ((t (top + 1)).toInt64)) + ((t top).toInt64))) + (X12_remain_m161 top t).toInt64 = lI (hd : Int) ∧ hd < 2 ^ 48 ∧ hd * 65536 ^ top ≤ VV t 18 * 65536 := by
  obtain ⟨a1, a2⟩ := hr (top + 1) (by omega)
  obtain ⟨b1, b2⟩ := hr top (by omega)
  have hB : (65536 : Int64) = lI ((65536 : Nat) : Int) := rfl
  have hlo : VV t (top + 2) ≤ VV t 18 := VV_lo (by omega)
  have es : VV t (top + 2) = VV t top + dv t top * 65536 ^ top + dv t (top + 1) * 65536 ^ (top + 1) := rfl
  by_cases e : top ≤ 0
  · have e0 : top = 0 := by omega
    subst e0
    have a3 : dv t 1 < 65536 := a2
    refine ⟨65536 * (65536 * dv t 1 + dv t 0), ?_, by omega, ?_⟩
    · simp only [X12_remain_m161, if_pos e]
      rw [a1, b1, nI_lI (by omega), nI_lI (by omega), nI_lI (by decide), hB, lI_mul, lI_add, lI_mul, lI_add]
      congr 1
    · rw [Nat.pow_zero, Nat.mul_one]
      have : VV t (0 + 2) = dv t 0 + dv t 1 * 65536 := by
        rw [es]; simp only [VV, Nat.pow_zero, Nat.mul_one, Nat.zero_add, Nat.pow_one]
      omega
  · obtain ⟨n, rfl⟩ : ∃ n, top = n + 1 := ⟨top - 1, by omega⟩
    obtain ⟨c1, c2⟩ := hr n (by omega)
    refine ⟨65536 * (65536 * dv t (n + 1 + 1) + dv t (n + 1)) + dv t n, ?_, by omega, ?_⟩
    · simp only [X12_remain_m161, if_neg e]
      rw [a1, b1, nI_lI (by omega), nI_lI (by omega), show n + 1 - 1 = n from rfl, c1, nI_lI (by omega), hB, lI_mul, lI_add, lI_mul, lI_add]
      congr 1
    · rw [es, VV_s t n] at hlo
      refine Nat.le_trans ?_ (Nat.mul_le_mul_right 65536 hlo)
      rw [Nat.pow_succ 65536 (n + 1), Nat.pow_succ]
      generalize 65536 ^ n = P at *
      generalize dv t (n + 1 + 1) = cc at *
      generalize dv t (n + 1) = b at *
      generalize dv t n = a at *
      have : (65536 * (65536 * cc + b) + a) * (P * 65536) = 65536 * (65536 * (65536 * (cc * P))) + 65536 * (65536 * (b * P)) + 65536 * (a * P) := by grind
      rw [this]
      have e1 : b * (P * 65536) = 65536 * (b * P) := by grind
      have e2 : cc * (P * 65536 * 65536) = 65536 * (65536 * (cc * P)) := by grind
      rw [e1, e2]
      omega
theorem rm_round {mm t t' : Nat → Int32} {top k : Nat} {g30 : Int32} {y5 : Int64} (hm : DG 16 mm) (ht : TOP mm top) (eg : g30 = X12_remain_m30 mm top) (e5 : y5 = ((((65536 : Int64)) * ((mm top).toInt64)) + g30.toInt64) + ((1 : Int64))) (hr : DG 18 t) (hb : X12_remain_l127 mm top y5 k t = .inl t') : DG 18 t' ∧ VV mm 16 ≤ VV t 18 ∧ ∃ q, 1 ≤ q ∧ VV t' 18 + q * VV mm 16 = VV t 18 := by
  obtain ⟨h, h1, h2, h3, h4⟩ := rm_high hm ht eg e5
  obtain ⟨hd, d1, d2, d3⟩ := rm_head hr ht.1
  by_cases hl : f_X12_isLess t mm = 0
  · have hle := (rm_less hr hm).mp hl
    simp only [X12_remain_l127, if_pos hl] at hb
    rw [d1, h1, lI_div (by omega) (by omega) (by omega)] at hb
    have hq0 : hd / h * VV mm 16 ≤ VV t 18 := by
      have k1 : hd / h * h ≤ hd := Nat.div_mul_le_self hd h
      have k2 := Nat.mul_le_mul_left (hd / h) (Nat.le_of_lt h4)
      have k3 := Nat.mul_le_mul_right (65536 ^ top) k1
      have k4 : hd / h * (h * 65536 ^ top) = hd / h * h * 65536 ^ top := (Nat.mul_assoc _ _ _).symm
      have k5 : hd / h * (VV mm 16 * 65536) = hd / h * VV mm 16 * 65536 := (Nat.mul_assoc _ _ _).symm
      omega
    have hbig : hd / h < 2 ^ 40 := by
      have := Nat.div_le_div_left (a := hd) h2 (by decide)
      omega
    generalize hd / h = q0 at hq0 hbig hb
    have hq : ∃ q : Nat, X12_remain_m190 (lI (q0 : Int)) = lI (q : Int) ∧ 1 ≤ q ∧ q < 2 ^ 40 ∧ q * VV mm 16 ≤ VV t 18 := by
      by_cases c : 1 ≤ q0
      · refine ⟨q0, ?_, c, hbig, hq0⟩
        have : 0 ≤ lg_cmp (lI (q0 : Int)) (1 : Int64) := by
          rw [lg_cmp_ge, Int64.le_iff_toInt_le, lI_toInt (by omega) (by omega)]
          have : (1 : Int64).toInt = 1 := rfl
          omega
        simp only [X12_remain_m190, if_pos this]
      · refine ⟨1, ?_, Nat.le_refl _, by decide, by omega⟩
        have : ¬ 0 ≤ lg_cmp (lI (q0 : Int)) (1 : Int64) := by
          rw [lg_cmp_ge, Int64.le_iff_toInt_le, lI_toInt (by omega) (by omega)]
          have : (1 : Int64).toInt = 1 := rfl
          omega
        simp only [X12_remain_m190, if_neg this]
        rfl
    obtain ⟨q, q1, q2, q3, q4⟩ := hq
    rw [q1] at hb
    have hs := rm_sub hr hm q3 q4
    have hb2 : (itr (X12_remain_l207 mm (lI (q : Int))) (t, (0 : Int64)) 18).1 = t' := Sum.inl.inj hb
    rw [hb2] at hs
    exact ⟨hs.1, hle, q, q2, hs.2⟩
  · simp only [X12_remain_l127, if_neg hl] at hb
    exact absurd hb (by simp)
/-- the inner loop ends, with what remains -/
theorem rm_loop {mm : Nat → Int32} {top : Nat} {g30 : Int32} {y5 : Int64} (hm : DG 16 mm) (ht : TOP mm top) (eg : g30 = X12_remain_m30 mm top) (e5 : y5 = ((((65536 : Int64)) * ((mm top).toInt64)) + g30.toInt64) + ((1 : Int64))) (hM : 0 < VV mm 16) : ∀ r k t, DG 18 t → VV t 18 < r → DG 18 (mrg (itx (X12_remain_l127 mm top y5) r k t)) ∧ VV (mrg (itx (X12_remain_l127 mm top y5) r k t)) 18 = VV t 18 % VV mm 16
  | 0, _, _, _, h => absurd h (Nat.not_lt_zero _)
  | r + 1, k, t, hd, h => by
    by_cases hl : f_X12_isLess t mm = 0
    · obtain ⟨t', hb⟩ : ∃ t', X12_remain_l127 mm top y5 k t = .inl t' := by
        simp only [X12_remain_l127, if_pos hl]
        exact ⟨_, rfl⟩
      obtain ⟨h1, h2, q, q1, q2⟩ := rm_round hm ht eg e5 hd hb
      rw [itx_in hb]
      have hq : VV mm 16 ≤ q * VV mm 16 := Nat.le_mul_of_pos_left _ q1
      obtain ⟨i1, i2⟩ := rm_loop hm ht eg e5 hM r (k + 1) t' h1 (by omega)
      refine ⟨i1, i2.trans ?_⟩
      rw [← q2, Nat.add_mul_mod_self_right]
    · have hb : X12_remain_l127 mm top y5 k t = .inr t := by simp only [X12_remain_l127, if_neg hl]
      rw [itx_out hb]
      refine ⟨hd, (Nat.mod_eq_of_lt ?_).symm⟩
      have := mt (rm_less hd hm).mpr hl
      show VV t 18 < _
      omega
theorem rm_step_inv {mm t t' : Nat → Int32} {top k r : Nat} {g30 : Int32} {y5 : Int64} (hm : DG 16 mm) (hM : 0 < VV mm 16) (ht : TOP mm top) (eg : g30 = X12_remain_m30 mm top) (e5 : y5 = ((((65536 : Int64)) * ((mm top).toInt64)) + g30.toInt64) + ((1 : Int64))) (hr : DG 18 t ∧ VV t 18 < r + 1) (hb : X12_remain_l127 mm top y5 k t = .inl t') : DG 18 t' ∧ VV t' 18 < r := by
  obtain ⟨h1, h2, q, q1, q2⟩ := rm_round hm ht eg e5 hr.1 hb
  have hq : VV mm 16 ≤ q * VV mm 16 := Nat.le_mul_of_pos_left _ q1
  exact ⟨h1, by omega⟩
theorem rm_high0 {mm : Nat → Int32} {top : Nat} {g30 : Int32} {y5 : Int64} (hm : DG 16 mm) (ht : TOP mm top) (eg : g30 = X12_remain_m30 mm top) (e5 : y5 = ((((65536 : Int64)) * ((mm top).toInt64)) + g30.toInt64) + ((1 : Int64))) : y5 ≠ 0 := by
  obtain ⟨h, h1, h2, h3, h4⟩ := rm_high hm ht eg e5
  intro h0
  rw [h1] at h0
  have := congrArg Int64.toInt h0
  rw [lI_toInt (by omega) (by omega)] at this
  have e : (0 : Int64).toInt = 0 := rfl
  omega
theorem rm_top0 {mm : Nat → Int32} (hM : 0 < VV mm 16) : ∃ j, j ≤ 15 ∧ ¬ mm j = 0 := by
  by_cases h : ∃ j, j ≤ 15 ∧ ¬ mm j = 0
  · exact h
  · exfalso
    have := VV_above (f := mm) (n := 0) 16 (by decide) (fun j _ hj => by
      by_cases e : mm j = 0
      · exact e
      · exact absurd ⟨j, by omega, e⟩ h)
    rw [this] at hM
    exact absurd hM (Nat.lt_irrefl 0)
theorem rm_l3 {mm : Nat → Int32} : ∀ r k top, top < r → top < 16 → (∃ j, j ≤ top ∧ ¬ mm j = 0) → (∀ j, top + 1 ≤ j → j < 16 → mm j = 0) → TOP mm (mrg (itx (X12_remain_l3 mm) r k top))
  | 0, _, _, h, _, _, _ => absurd h (Nat.not_lt_zero _)
  | r + 1, k, top, h, h1, h2, h3 => by
    by_cases e : mm top = 0
    · have hb : X12_remain_l3 mm k top = .inl (top - 1) := by simp only [X12_remain_l3, if_pos e]
      rw [itx_in hb]
      obtain ⟨j, j1, j2⟩ := h2
      have : j ≠ top := fun q => j2 (by rw [q]; exact e)
      refine rm_l3 r (k + 1) (top - 1) (by omega) (by omega) ⟨j, by omega, j2⟩ ?_
      intro i i1 i2
      by_cases q : i = top
      · rw [q]; exact e
      · exact h3 i (by omega) i2
    · have hb : X12_remain_l3 mm k top = .inr top := by simp only [X12_remain_l3, if_neg e]
      rw [itx_out hb]
      exact ⟨h1, e, h3⟩
theorem rm_zero (f : Nat → Int32) : ∀ n, ∀ j, j < n → itr X12_remain_l53 f n j = nI 0
  | 0, j, h => absurd h (Nat.not_lt_zero j)
  | n + 1, j, h => by
    rw [itr_s]
    show upd _ n (nI 0) j = nI 0
    by_cases e : j = n
    · subst e; exact pk_us
    · rw [pk_un e]; exact rm_zero f n j (by omega)
theorem rm_zero_dg {f : Nat → Int32} : DG 18 (itr X12_remain_l53 f 18) := fun k hk => dg_of (rm_zero f 18 k hk) (by decide)
theorem VV_zero {f : Nat → Int32} {n : Nat} (h : ∀ k, k < n → f k = 0) : VV f n = 0 := VV_above n (Nat.zero_le n) (fun j _ hj => h j hj)
theorem FU_lt {t : Nat → Int32} (h : DG 18 t) : VV t 18 < FU := VV_lt 18 h
theorem rm_dec {mm : Nat → Int32} {t r : Nat} (h : t < 16 ∧ t < r + 1 ∧ (∃ j, j ≤ t ∧ ¬ mm j = 0) ∧ ∀ j, t + 1 ≤ j → j < 16 → mm j = 0) (e : mm t = 0) : 1 ≤ t ∧ (t - 1 < 16 ∧ t - 1 < r ∧ (∃ j, j ≤ t - 1 ∧ ¬ mm j = 0) ∧ ∀ j, t - 1 + 1 ≤ j → j < 16 → mm j = 0) := by
  obtain ⟨h1, h2, ⟨j, j1, j2⟩, h3⟩ := h
  have : j ≠ t := fun q => j2 (by rw [q]; exact e)
  refine ⟨by omega, by omega, by omega, ⟨j, by omega, j2⟩, ?_⟩
  intro i i1 i2
  by_cases q : i = t
  · rw [q]; exact e
  · exact h3 i (by omega) i2
theorem rm_in0 {t t87 pr : Nat → Int32} {y : Int32} {r : Nat} (h : DG 18 t) (hp : pr r = nI (dv pr r) ∧ dv pr r < 65536) (e : t87 = itd X12_remain_l87 17 t) (ey : y = pr r) : DG 18 (upd t87 0 y) ∧ VV (upd t87 0 y) 18 < FU := by
  subst e; subst ey
  have := (rm_up (x := pr r) h ⟨dv pr r, hp.2, hp.1⟩).1
  exact ⟨this, FU_lt this⟩
set_option maxHeartbeats 4000000 in
set_option maxRecDepth 100000 in
theorem c_X12_remain (l : Launch) (D : va_G) (ct : Nat → ClassId) (ts : Nat → Nat) (a_this a_p1 : Nat) (ad : Nat → Nat) (v_thrown : Int32) (v_connections : Int32) (v_size : Nat) (v_ids : Nat) (v_dataAll : Nat) (v_putCount : Nat) (v_waiting : Nat) (v_readSize : Nat) (v_power : Int32) (v_left : Int32) (v_since : Int32) (v_changes : Int32) (v_rowSize : Nat) (f_m : Nat → Int32) (f_rest : Nat → Int32) (f_p1 : Nat → Int32) (f_product : Nat → Int32)  (hDm : DG 16 f_m) (hDp : DG 32 f_product) (hm : 0 < VV f_m 16)  (sz : Nat) : Met l yX12_remain (Cond.code yX12_remain cX12_remain 13 none :: tb) { frames := 1, cells := 0, slots := 0, locals := 23 } (PcG D ct SXL ts [.ref a_this, .ref a_p1] [(a_this, .inr (12, mfs ad v_thrown v_connections (nI v_size) (nI v_ids) (nI v_dataAll) (nI v_putCount) (nI v_waiting) (nI v_readSize) v_power v_left v_since v_changes (nI v_rowSize))), (ad 69, .inl (ct 0, 16, .inl f_m)), (ad 74, .inl (ct 0, 18, .inl f_rest)), (a_p1, .inl (ct 0, 16, .inl f_p1)), (ad 73, .inl (ct 0, 32, .inl f_product))] sz) (va_Qv (fun u : (Nat → Int32) × (Nat → Int32) => u = f_X12_remain f_m f_rest f_p1 f_product) (fun u => BG D ct (va_A [(a_this, .inr (12, mfs ad v_thrown v_connections (nI v_size) (nI v_ids) (nI v_dataAll) (nI v_putCount) (nI v_waiting) (nI v_readSize) v_power v_left v_since v_changes (nI v_rowSize))), (ad 69, .inl (ct 0, 16, .inl f_m)), (ad 74, .inl (ct 0, 18, .inl f_rest)), (a_p1, .inl (ct 0, 16, .inl f_p1)), (ad 73, .inl (ct 0, 32, .inl f_product))] sz) [(a_this, .inr (12, mfs ad v_thrown v_connections (nI v_size) (nI v_ids) (nI v_dataAll) (nI v_putCount) (nI v_waiting) (nI v_readSize) v_power v_left v_since v_changes (nI v_rowSize))), (ad 69, .inl (ct 0, 16, .inl f_m)), (ad 74, .inl (ct 0, 18, .inl u.2)), (a_p1, .inl (ct 0, 16, .inl u.1)), (ad 73, .inl (ct 0, 32, .inl f_product))]) (va_A [(a_this, .inr (12, mfs ad v_thrown v_connections (nI v_size) (nI v_ids) (nI v_dataAll) (nI v_putCount) (nI v_waiting) (nI v_readSize) v_power v_left v_since v_changes (nI v_rowSize))), (ad 69, .inl (ct 0, 16, .inl f_m)), (ad 74, .inl (ct 0, 18, .inl f_rest)), (a_p1, .inl (ct 0, 16, .inl f_p1)), (ad 73, .inl (ct 0, 32, .inl f_product))] sz)) 0 0 (va_A [(a_this, .inr (12, mfs ad v_thrown v_connections (nI v_size) (nI v_ids) (nI v_dataAll) (nI v_putCount) (nI v_waiting) (nI v_readSize) v_power v_left v_since v_changes (nI v_rowSize))), (ad 69, .inl (ct 0, 16, .inl f_m)), (ad 74, .inl (ct 0, 18, .inl f_rest)), (a_p1, .inl (ct 0, 16, .inl f_p1)), (ad 73, .inl (ct 0, 32, .inl f_product))] sz) := by
  refine metJ (l := l) (y := yX12_remain) (cc := cX12_remain) (maxL := 13) (ret := none) (rm := { frames := 1, cells := 0, slots := 0, locals := 23 }) (D := D) (ct := ct) (L := SXL) (ts := ts) (av := [.ref a_this, .ref a_p1]) (ws := [(a_this, .inr (12, mfs ad v_thrown v_connections (nI v_size) (nI v_ids) (nI v_dataAll) (nI v_putCount) (nI v_waiting) (nI v_readSize) v_power v_left v_since v_changes (nI v_rowSize))), (ad 69, .inl (ct 0, 16, .inl f_m)), (ad 74, .inl (ct 0, 18, .inl f_rest)), (a_p1, .inl (ct 0, 16, .inl f_p1)), (ad 73, .inl (ct 0, 32, .inl f_product))]) (sz := sz) (mc := 0) (ms := 0) (QcF := fun A => va_Qv (fun u : (Nat → Int32) × (Nat → Int32) => u = f_X12_remain f_m f_rest f_p1 f_product) (fun u => BG D ct A [(a_this, .inr (12, mfs ad v_thrown v_connections (nI v_size) (nI v_ids) (nI v_dataAll) (nI v_putCount) (nI v_waiting) (nI v_readSize) v_power v_left v_since v_changes (nI v_rowSize))), (ad 69, .inl (ct 0, 16, .inl f_m)), (ad 74, .inl (ct 0, 18, .inl u.2)), (a_p1, .inl (ct 0, 16, .inl u.1)), (ad 73, .inl (ct 0, 32, .inl f_product))]) A) (by decide) (Nat.le_of_ble_eq_true rfl) ?_
  intro p e s m below meth c A X hnm
  obtain ⟨Q, hQ⟩ : ∃ Q, Q = MQ below (va_Qv (fun u : (Nat → Int32) × (Nat → Int32) => u = f_X12_remain f_m f_rest f_p1 f_product) (fun u => BG D ct A [(a_this, .inr (12, mfs ad v_thrown v_connections (nI v_size) (nI v_ids) (nI v_dataAll) (nI v_putCount) (nI v_waiting) (nI v_readSize) v_power v_left v_since v_changes (nI v_rowSize))), (ad 69, .inl (ct 0, 16, .inl f_m)), (ad 74, .inl (ct 0, 18, .inl u.2)), (a_p1, .inl (ct 0, 16, .inl u.1)), (ad 73, .inl (ct 0, 32, .inl f_product))]) A) [.ref a_this, .ref a_p1].toArray s 0 0 A := ⟨_, rfl⟩
  rw [← hQ]
  refine j_lve (lv' := [(0, .ref a_this), (1, .ref a_p1)]) rfl ?_
  refine j_bipush (v := nI 15) X dX12_remain_0 (by decide) (q := 2) rfl ?_
  refine j_istore_n (lv' := [(2, .int (nI 15)), (0, .ref a_this), (1, .ref a_p1)]) X dX12_remain_2 (by decide) rfl (q := 3) rfl ?_
  refine j_lv (lv' := [(0, .ref a_this), (1, .ref a_p1), (2, .int (nI 15))]) [1, 2, 0] rfl ?_
  have KE3_1 : ∀ g3_2 : (Nat), g3_2 = mrg (itx (X12_remain_l3 f_m) 16 0 15) → (TOP f_m g3_2) → J p l e { frames := 1, cells := 0, slots := 0, locals := 23 } s m [.ref a_this, .ref a_p1].toArray below meth c D A 13 Q 0 0 [(a_this, .inr (12, mfs ad v_thrown v_connections (nI v_size) (nI v_ids) (nI v_dataAll) (nI v_putCount) (nI v_waiting) (nI v_readSize) v_power v_left v_since v_changes (nI v_rowSize))), (ad 69, .inl (ct 0, 16, .inl f_m)), (ad 74, .inl (ct 0, 18, .inl f_rest)), (a_p1, .inl (ct 0, 16, .inl f_p1)), (ad 73, .inl (ct 0, 32, .inl f_product))] [(0, .ref a_this), (1, .ref a_p1), (2, .int (nI g3_2))] [] 18 := by
    intro g3_2 e_g3_2 hx0_g3_2
    have hx0b := hx0_g3_2.1
    refine j_ldc2 X mw_X12_remain_1 dX12_remain_18 (q := 21) rfl ?_
    refine j_aload_n X 0 dX12_remain_21 rfl (q := 22) rfl ?_
    refine j_get (f := 69) X 0 inT12 rfl rfl (by decide) mw_X12_remain_0 rfl dX12_remain_22 (q := 25) rfl ?_
    refine j_iload_n X 2 dX12_remain_25 rfl (q := 26) rfl ?_
    refine k_iald X 1 rfl (vp_in_nI (by omega) (by omega)) (nI_clamp (by omega)) dX12_remain_26 (q := 27) rfl ?_
    refine j_i2l X dX12_remain_27 (q := 28) rfl ?_
    refine j_lmul X dX12_remain_28 (q := 29) rfl ?_
    refine j_iload_n X 2 dX12_remain_29 rfl (q := 30) rfl ?_
    have KJ30_3 : ∀ g30_3 : (Int32), g30_3 = X12_remain_m30 f_m g3_2 → J p l e { frames := 1, cells := 0, slots := 0, locals := 23 } s m [.ref a_this, .ref a_p1].toArray below meth c D A 13 Q 0 0 [(a_this, .inr (12, mfs ad v_thrown v_connections (nI v_size) (nI v_ids) (nI v_dataAll) (nI v_putCount) (nI v_waiting) (nI v_readSize) v_power v_left v_since v_changes (nI v_rowSize))), (ad 69, .inl (ct 0, 16, .inl f_m)), (ad 74, .inl (ct 0, 18, .inl f_rest)), (a_p1, .inl (ct 0, 16, .inl f_p1)), (ad 73, .inl (ct 0, 32, .inl f_product))] [(0, .ref a_this), (1, .ref a_p1), (2, .int (nI g3_2))] [.int g30_3, .long (((65536 : Int64)) * ((f_m g3_2).toInt64))] 45 := by
      intro g30_3 e_g30_3
      refine j_i2l X dX12_remain_45 (q := 46) rfl ?_
      refine j_ladd X dX12_remain_46 (q := 47) rfl ?_
      refine j_lconst (v := 1) X dX12_remain_47 (by decide) (q := 48) rfl ?_
      refine j_ladd X dX12_remain_48 (q := 49) rfl ?_
      refine j_topl (fun y5 e_y5 => ?_)
      refine j_lstore_n (lv' := [(3, .long y5), (0, .ref a_this), (1, .ref a_p1), (2, .int (nI g3_2))]) X dX12_remain_49 (by decide) rfl (q := 50) rfl ?_
      refine j_iconst (v := nI 0) X dX12_remain_50 (by decide) (q := 51) rfl ?_
      refine j_istore (lv' := [(5, .int (nI 0)), (3, .long y5), (0, .ref a_this), (1, .ref a_p1), (2, .int (nI g3_2))]) X dX12_remain_51 (by decide) rfl (q := 53) rfl ?_
      refine j_lv (lv' := [(0, .ref a_this), (1, .ref a_p1), (2, .int (nI g3_2)), (3, .long y5), (5, .int (nI 0))]) [2, 3, 4, 1, 0] rfl ?_
      have LP53_6 : ∀ (r53_6 k53_6 : Nat) (t53_6 : (Nat → Int32)), k53_6 + r53_6 = 18 → t53_6 = itr X12_remain_l53 f_rest k53_6 → J p l e { frames := 1, cells := 0, slots := 0, locals := 23 } s m [.ref a_this, .ref a_p1].toArray below meth c D A 13 Q 0 0 [(a_this, .inr (12, mfs ad v_thrown v_connections (nI v_size) (nI v_ids) (nI v_dataAll) (nI v_putCount) (nI v_waiting) (nI v_readSize) v_power v_left v_since v_changes (nI v_rowSize))), (ad 69, .inl (ct 0, 16, .inl f_m)), (ad 74, .inl (ct 0, 18, .inl t53_6)), (a_p1, .inl (ct 0, 16, .inl f_p1)), (ad 73, .inl (ct 0, 32, .inl f_product))] [(0, .ref a_this), (1, .ref a_p1), (2, .int (nI g3_2)), (3, .long y5), (5, .int (nI k53_6))] [] 53 := by
        intro r53_6
        induction r53_6 with
        | zero =>
          intro k53_6 t53_6 hk_t53_6 e_t53_6 
          have hkk_t53_6 : 18 = k53_6 := by omega
          subst hkk_t53_6
          refine j_iload X 4 dX12_remain_53 rfl (q := 55) rfl ?_
          refine j_bipush (v := nI 18) X dX12_remain_55 (by decide) (q := 57) rfl ?_
          refine j_icmp_ge (tgt := 74) X dX12_remain_57 (by decide) (q := 60) rfl (fun c7 => ?_) (fun c7 => ?_)
          · skip
            have c7 : 18 ≤ 18 := (nI_leI (a := 18) (b := 18) (by omega) (by omega)).mp c7
            refine j_bipush (v := nI 31) X dX12_remain_74 (by decide) (q := 76) rfl ?_
            refine j_istore (lv' := [(5, .int (nI 31)), (0, .ref a_this), (1, .ref a_p1), (2, .int (nI g3_2)), (3, .long y5)]) X dX12_remain_76 (by decide) rfl (q := 78) rfl ?_
            refine j_lv (lv' := [(0, .ref a_this), (1, .ref a_p1), (2, .int (nI g3_2)), (3, .long y5), (5, .int (nI 31))]) [1, 2, 3, 4, 0] rfl ?_
            have LP78_8 : ∀ (r78_8 : Nat) (t78_8 : (Nat → Int32)), r78_8 ≤ 32 → itd (X12_remain_l78 f_m f_product g3_2 y5) 32 t53_6 = itd (X12_remain_l78 f_m f_product g3_2 y5) r78_8 t78_8 → (DG 18 t78_8) → J p l e { frames := 1, cells := 0, slots := 0, locals := 23 } s m [.ref a_this, .ref a_p1].toArray below meth c D A 13 Q 0 0 [(a_this, .inr (12, mfs ad v_thrown v_connections (nI v_size) (nI v_ids) (nI v_dataAll) (nI v_putCount) (nI v_waiting) (nI v_readSize) v_power v_left v_since v_changes (nI v_rowSize))), (ad 69, .inl (ct 0, 16, .inl f_m)), (ad 74, .inl (ct 0, 18, .inl t78_8)), (a_p1, .inl (ct 0, 16, .inl f_p1)), (ad 73, .inl (ct 0, 32, .inl f_product))] [(0, .ref a_this), (1, .ref a_p1), (2, .int (nI g3_2)), (3, .long y5), (5, .int (dn r78_8))] [] 78 := by
              intro r78_8
              induction r78_8 with
              | zero =>
                intro t78_8 hk_t78_8 e0_t78_8 hi0_t78_8
                have e_t78_8 : t78_8 = itd (X12_remain_l78 f_m f_product g3_2 y5) 32 t53_6 := (e0_t78_8.trans (itd_0 _ _)).symm
                refine j_iload X 4 dX12_remain_78 rfl (q := 80) rfl ?_
                refine j_if_lt (tgt := 286) X dX12_remain_80 (by decide) (q := 83) rfl (fun c9 => ?_) (fun c9 => ?_)
                · skip
                  refine j_iconst (v := nI 0) X dX12_remain_286 (by decide) (q := 287) rfl ?_
                  refine j_istore (lv' := [(5, .int (nI 0)), (0, .ref a_this), (1, .ref a_p1), (2, .int (nI g3_2)), (3, .long y5)]) X dX12_remain_287 (by decide) rfl (q := 289) rfl ?_
                  refine j_lv (lv' := [(0, .ref a_this), (1, .ref a_p1), (2, .int (nI g3_2)), (3, .long y5), (5, .int (nI 0))]) [1, 2, 3, 4, 0] rfl ?_
                  have LP289_10 : ∀ (r289_10 k289_10 : Nat) (t289_10 : (Nat → Int32)), k289_10 + r289_10 = 16 → t289_10 = itr (X12_remain_l289 t78_8) f_p1 k289_10 → J p l e { frames := 1, cells := 0, slots := 0, locals := 23 } s m [.ref a_this, .ref a_p1].toArray below meth c D A 13 Q 0 0 [(a_this, .inr (12, mfs ad v_thrown v_connections (nI v_size) (nI v_ids) (nI v_dataAll) (nI v_putCount) (nI v_waiting) (nI v_readSize) v_power v_left v_since v_changes (nI v_rowSize))), (ad 69, .inl (ct 0, 16, .inl f_m)), (ad 74, .inl (ct 0, 18, .inl t78_8)), (a_p1, .inl (ct 0, 16, .inl t289_10)), (ad 73, .inl (ct 0, 32, .inl f_product))] [(0, .ref a_this), (1, .ref a_p1), (2, .int (nI g3_2)), (3, .long y5), (5, .int (nI k289_10))] [] 289 := by
                    intro r289_10
                    induction r289_10 with
                    | zero =>
                      intro k289_10 t289_10 hk_t289_10 e_t289_10 
                      have hkk_t289_10 : 16 = k289_10 := by omega
                      subst hkk_t289_10
                      refine j_iload X 4 dX12_remain_289 rfl (q := 291) rfl ?_
                      refine j_bipush (v := nI 16) X dX12_remain_291 (by decide) (q := 293) rfl ?_
                      refine j_icmp_ge (tgt := 313) X dX12_remain_293 (by decide) (q := 296) rfl (fun c11 => ?_) (fun c11 => ?_)
                      · skip
                        have c11 : 16 ≤ 16 := (nI_leI (a := 16) (b := 16) (by omega) (by omega)).mp c11
                        rw [hQ]
                        exact j_vret X ((t289_10, t78_8)) dX12_remain_313 (by subst e_g3_2; subst e_g30_3; subst e_y5; subst e_t53_6; subst e_t78_8; subst e_t289_10; rfl) rfl
                      · skip
                        have c11 : ¬ 16 ≤ 16 := fun h => c11 ((nI_leI (a := 16) (b := 16) (by omega) (by omega)).mpr h)
                        exfalso; omega
                    | succ r289_10 ih289_10 =>
                      intro k289_10 t289_10 hk_t289_10 e_t289_10 
                      refine j_iload X 4 dX12_remain_289 rfl (q := 291) rfl ?_
                      refine j_bipush (v := nI 16) X dX12_remain_291 (by decide) (q := 293) rfl ?_
                      refine j_icmp_ge (tgt := 313) X dX12_remain_293 (by decide) (q := 296) rfl (fun c12 => ?_) (fun c12 => ?_)
                      · skip
                        have c12 : 16 ≤ k289_10 := (nI_leI (a := 16) (b := k289_10) (by omega) (by omega)).mp c12
                        exfalso; omega
                      · skip
                        have c12 : ¬ 16 ≤ k289_10 := fun h => c12 ((nI_leI (a := 16) (b := k289_10) (by omega) (by omega)).mpr h)
                        refine j_aload_n X 1 dX12_remain_296 rfl (q := 297) rfl ?_
                        refine j_iload X 4 dX12_remain_297 rfl (q := 299) rfl ?_
                        refine j_aload_n X 0 dX12_remain_299 rfl (q := 300) rfl ?_
                        refine j_get (f := 74) X 0 inT12 rfl rfl (by decide) mw_X12_remain_2 rfl dX12_remain_300 (q := 303) rfl ?_
                        refine j_iload X 4 dX12_remain_303 rfl (q := 305) rfl ?_
                        refine k_iald X 2 rfl (vp_in_nI (by omega) (by omega)) (nI_clamp (by omega)) dX12_remain_305 (q := 306) rfl ?_
                        refine j_topi (fun y13 e_y13 => ?_)
                        refine k_iast (ws2 := [(a_this, .inr (12, mfs ad v_thrown v_connections (nI v_size) (nI v_ids) (nI v_dataAll) (nI v_putCount) (nI v_waiting) (nI v_readSize) v_power v_left v_since v_changes (nI v_rowSize))), (ad 69, .inl (ct 0, 16, .inl f_m)), (ad 74, .inl (ct 0, 18, .inl t78_8)), (a_p1, .inl (ct 0, 16, .inl (upd t289_10 k289_10 y13))), (ad 73, .inl (ct 0, 32, .inl f_product))]) X 3 rfl (vp_in_nI (by omega) (by omega)) (nI_clamp (by omega)) dX12_remain_306 rfl (q := 307) rfl ?_
                        refine j_iinc (v := nI (k289_10 + 1)) (lv' := [(5, .int (nI (k289_10 + 1))), (0, .ref a_this), (1, .ref a_p1), (2, .int (nI g3_2)), (3, .long y5)]) X 4 dX12_remain_307 rfl (nI_inc _ 1) (by decide) rfl (q := 310) rfl ?_
                        refine j_goto (tgt := 289) X dX12_remain_310 (by decide) ?_
                        refine j_lv (lv' := [(0, .ref a_this), (1, .ref a_p1), (2, .int (nI g3_2)), (3, .long y5), (5, .int (nI (k289_10 + 1)))]) [1, 2, 3, 4, 0] rfl ?_
                        have hb : (X12_remain_l289 t78_8) k289_10 t289_10 = upd t289_10 k289_10 y13 := (by subst e_y13; rfl)
                        exact ih289_10 (k289_10 + 1) (upd t289_10 k289_10 y13) (by omega) (by rw [itr_s, ← e_t289_10]; exact hb.symm) 
                  exact LP289_10 16 0 f_p1 (by omega) (itr_0 _ _).symm 
                · skip
                  exact absurd (show dn 0 < 0 by decide) c9
              | succ r78_8 ih78_8 =>
                intro t78_8 hk_t78_8 e_t78_8 hi0_t78_8
                rw [dn_s]
                refine j_iload X 4 dX12_remain_78 rfl (q := 80) rfl ?_
                refine j_if_lt (tgt := 286) X dX12_remain_80 (by decide) (q := 83) rfl (fun c14 => ?_) (fun c14 => ?_)
                · skip
                  have c14 : r78_8 < 0 := (nI_ltI (a := r78_8) (b := 0) (by omega) (by omega)).mp c14
                  exfalso; omega
                · skip
                  have c14 : ¬ r78_8 < 0 := fun h => c14 ((nI_ltI (a := r78_8) (b := 0) (by omega) (by omega)).mpr h)
                  refine j_bipush (v := nI 17) X dX12_remain_83 (by decide) (q := 85) rfl ?_
                  refine j_istore (lv' := [(6, .int (nI 17)), (0, .ref a_this), (1, .ref a_p1), (2, .int (nI g3_2)), (3, .long y5), (5, .int (nI r78_8))]) X dX12_remain_85 (by decide) rfl (q := 87) rfl ?_
                  refine j_lv (lv' := [(0, .ref a_this), (1, .ref a_p1), (2, .int (nI g3_2)), (3, .long y5), (5, .int (nI r78_8)), (6, .int (nI 17))]) [1, 2, 3, 4, 5, 0] rfl ?_
                  have LP87_15 : ∀ (r87_15 : Nat) (t87_15 : (Nat → Int32)), r87_15 ≤ 17 → itd X12_remain_l87 17 t78_8 = itd X12_remain_l87 r87_15 t87_15 → J p l e { frames := 1, cells := 0, slots := 0, locals := 23 } s m [.ref a_this, .ref a_p1].toArray below meth c D A 13 Q 0 0 [(a_this, .inr (12, mfs ad v_thrown v_connections (nI v_size) (nI v_ids) (nI v_dataAll) (nI v_putCount) (nI v_waiting) (nI v_readSize) v_power v_left v_since v_changes (nI v_rowSize))), (ad 69, .inl (ct 0, 16, .inl f_m)), (ad 74, .inl (ct 0, 18, .inl t87_15)), (a_p1, .inl (ct 0, 16, .inl f_p1)), (ad 73, .inl (ct 0, 32, .inl f_product))] [(0, .ref a_this), (1, .ref a_p1), (2, .int (nI g3_2)), (3, .long y5), (5, .int (nI r78_8)), (6, .int (nI r87_15))] [] 87 := by
                    intro r87_15
                    induction r87_15 with
                    | zero =>
                      intro t87_15 hk_t87_15 e0_t87_15 
                      have e_t87_15 : t87_15 = itd X12_remain_l87 17 t78_8 := (e0_t87_15.trans (itd_0 _ _)).symm
                      refine j_iload X 5 dX12_remain_87 rfl (q := 89) rfl ?_
                      refine j_if_le (tgt := 114) X dX12_remain_89 (by decide) (q := 92) rfl (fun c16 => ?_) (fun c16 => ?_)
                      · skip
                        have c16 : 0 ≤ 0 := (nI_leI (a := 0) (b := 0) (by omega) (by omega)).mp c16
                        refine j_aload_n X 0 dX12_remain_114 rfl (q := 115) rfl ?_
                        refine j_get (f := 74) X 0 inT12 rfl rfl (by decide) mw_X12_remain_2 rfl dX12_remain_115 (q := 118) rfl ?_
                        refine j_iconst (v := nI 0) X dX12_remain_118 (by decide) (q := 119) rfl ?_
                        refine j_aload_n X 0 dX12_remain_119 rfl (q := 120) rfl ?_
                        refine j_get (f := 73) X 0 inT12 rfl rfl (by decide) mw_X12_remain_3 rfl dX12_remain_120 (q := 123) rfl ?_
                        refine j_iload X 4 dX12_remain_123 rfl (q := 125) rfl ?_
                        refine k_iald X 4 rfl (vp_in_nI (by omega) (by omega)) (nI_clamp (by omega)) dX12_remain_125 (q := 126) rfl ?_
                        refine j_topi (fun y17 e_y17 => ?_)
                        refine k_iast (ws2 := [(a_this, .inr (12, mfs ad v_thrown v_connections (nI v_size) (nI v_ids) (nI v_dataAll) (nI v_putCount) (nI v_waiting) (nI v_readSize) v_power v_left v_since v_changes (nI v_rowSize))), (ad 69, .inl (ct 0, 16, .inl f_m)), (ad 74, .inl (ct 0, 18, .inl (upd t87_15 0 y17))), (a_p1, .inl (ct 0, 16, .inl f_p1)), (ad 73, .inl (ct 0, 32, .inl f_product))]) X 2 rfl (vp_in_nI (by omega) (by omega)) (nI_clamp (by omega)) dX12_remain_126 rfl (q := 127) rfl ?_
                        refine j_lv (lv' := [(0, .ref a_this), (1, .ref a_p1), (2, .int (nI g3_2)), (3, .long y5), (5, .int (nI r78_8))]) [0, 1, 2, 3, 4] rfl ?_
                        have KE127_18 : ∀ g127_19 : (Nat → Int32), g127_19 = mrg (itx (X12_remain_l127 f_m g3_2 y5) FU 0 (upd t87_15 0 y17)) → (DG 18 g127_19) → J p l e { frames := 1, cells := 0, slots := 0, locals := 23 } s m [.ref a_this, .ref a_p1].toArray below meth c D A 13 Q 0 0 [(a_this, .inr (12, mfs ad v_thrown v_connections (nI v_size) (nI v_ids) (nI v_dataAll) (nI v_putCount) (nI v_waiting) (nI v_readSize) v_power v_left v_since v_changes (nI v_rowSize))), (ad 69, .inl (ct 0, 16, .inl f_m)), (ad 74, .inl (ct 0, 18, .inl g127_19)), (a_p1, .inl (ct 0, 16, .inl f_p1)), (ad 73, .inl (ct 0, 32, .inl f_product))] [(0, .ref a_this), (1, .ref a_p1), (2, .int (nI g3_2)), (3, .long y5), (5, .int (nI r78_8))] [] 280 := by
                          intro g127_19 e_g127_19 hx0_g127_19
                          refine j_iinc (v := dn r78_8) (lv' := [(5, .int (dn r78_8)), (0, .ref a_this), (1, .ref a_p1), (2, .int (nI g3_2)), (3, .long y5)]) X 4 dX12_remain_280 rfl (dn_dec _) (by decide) rfl (q := 283) rfl ?_
                          refine j_goto (tgt := 78) X dX12_remain_283 (by decide) ?_
                          refine j_lv (lv' := [(0, .ref a_this), (1, .ref a_p1), (2, .int (nI g3_2)), (3, .long y5), (5, .int (dn r78_8))]) [1, 2, 3, 4, 0] rfl ?_
                          have hb : (X12_remain_l78 f_m f_product g3_2 y5) r78_8 t78_8 = g127_19 := (by subst e_t87_15; subst e_y17; subst e_g127_19; rfl)
                          exact ih78_8 g127_19 (by omega) (by rw [e_t78_8, itd_s, hb]) (show DG 18 g127_19 from hx0_g127_19)
                        have LP127_18 : ∀ (r127_18 k127_18 : Nat) (t127_18 : (Nat → Int32)), itx (X12_remain_l127 f_m g3_2 y5) FU 0 (upd t87_15 0 y17) = itx (X12_remain_l127 f_m g3_2 y5) r127_18 k127_18 t127_18 → (DG 18 t127_18 ∧ VV t127_18 18 < r127_18) → J p l e { frames := 1, cells := 0, slots := 0, locals := 23 } s m [.ref a_this, .ref a_p1].toArray below meth c D A 13 Q 0 0 [(a_this, .inr (12, mfs ad v_thrown v_connections (nI v_size) (nI v_ids) (nI v_dataAll) (nI v_putCount) (nI v_waiting) (nI v_readSize) v_power v_left v_since v_changes (nI v_rowSize))), (ad 69, .inl (ct 0, 16, .inl f_m)), (ad 74, .inl (ct 0, 18, .inl t127_18)), (a_p1, .inl (ct 0, 16, .inl f_p1)), (ad 73, .inl (ct 0, 32, .inl f_product))] [(0, .ref a_this), (1, .ref a_p1), (2, .int (nI g3_2)), (3, .long y5), (5, .int (nI r78_8))] [] 127 := by
                          intro r127_18
                          induction r127_18 with
                          | zero =>
                            intro k127_18 t127_18 e_t127_18 hi0_t127_18
                            exact absurd hi0_t127_18.2 (Nat.not_lt_zero _)
                          | succ r127_18 ih127_18 =>
                            intro k127_18 t127_18 e_t127_18 hi0_t127_18
                            refine j_aload_n X 0 dX12_remain_127 rfl (q := 128) rfl ?_
                            refine j_iload_n X 2 dX12_remain_128 rfl (q := 129) rfl ?_
                            refine j_callVi (As := [.int (nI g3_2)]) (rest := []) (wn := (fun u20 => [(a_this, .inr (12, mfs ad v_thrown v_connections (nI v_size) (nI v_ids) (nI v_dataAll) (nI v_putCount) (nI v_waiting) (nI v_readSize) v_power v_left v_since v_changes (nI v_rowSize))), (ad 69, .inl (ct 0, 16, .inl f_m)), (ad 74, .inl (ct 0, 18, .inl t127_18)), (a_p1, .inl (ct 0, 16, .inl f_p1)), (ad 73, .inl (ct 0, 32, .inl f_product))])) (wr := [(a_p1, .inl (ct 0, 16, .inl f_p1)), (ad 73, .inl (ct 0, 32, .inl f_product))]) X (fun sz => c_X12_isLess l D ct ts a_this ad v_thrown v_connections v_size v_ids v_dataAll v_putCount v_waiting v_readSize v_power v_left v_since v_changes v_rowSize t127_18 f_m (nI g3_2)  sz) cal_X12_isLess 0 rfl rfl mw_X12_remain_5 cwi_X12_isLess cws_X12_isLess rfl ⟨by decide, by decide⟩ rfl rfl (Nat.le_of_ble_eq_true rfl) ⟨by decide, by decide⟩ [0, 2, 1] [3, 4] [2, 4, 3, 0, 1] rfl (by decide) rfl (by decide) (by decide) (fun _ => rfl) (by decide) dX12_remain_129 (q := 132) rfl (fun r21 u20 hu20 => ?_)
                            have hu20 : r21 = f_X12_isLess t127_18 f_m := hu20
                            subst hu20
                            refine j_if_ne (tgt := 280) X dX12_remain_132 (by decide) (q := 135) rfl (fun c23 => ?_) (fun c23 => ?_)
                            · skip
                              refine j_lv (lv' := [(0, .ref a_this), (1, .ref a_p1), (2, .int (nI g3_2)), (3, .long y5), (5, .int (nI r78_8))]) [0, 1, 2, 3, 4] rfl ?_
                              have hb24 : (X12_remain_l127 f_m g3_2 y5) k127_18 t127_18 = .inr t127_18 := (by first | rfl | (simp only [X12_remain_l127, if_neg c23]; done) | (simp only [X12_remain_l127, if_neg c23]; rfl))
                              exact KE127_18 t127_18 (by rw [e_t127_18, itx_out hb24]; rfl) (show DG 18 t127_18 from hi0_t127_18.1)
                            · skip
                              refine j_ldc2 X mw_X12_remain_1 dX12_remain_135 (q := 138) rfl ?_
                              refine j_ldc2 X mw_X12_remain_1 dX12_remain_138 (q := 141) rfl ?_
                              refine j_aload_n X 0 dX12_remain_141 rfl (q := 142) rfl ?_
                              refine j_get (f := 74) X 0 inT12 rfl rfl (by decide) mw_X12_remain_2 rfl dX12_remain_142 (q := 145) rfl ?_
                              refine j_iload_n X 2 dX12_remain_145 rfl (q := 146) rfl ?_
                              refine j_iconst (v := nI 1) X dX12_remain_146 (by decide) (q := 147) rfl ?_
                              refine j_iadd X dX12_remain_147 (q := 148) rfl ?_
                              refine j_eqi (nI_add _ _) ?_
                              refine k_iald X 2 rfl (vp_in_nI (by omega) (by omega)) (nI_clamp (by omega)) dX12_remain_148 (q := 149) rfl ?_
                              refine j_i2l X dX12_remain_149 (q := 150) rfl ?_
                              refine j_lmul X dX12_remain_150 (q := 151) rfl ?_
                              refine j_aload_n X 0 dX12_remain_151 rfl (q := 152) rfl ?_
                              refine j_get (f := 74) X 0 inT12 rfl rfl (by decide) mw_X12_remain_2 rfl dX12_remain_152 (q := 155) rfl ?_
                              refine j_iload_n X 2 dX12_remain_155 rfl (q := 156) rfl ?_
                              refine k_iald X 2 rfl (vp_in_nI (by omega) (by omega)) (nI_clamp (by omega)) dX12_remain_156 (q := 157) rfl ?_
                              refine j_i2l X dX12_remain_157 (q := 158) rfl ?_
                              refine j_ladd X dX12_remain_158 (q := 159) rfl ?_
                              refine j_lmul X dX12_remain_159 (q := 160) rfl ?_
                              refine j_iload_n X 2 dX12_remain_160 rfl (q := 161) rfl ?_
                              have KJ161_25 : ∀ g161_25 : (Int32), g161_25 = X12_remain_m161 g3_2 t127_18 → J p l e { frames := 1, cells := 0, slots := 0, locals := 23 } s m [.ref a_this, .ref a_p1].toArray below meth c D A 13 Q 0 0 [(a_this, .inr (12, mfs ad v_thrown v_connections (nI v_size) (nI v_ids) (nI v_dataAll) (nI v_putCount) (nI v_waiting) (nI v_readSize) v_power v_left v_since v_changes (nI v_rowSize))), (ad 69, .inl (ct 0, 16, .inl f_m)), (ad 74, .inl (ct 0, 18, .inl t127_18)), (a_p1, .inl (ct 0, 16, .inl f_p1)), (ad 73, .inl (ct 0, 32, .inl f_product))] [(0, .ref a_this), (1, .ref a_p1), (2, .int (nI g3_2)), (3, .long y5), (5, .int (nI r78_8))] [.int g161_25, .long (((65536 : Int64)) * ((((65536 : Int64)) * ((t127_18 (g3_2 + 1)).toInt64)) + ((t127_18 g3_2).toInt64)))] 176 := by
                                intro g161_25 e_g161_25
                                refine j_i2l X dX12_remain_176 (q := 177) rfl ?_
                                refine j_ladd X dX12_remain_177 (q := 178) rfl ?_
                                refine j_topl (fun y27 e_y27 => ?_)
                                refine j_lstore (lv' := [(6, .long y27), (0, .ref a_this), (1, .ref a_p1), (2, .int (nI g3_2)), (3, .long y5), (5, .int (nI r78_8))]) X dX12_remain_178 (by decide) rfl (q := 180) rfl ?_
                                refine j_lload X 0 dX12_remain_180 rfl (q := 182) rfl ?_
                                refine j_lload_n X 4 dX12_remain_182 rfl (q := 183) rfl ?_
                                refine j_ldiv X dX12_remain_183 (rm_high0 hDm hx0_g3_2 e_g30_3 e_y5) (q := 184) rfl ?_
                                refine j_topl (fun y28 e_y28 => ?_)
                                refine j_lstore (lv' := [(8, .long y28), (6, .long y27), (0, .ref a_this), (1, .ref a_p1), (2, .int (nI g3_2)), (3, .long y5), (5, .int (nI r78_8))]) X dX12_remain_184 (by decide) rfl (q := 186) rfl ?_
                                refine j_lload X 0 dX12_remain_186 rfl (q := 188) rfl ?_
                                refine j_lconst (v := 1) X dX12_remain_188 (by decide) (q := 189) rfl ?_
                                refine j_lcmp X dX12_remain_189 (q := 190) rfl ?_
                                have KJ190_29 : ∀ g190_29 : (Int64), g190_29 = X12_remain_m190 y28 → J p l e { frames := 1, cells := 0, slots := 0, locals := 23 } s m [.ref a_this, .ref a_p1].toArray below meth c D A 13 Q 0 0 [(a_this, .inr (12, mfs ad v_thrown v_connections (nI v_size) (nI v_ids) (nI v_dataAll) (nI v_putCount) (nI v_waiting) (nI v_readSize) v_power v_left v_since v_changes (nI v_rowSize))), (ad 69, .inl (ct 0, 16, .inl f_m)), (ad 74, .inl (ct 0, 18, .inl t127_18)), (a_p1, .inl (ct 0, 16, .inl f_p1)), (ad 73, .inl (ct 0, 32, .inl f_product))] [(0, .ref a_this), (1, .ref a_p1), (2, .int (nI g3_2)), (3, .long y5), (5, .int (nI r78_8)), (6, .long y27), (8, .long y28)] [.long g190_29] 199 := by
                                  intro g190_29 e_g190_29
                                  refine j_lstore (lv' := [(8, .long g190_29), (0, .ref a_this), (1, .ref a_p1), (2, .int (nI g3_2)), (3, .long y5), (5, .int (nI r78_8)), (6, .long y27)]) X dX12_remain_199 (by decide) rfl (q := 201) rfl ?_
                                  refine j_lconst (v := 0) X dX12_remain_201 (by decide) (q := 202) rfl ?_
                                  refine j_topl (fun y31 e_y31 => ?_)
                                  refine j_lstore (lv' := [(10, .long y31), (8, .long g190_29), (0, .ref a_this), (1, .ref a_p1), (2, .int (nI g3_2)), (3, .long y5), (5, .int (nI r78_8)), (6, .long y27)]) X dX12_remain_202 (by decide) rfl (q := 204) rfl ?_
                                  refine j_iconst (v := nI 0) X dX12_remain_204 (by decide) (q := 205) rfl ?_
                                  refine j_istore (lv' := [(12, .int (nI 0)), (10, .long y31), (8, .long g190_29), (0, .ref a_this), (1, .ref a_p1), (2, .int (nI g3_2)), (3, .long y5), (5, .int (nI r78_8)), (6, .long y27)]) X dX12_remain_205 (by decide) rfl (q := 207) rfl ?_
                                  refine j_lv (lv' := [(0, .ref a_this), (1, .ref a_p1), (2, .int (nI g3_2)), (3, .long y5), (5, .int (nI r78_8)), (6, .long y27), (8, .long g190_29), (10, .long y31), (12, .int (nI 0))]) [3, 4, 5, 6, 7, 8, 2, 1, 0] rfl ?_
                                  have LP207_32 : ∀ (r207_32 k207_32 : Nat) (t207_32 : (Nat → Int32) × (Int64)), k207_32 + r207_32 = 18 → t207_32 = itr (X12_remain_l207 f_m g190_29) ((t127_18, y31)) k207_32 → J p l e { frames := 1, cells := 0, slots := 0, locals := 23 } s m [.ref a_this, .ref a_p1].toArray below meth c D A 13 Q 0 0 [(a_this, .inr (12, mfs ad v_thrown v_connections (nI v_size) (nI v_ids) (nI v_dataAll) (nI v_putCount) (nI v_waiting) (nI v_readSize) v_power v_left v_since v_changes (nI v_rowSize))), (ad 69, .inl (ct 0, 16, .inl f_m)), (ad 74, .inl (ct 0, 18, .inl t207_32.1)), (a_p1, .inl (ct 0, 16, .inl f_p1)), (ad 73, .inl (ct 0, 32, .inl f_product))] [(0, .ref a_this), (1, .ref a_p1), (2, .int (nI g3_2)), (3, .long y5), (5, .int (nI r78_8)), (6, .long y27), (8, .long g190_29), (10, .long t207_32.2), (12, .int (nI k207_32))] [] 207 := by
                                    intro r207_32
                                    induction r207_32 with
                                    | zero =>
                                      intro k207_32 t207_32 hk_t207_32 e_t207_32 
                                      have hkk_t207_32 : 18 = k207_32 := by omega
                                      subst hkk_t207_32
                                      refine j_iload X 8 dX12_remain_207 rfl (q := 209) rfl ?_
                                      refine j_bipush (v := nI 18) X dX12_remain_209 (by decide) (q := 211) rfl ?_
                                      refine j_icmp_ge (tgt := 277) X dX12_remain_211 (by decide) (q := 214) rfl (fun c33 => ?_) (fun c33 => ?_)
                                      · skip
                                        have c33 : 18 ≤ 18 := (nI_leI (a := 18) (b := 18) (by omega) (by omega)).mp c33
                                        refine j_goto (tgt := 127) X dX12_remain_277 (by decide) ?_
                                        refine j_lv (lv' := [(0, .ref a_this), (1, .ref a_p1), (2, .int (nI g3_2)), (3, .long y5), (5, .int (nI r78_8))]) [0, 1, 2, 3, 4] rfl ?_
                                        have hb : (X12_remain_l127 f_m g3_2 y5) k127_18 t127_18 = .inl t207_32.1 := (by subst e_g161_25; subst e_y27; subst e_y28; subst e_g190_29; subst e_y31; subst e_t207_32; first | rfl | (simp only [X12_remain_l127, if_pos c23]; done) | (simp only [X12_remain_l127, if_pos c23]; rfl))
                                        exact ih127_18 (k127_18 + 1) t207_32.1 (e_t127_18.trans (itx_in hb)) (show DG 18 t207_32.1 ∧ VV t207_32.1 18 < r127_18 from rm_step_inv hDm hm hx0_g3_2 e_g30_3 e_y5 hi0_t127_18 hb)
                                      · skip
                                        have c33 : ¬ 18 ≤ 18 := fun h => c33 ((nI_leI (a := 18) (b := 18) (by omega) (by omega)).mpr h)
                                        exfalso; omega
                                    | succ r207_32 ih207_32 =>
                                      intro k207_32 t207_32 hk_t207_32 e_t207_32 
                                      refine j_iload X 8 dX12_remain_207 rfl (q := 209) rfl ?_
                                      refine j_bipush (v := nI 18) X dX12_remain_209 (by decide) (q := 211) rfl ?_
                                      refine j_icmp_ge (tgt := 277) X dX12_remain_211 (by decide) (q := 214) rfl (fun c34 => ?_) (fun c34 => ?_)
                                      · skip
                                        have c34 : 18 ≤ k207_32 := (nI_leI (a := 18) (b := k207_32) (by omega) (by omega)).mp c34
                                        exfalso; omega
                                      · skip
                                        have c34 : ¬ 18 ≤ k207_32 := fun h => c34 ((nI_leI (a := 18) (b := k207_32) (by omega) (by omega)).mpr h)
                                        refine j_lload X 7 dX12_remain_214 rfl (q := 216) rfl ?_
                                        refine j_aload_n X 0 dX12_remain_216 rfl (q := 217) rfl ?_
                                        refine j_get (f := 74) X 0 inT12 rfl rfl (by decide) mw_X12_remain_2 rfl dX12_remain_217 (q := 220) rfl ?_
                                        refine j_iload X 8 dX12_remain_220 rfl (q := 222) rfl ?_
                                        refine k_iald X 2 rfl (vp_in_nI (by omega) (by omega)) (nI_clamp (by omega)) dX12_remain_222 (q := 223) rfl ?_
                                        refine j_i2l X dX12_remain_223 (q := 224) rfl ?_
                                        refine j_ladd X dX12_remain_224 (q := 225) rfl ?_
                                        refine j_iload X 8 dX12_remain_225 rfl (q := 227) rfl ?_
                                        refine j_bipush (v := nI 16) X dX12_remain_227 (by decide) (q := 229) rfl ?_
                                        have KJ229_35 : ∀ g229_35 : (Int64), g229_35 = X12_remain_m229 f_m g190_29 k207_32 → J p l e { frames := 1, cells := 0, slots := 0, locals := 23 } s m [.ref a_this, .ref a_p1].toArray below meth c D A 13 Q 0 0 [(a_this, .inr (12, mfs ad v_thrown v_connections (nI v_size) (nI v_ids) (nI v_dataAll) (nI v_putCount) (nI v_waiting) (nI v_readSize) v_power v_left v_since v_changes (nI v_rowSize))), (ad 69, .inl (ct 0, 16, .inl f_m)), (ad 74, .inl (ct 0, 18, .inl t207_32.1)), (a_p1, .inl (ct 0, 16, .inl f_p1)), (ad 73, .inl (ct 0, 32, .inl f_product))] [(0, .ref a_this), (1, .ref a_p1), (2, .int (nI g3_2)), (3, .long y5), (5, .int (nI r78_8)), (6, .long y27), (8, .long g190_29), (10, .long t207_32.2), (12, .int (nI k207_32))] [.long g229_35, .long (t207_32.2 + ((t207_32.1 k207_32).toInt64))] 247 := by
                                          intro g229_35 e_g229_35
                                          refine j_lsub X dX12_remain_247 (q := 248) rfl ?_
                                          refine j_topl (fun y37 e_y37 => ?_)
                                          refine j_lstore (lv' := [(10, .long y37), (0, .ref a_this), (1, .ref a_p1), (2, .int (nI g3_2)), (3, .long y5), (5, .int (nI r78_8)), (6, .long y27), (8, .long g190_29), (12, .int (nI k207_32))]) X dX12_remain_248 (by decide) rfl (q := 250) rfl ?_
                                          refine j_aload_n X 1 dX12_remain_250 rfl (q := 251) rfl ?_
                                          refine j_get (f := 74) X 0 inT12 rfl rfl (by decide) mw_X12_remain_2 rfl dX12_remain_251 (q := 254) rfl ?_
                                          refine j_iload X 8 dX12_remain_254 rfl (q := 256) rfl ?_
                                          refine j_lload X 0 dX12_remain_256 rfl (q := 258) rfl ?_
                                          refine j_ldc2 X mw_X12_remain_4 dX12_remain_258 (q := 261) rfl ?_
                                          refine j_land X dX12_remain_261 (q := 262) rfl ?_
                                          refine j_l2i X dX12_remain_262 (q := 263) rfl ?_
                                          refine j_topi (fun y38 e_y38 => ?_)
                                          refine k_iast (ws2 := [(a_this, .inr (12, mfs ad v_thrown v_connections (nI v_size) (nI v_ids) (nI v_dataAll) (nI v_putCount) (nI v_waiting) (nI v_readSize) v_power v_left v_since v_changes (nI v_rowSize))), (ad 69, .inl (ct 0, 16, .inl f_m)), (ad 74, .inl (ct 0, 18, .inl (upd t207_32.1 k207_32 y38))), (a_p1, .inl (ct 0, 16, .inl f_p1)), (ad 73, .inl (ct 0, 32, .inl f_product))]) X 2 rfl (vp_in_nI (by omega) (by omega)) (nI_clamp (by omega)) dX12_remain_263 rfl (q := 264) rfl ?_
                                          refine j_lload X 0 dX12_remain_264 rfl (q := 266) rfl ?_
                                          refine j_bipush (v := nI 16) X dX12_remain_266 (by decide) (q := 268) rfl ?_
                                          refine j_lshr X dX12_remain_268 (q := 269) rfl ?_
                                          refine j_topl (fun y39 e_y39 => ?_)
                                          refine j_lstore (lv' := [(10, .long y39), (0, .ref a_this), (1, .ref a_p1), (2, .int (nI g3_2)), (3, .long y5), (5, .int (nI r78_8)), (6, .long y27), (8, .long g190_29), (12, .int (nI k207_32))]) X dX12_remain_269 (by decide) rfl (q := 271) rfl ?_
                                          refine j_iinc (v := nI (k207_32 + 1)) (lv' := [(12, .int (nI (k207_32 + 1))), (10, .long y39), (0, .ref a_this), (1, .ref a_p1), (2, .int (nI g3_2)), (3, .long y5), (5, .int (nI r78_8)), (6, .long y27), (8, .long g190_29)]) X 8 dX12_remain_271 rfl (nI_inc _ 1) (by decide) rfl (q := 274) rfl ?_
                                          refine j_goto (tgt := 207) X dX12_remain_274 (by decide) ?_
                                          refine j_lv (lv' := [(0, .ref a_this), (1, .ref a_p1), (2, .int (nI g3_2)), (3, .long y5), (5, .int (nI r78_8)), (6, .long y27), (8, .long g190_29), (10, .long y39), (12, .int (nI (k207_32 + 1)))]) [2, 3, 4, 5, 6, 7, 8, 1, 0] rfl ?_
                                          have hb : (X12_remain_l207 f_m g190_29) k207_32 t207_32 = (upd t207_32.1 k207_32 y38, y39) := (by subst e_g229_35; subst e_y37; subst e_y38; subst e_y39; rfl)
                                          exact ih207_32 (k207_32 + 1) ((upd t207_32.1 k207_32 y38, y39)) (by omega) (by rw [itr_s, ← e_t207_32]; exact hb.symm) 
                                        refine j_icmp_ge (tgt := 246) X dX12_remain_229 (by decide) (q := 232) rfl (fun c36 => ?_) (fun c36 => ?_)
                                        · skip
                                          have c36 : 16 ≤ k207_32 := (nI_leI (a := 16) (b := k207_32) (by omega) (by omega)).mp c36
                                          refine j_lconst (v := 0) X dX12_remain_246 (by decide) (q := 247) rfl ?_
                                          refine j_lv (lv' := [(0, .ref a_this), (1, .ref a_p1), (2, .int (nI g3_2)), (3, .long y5), (5, .int (nI r78_8)), (6, .long y27), (8, .long g190_29), (10, .long t207_32.2), (12, .int (nI k207_32))]) [0, 1, 2, 3, 4, 5, 6, 7, 8] rfl ?_
                                          exact KJ229_35 ((0 : Int64)) (by first | rfl | (simp only [X12_remain_m229, if_pos c36]; done) | (simp only [X12_remain_m229, if_pos c36]; rfl))
                                        · skip
                                          have c36 : ¬ 16 ≤ k207_32 := fun h => c36 ((nI_leI (a := 16) (b := k207_32) (by omega) (by omega)).mpr h)
                                          refine j_lload X 6 dX12_remain_232 rfl (q := 234) rfl ?_
                                          refine j_aload_n X 0 dX12_remain_234 rfl (q := 235) rfl ?_
                                          refine j_get (f := 69) X 0 inT12 rfl rfl (by decide) mw_X12_remain_0 rfl dX12_remain_235 (q := 238) rfl ?_
                                          refine j_iload X 8 dX12_remain_238 rfl (q := 240) rfl ?_
                                          refine k_iald X 1 rfl (vp_in_nI (by omega) (by omega)) (nI_clamp (by omega)) dX12_remain_240 (q := 241) rfl ?_
                                          refine j_i2l X dX12_remain_241 (q := 242) rfl ?_
                                          refine j_lmul X dX12_remain_242 (q := 243) rfl ?_
                                          refine j_goto (tgt := 247) X dX12_remain_243 (by decide) ?_
                                          refine j_lv (lv' := [(0, .ref a_this), (1, .ref a_p1), (2, .int (nI g3_2)), (3, .long y5), (5, .int (nI r78_8)), (6, .long y27), (8, .long g190_29), (10, .long t207_32.2), (12, .int (nI k207_32))]) [0, 1, 2, 3, 4, 5, 6, 7, 8] rfl ?_
                                          exact KJ229_35 (g190_29 * ((f_m k207_32).toInt64)) (by first | rfl | (simp only [X12_remain_m229, if_neg c36]; done) | (simp only [X12_remain_m229, if_neg c36]; rfl))
                                  exact LP207_32 18 0 ((t127_18, y31)) (by omega) (itr_0 _ _).symm 
                                refine j_if_ge (tgt := 197) X dX12_remain_190 (by decide) (q := 193) rfl (fun c30 => ?_) (fun c30 => ?_)
                                · skip
                                  refine j_lload X 0 dX12_remain_197 rfl (q := 199) rfl ?_
                                  refine j_lv (lv' := [(0, .ref a_this), (1, .ref a_p1), (2, .int (nI g3_2)), (3, .long y5), (5, .int (nI r78_8)), (6, .long y27), (8, .long y28)]) [2, 3, 4, 5, 6, 1, 0] rfl ?_
                                  exact KJ190_29 y28 (by first | rfl | (simp only [X12_remain_m190, if_pos c30]; done) | (simp only [X12_remain_m190, if_pos c30]; rfl))
                                · skip
                                  refine j_lconst (v := 1) X dX12_remain_193 (by decide) (q := 194) rfl ?_
                                  refine j_goto (tgt := 199) X dX12_remain_194 (by decide) ?_
                                  refine j_lv (lv' := [(0, .ref a_this), (1, .ref a_p1), (2, .int (nI g3_2)), (3, .long y5), (5, .int (nI r78_8)), (6, .long y27), (8, .long y28)]) [2, 3, 4, 5, 6, 1, 0] rfl ?_
                                  exact KJ190_29 ((1 : Int64)) (by first | rfl | (simp only [X12_remain_m190, if_neg c30]; done) | (simp only [X12_remain_m190, if_neg c30]; rfl))
                              refine j_if_le (tgt := 175) X dX12_remain_161 (by decide) (q := 164) rfl (fun c26 => ?_) (fun c26 => ?_)
                              · skip
                                have c26 : g3_2 ≤ 0 := (nI_leI (a := g3_2) (b := 0) (by omega) (by omega)).mp c26
                                refine j_iconst (v := nI 0) X dX12_remain_175 (by decide) (q := 176) rfl ?_
                                refine j_lv (lv' := [(0, .ref a_this), (1, .ref a_p1), (2, .int (nI g3_2)), (3, .long y5), (5, .int (nI r78_8))]) [0, 1, 2, 3, 4] rfl ?_
                                exact KJ161_25 (nI 0) (by first | rfl | (simp only [X12_remain_m161, if_pos c26]; done) | (simp only [X12_remain_m161, if_pos c26]; rfl))
                              · skip
                                have c26 : ¬ g3_2 ≤ 0 := fun h => c26 ((nI_leI (a := g3_2) (b := 0) (by omega) (by omega)).mpr h)
                                refine j_aload_n X 0 dX12_remain_164 rfl (q := 165) rfl ?_
                                refine j_get (f := 74) X 0 inT12 rfl rfl (by decide) mw_X12_remain_2 rfl dX12_remain_165 (q := 168) rfl ?_
                                refine j_iload_n X 2 dX12_remain_168 rfl (q := 169) rfl ?_
                                refine j_iconst (v := nI 1) X dX12_remain_169 (by decide) (q := 170) rfl ?_
                                refine j_isub X dX12_remain_170 (q := 171) rfl ?_
                                refine j_eqi (pk_sub (by omega)) ?_
                                refine k_iald X 2 rfl (vp_in_nI (by omega) (by omega)) (nI_clamp (by omega)) dX12_remain_171 (q := 172) rfl ?_
                                refine j_goto (tgt := 176) X dX12_remain_172 (by decide) ?_
                                refine j_lv (lv' := [(0, .ref a_this), (1, .ref a_p1), (2, .int (nI g3_2)), (3, .long y5), (5, .int (nI r78_8))]) [0, 1, 2, 3, 4] rfl ?_
                                exact KJ161_25 (t127_18 (g3_2 - 1)) (by first | rfl | (simp only [X12_remain_m161, if_neg c26]; done) | (simp only [X12_remain_m161, if_neg c26]; rfl))
                        exact LP127_18 FU 0 (upd t87_15 0 y17) rfl (show DG 18 (upd t87_15 0 y17) ∧ VV (upd t87_15 0 y17) 18 < FU from rm_in0 hi0_t78_8 (hDp _ (by omega)) e_t87_15 e_y17)
                      · skip
                        have c16 : ¬ 0 ≤ 0 := fun h => c16 ((nI_leI (a := 0) (b := 0) (by omega) (by omega)).mpr h)
                        exfalso; omega
                    | succ r87_15 ih87_15 =>
                      intro t87_15 hk_t87_15 e_t87_15 
                      refine j_iload X 5 dX12_remain_87 rfl (q := 89) rfl ?_
                      refine j_if_le (tgt := 114) X dX12_remain_89 (by decide) (q := 92) rfl (fun c40 => ?_) (fun c40 => ?_)
                      · skip
                        have c40 : r87_15 + 1 ≤ 0 := (nI_leI (a := r87_15 + 1) (b := 0) (by omega) (by omega)).mp c40
                        exfalso; omega
                      · skip
                        have c40 : ¬ r87_15 + 1 ≤ 0 := fun h => c40 ((nI_leI (a := r87_15 + 1) (b := 0) (by omega) (by omega)).mpr h)
                        refine j_aload_n X 0 dX12_remain_92 rfl (q := 93) rfl ?_
                        refine j_get (f := 74) X 0 inT12 rfl rfl (by decide) mw_X12_remain_2 rfl dX12_remain_93 (q := 96) rfl ?_
                        refine j_iload X 5 dX12_remain_96 rfl (q := 98) rfl ?_
                        refine j_aload_n X 0 dX12_remain_98 rfl (q := 99) rfl ?_
                        refine j_get (f := 74) X 0 inT12 rfl rfl (by decide) mw_X12_remain_2 rfl dX12_remain_99 (q := 102) rfl ?_
                        refine j_iload X 5 dX12_remain_102 rfl (q := 104) rfl ?_
                        refine j_iconst (v := nI 1) X dX12_remain_104 (by decide) (q := 105) rfl ?_
                        refine j_isub X dX12_remain_105 (q := 106) rfl ?_
                        refine j_eqi (pk_sub (by omega)) ?_
                        refine k_iald X 2 rfl (vp_in_nI (by omega) (by omega)) (nI_clamp (by omega)) dX12_remain_106 (q := 107) rfl ?_
                        refine j_topi (fun y41 e_y41 => ?_)
                        refine k_iast (ws2 := [(a_this, .inr (12, mfs ad v_thrown v_connections (nI v_size) (nI v_ids) (nI v_dataAll) (nI v_putCount) (nI v_waiting) (nI v_readSize) v_power v_left v_since v_changes (nI v_rowSize))), (ad 69, .inl (ct 0, 16, .inl f_m)), (ad 74, .inl (ct 0, 18, .inl (upd t87_15 (r87_15 + 1) y41))), (a_p1, .inl (ct 0, 16, .inl f_p1)), (ad 73, .inl (ct 0, 32, .inl f_product))]) X 2 rfl (vp_in_nI (by omega) (by omega)) (nI_clamp (by omega)) dX12_remain_107 rfl (q := 108) rfl ?_
                        refine j_iinc (v := nI (r87_15 + 1 - 1)) (lv' := [(6, .int (nI (r87_15 + 1 - 1))), (0, .ref a_this), (1, .ref a_p1), (2, .int (nI g3_2)), (3, .long y5), (5, .int (nI r78_8))]) X 5 dX12_remain_108 rfl (nI_dec (n := 1) (by omega)) (by decide) rfl (q := 111) rfl ?_
                        refine j_goto (tgt := 87) X dX12_remain_111 (by decide) ?_
                        refine j_lv (lv' := [(0, .ref a_this), (1, .ref a_p1), (2, .int (nI g3_2)), (3, .long y5), (5, .int (nI r78_8)), (6, .int (nI (r87_15 + 1 - 1)))]) [1, 2, 3, 4, 5, 0] rfl ?_
                        have hb : X12_remain_l87 r87_15 t87_15 = upd t87_15 (r87_15 + 1) y41 := (by subst e_y41; rfl)
                        exact ih87_15 (upd t87_15 (r87_15 + 1) y41) (by omega) (by rw [e_t87_15, itd_s, hb]) 
                  exact LP87_15 17 t78_8 (by omega) rfl 
            exact LP78_8 32 t53_6 (by omega) rfl (show DG 18 t53_6 from by rw [e_t53_6]; exact rm_zero_dg)
          · skip
            have c7 : ¬ 18 ≤ 18 := fun h => c7 ((nI_leI (a := 18) (b := 18) (by omega) (by omega)).mpr h)
            exfalso; omega
        | succ r53_6 ih53_6 =>
          intro k53_6 t53_6 hk_t53_6 e_t53_6 
          refine j_iload X 4 dX12_remain_53 rfl (q := 55) rfl ?_
          refine j_bipush (v := nI 18) X dX12_remain_55 (by decide) (q := 57) rfl ?_
          refine j_icmp_ge (tgt := 74) X dX12_remain_57 (by decide) (q := 60) rfl (fun c42 => ?_) (fun c42 => ?_)
          · skip
            have c42 : 18 ≤ k53_6 := (nI_leI (a := 18) (b := k53_6) (by omega) (by omega)).mp c42
            exfalso; omega
          · skip
            have c42 : ¬ 18 ≤ k53_6 := fun h => c42 ((nI_leI (a := 18) (b := k53_6) (by omega) (by omega)).mpr h)
            refine j_aload_n X 0 dX12_remain_60 rfl (q := 61) rfl ?_
            refine j_get (f := 74) X 0 inT12 rfl rfl (by decide) mw_X12_remain_2 rfl dX12_remain_61 (q := 64) rfl ?_
            refine j_iload X 4 dX12_remain_64 rfl (q := 66) rfl ?_
            refine j_iconst (v := nI 0) X dX12_remain_66 (by decide) (q := 67) rfl ?_
            refine k_iast (ws2 := [(a_this, .inr (12, mfs ad v_thrown v_connections (nI v_size) (nI v_ids) (nI v_dataAll) (nI v_putCount) (nI v_waiting) (nI v_readSize) v_power v_left v_since v_changes (nI v_rowSize))), (ad 69, .inl (ct 0, 16, .inl f_m)), (ad 74, .inl (ct 0, 18, .inl (upd t53_6 k53_6 (nI 0)))), (a_p1, .inl (ct 0, 16, .inl f_p1)), (ad 73, .inl (ct 0, 32, .inl f_product))]) X 2 rfl (vp_in_nI (by omega) (by omega)) (nI_clamp (by omega)) dX12_remain_67 rfl (q := 68) rfl ?_
            refine j_iinc (v := nI (k53_6 + 1)) (lv' := [(5, .int (nI (k53_6 + 1))), (0, .ref a_this), (1, .ref a_p1), (2, .int (nI g3_2)), (3, .long y5)]) X 4 dX12_remain_68 rfl (nI_inc _ 1) (by decide) rfl (q := 71) rfl ?_
            refine j_goto (tgt := 53) X dX12_remain_71 (by decide) ?_
            refine j_lv (lv' := [(0, .ref a_this), (1, .ref a_p1), (2, .int (nI g3_2)), (3, .long y5), (5, .int (nI (k53_6 + 1)))]) [1, 2, 3, 4, 0] rfl ?_
            have hb : X12_remain_l53 k53_6 t53_6 = upd t53_6 k53_6 (nI 0) := rfl
            exact ih53_6 (k53_6 + 1) (upd t53_6 k53_6 (nI 0)) (by omega) (by rw [itr_s, ← e_t53_6]; exact hb.symm) 
      exact LP53_6 18 0 f_rest (by omega) (itr_0 _ _).symm 
    refine j_if_le (tgt := 44) X dX12_remain_30 (by decide) (q := 33) rfl (fun c4 => ?_) (fun c4 => ?_)
    · skip
      have c4 : g3_2 ≤ 0 := (nI_leI (a := g3_2) (b := 0) (by omega) (by omega)).mp c4
      refine j_iconst (v := nI 0) X dX12_remain_44 (by decide) (q := 45) rfl ?_
      refine j_lv (lv' := [(0, .ref a_this), (1, .ref a_p1), (2, .int (nI g3_2))]) [0, 1, 2] rfl ?_
      exact KJ30_3 (nI 0) (by first | rfl | (simp only [X12_remain_m30, if_pos c4]; done) | (simp only [X12_remain_m30, if_pos c4]; rfl))
    · skip
      have c4 : ¬ g3_2 ≤ 0 := fun h => c4 ((nI_leI (a := g3_2) (b := 0) (by omega) (by omega)).mpr h)
      refine j_aload_n X 0 dX12_remain_33 rfl (q := 34) rfl ?_
      refine j_get (f := 69) X 0 inT12 rfl rfl (by decide) mw_X12_remain_0 rfl dX12_remain_34 (q := 37) rfl ?_
      refine j_iload_n X 2 dX12_remain_37 rfl (q := 38) rfl ?_
      refine j_iconst (v := nI 1) X dX12_remain_38 (by decide) (q := 39) rfl ?_
      refine j_isub X dX12_remain_39 (q := 40) rfl ?_
      refine j_eqi (pk_sub (by omega)) ?_
      refine k_iald X 1 rfl (vp_in_nI (by omega) (by omega)) (nI_clamp (by omega)) dX12_remain_40 (q := 41) rfl ?_
      refine j_goto (tgt := 45) X dX12_remain_41 (by decide) ?_
      refine j_lv (lv' := [(0, .ref a_this), (1, .ref a_p1), (2, .int (nI g3_2))]) [0, 1, 2] rfl ?_
      exact KJ30_3 (f_m (g3_2 - 1)) (by first | rfl | (simp only [X12_remain_m30, if_neg c4]; done) | (simp only [X12_remain_m30, if_neg c4]; rfl))
  have LP3_1 : ∀ (r3_1 k3_1 : Nat) (t3_1 : (Nat)), itx (X12_remain_l3 f_m) 16 0 15 = itx (X12_remain_l3 f_m) r3_1 k3_1 t3_1 → (t3_1 < 16 ∧ t3_1 < r3_1 ∧ (∃ j, j ≤ t3_1 ∧ ¬ f_m j = 0) ∧ ∀ j, t3_1 + 1 ≤ j → j < 16 → f_m j = 0) → J p l e { frames := 1, cells := 0, slots := 0, locals := 23 } s m [.ref a_this, .ref a_p1].toArray below meth c D A 13 Q 0 0 [(a_this, .inr (12, mfs ad v_thrown v_connections (nI v_size) (nI v_ids) (nI v_dataAll) (nI v_putCount) (nI v_waiting) (nI v_readSize) v_power v_left v_since v_changes (nI v_rowSize))), (ad 69, .inl (ct 0, 16, .inl f_m)), (ad 74, .inl (ct 0, 18, .inl f_rest)), (a_p1, .inl (ct 0, 16, .inl f_p1)), (ad 73, .inl (ct 0, 32, .inl f_product))] [(0, .ref a_this), (1, .ref a_p1), (2, .int (nI t3_1))] [] 3 := by
    intro r3_1
    induction r3_1 with
    | zero =>
      intro k3_1 t3_1 e_t3_1 hi0_t3_1
      exact absurd hi0_t3_1.2.1 (Nat.not_lt_zero _)
    | succ r3_1 ih3_1 =>
      intro k3_1 t3_1 e_t3_1 hi0_t3_1
      refine j_aload_n X 0 dX12_remain_3 rfl (q := 4) rfl ?_
      refine j_get (f := 69) X 0 inT12 rfl rfl (by decide) mw_X12_remain_0 rfl dX12_remain_4 (q := 7) rfl ?_
      refine j_iload_n X 2 dX12_remain_7 rfl (q := 8) rfl ?_
      refine k_iald X 1 rfl (vp_in_nI (by omega) (by omega)) (nI_clamp (by omega)) dX12_remain_8 (q := 9) rfl ?_
      refine j_if_ne (tgt := 18) X dX12_remain_9 (by decide) (q := 12) rfl (fun c43 => ?_) (fun c43 => ?_)
      · skip
        refine j_lv (lv' := [(0, .ref a_this), (1, .ref a_p1), (2, .int (nI t3_1))]) [0, 1, 2] rfl ?_
        have hb44 : (X12_remain_l3 f_m) k3_1 t3_1 = .inr t3_1 := (by first | rfl | (simp only [X12_remain_l3, if_neg c43]; done) | (simp only [X12_remain_l3, if_neg c43]; rfl))
        exact KE3_1 t3_1 (by rw [e_t3_1, itx_out hb44]; rfl) (show TOP f_m t3_1 from ⟨hi0_t3_1.1, by assumption, hi0_t3_1.2.2.2⟩)
      · skip
        have hd9 := rm_dec hi0_t3_1 (by assumption)
        have hd9b := hd9.1
        refine j_iinc (v := nI (t3_1 - 1)) (lv' := [(2, .int (nI (t3_1 - 1))), (0, .ref a_this), (1, .ref a_p1)]) X 2 dX12_remain_12 rfl (nI_dec (n := 1) (by omega)) (by decide) rfl (q := 15) rfl ?_
        refine j_goto (tgt := 3) X dX12_remain_15 (by decide) ?_
        refine j_lv (lv' := [(0, .ref a_this), (1, .ref a_p1), (2, .int (nI (t3_1 - 1)))]) [1, 2, 0] rfl ?_
        have hb : (X12_remain_l3 f_m) k3_1 t3_1 = .inl (t3_1 - 1) := (by first | rfl | (simp only [X12_remain_l3, if_pos c43]; done) | (simp only [X12_remain_l3, if_pos c43]; rfl))
        exact ih3_1 (k3_1 + 1) (t3_1 - 1) (e_t3_1.trans (itx_in hb)) (show (t3_1 - 1) < 16 ∧ (t3_1 - 1) < r3_1 ∧ (∃ j, j ≤ (t3_1 - 1) ∧ ¬ f_m j = 0) ∧ ∀ j, (t3_1 - 1) + 1 ≤ j → j < 16 → f_m j = 0 from hd9.2)
  exact LP3_1 16 0 15 rfl (show 15 < 16 ∧ 15 < 16 ∧ (∃ j, j ≤ 15 ∧ ¬ f_m j = 0) ∧ ∀ j, 15 + 1 ≤ j → j < 16 → f_m j = 0 from ⟨by decide, by decide, rm_top0 hm, fun j h1 h2 => absurd h1 (by omega)⟩)
theorem cal_X12_remain : Cal yX12_remain cX12_remain 13 none 1 := ⟨tb_at 120 (by decide +kernel) (by decide +kernel), tb_at 1523 (by decide +kernel) (by decide +kernel), by decide +kernel, by decide +kernel, by decide +kernel⟩
theorem cwi_X12_remain : Cond.instanceMethod yX12_remain ∈ tb := tb_at 1522 (by decide +kernel) (by decide +kernel)
theorem cws_X12_remain : Cond.selects yX12_remain.cls yX12_remain yX12_remain ∈ tb := tb_at 57 (by decide +kernel) (by decide +kernel)
theorem VV_cut {t : Nat → Int32} {n : Nat} (h : VV t (n + 1) < 65536 ^ n) : VV t (n + 1) = VV t n := by
  rw [VV_s] at h ⊢
  have : dv t n = 0 := by
    rcases Nat.eq_zero_or_pos (dv t n) with q | q
    · exact q
    · exfalso
      have := Nat.le_mul_of_pos_left (65536 ^ n) q
      omega
  rw [this, Nat.zero_mul, Nat.add_zero]
theorem VV_cut2 {t : Nat → Int32} (h : VV t 18 < 65536 ^ 16) : VV t 18 = VV t 17 ∧ VV t 17 = VV t 16 := by
  have h1 : VV t 18 = VV t 17 := VV_cut (Nat.lt_of_lt_of_le h (Nat.pow_le_pow_right (by decide) (by decide)))
  exact ⟨h1, VV_cut (h1 ▸ h)⟩
theorem rm_outer {mm pr : Nat → Int32} {top : Nat} {g30 : Int32} {y5 : Int64} (hm : DG 16 mm) (ht : TOP mm top) (eg : g30 = X12_remain_m30 mm top) (e5 : y5 = ((((65536 : Int64)) * ((mm top).toInt64)) + g30.toInt64) + ((1 : Int64))) (hM : 0 < VV mm 16) (hp : DG 32 pr) : ∀ r, r ≤ 32 → ∀ t, DG 18 t → VV t 18 = VV (fun k => pr (k + r)) (32 - r) % VV mm 16 → DG 18 (itd (X12_remain_l78 mm pr top y5) r t) ∧ VV (itd (X12_remain_l78 mm pr top y5) r t) 18 = VV pr 32 % VV mm 16
  | 0, _, t, h1, h2 => by
    rw [itd_0]
    exact ⟨h1, h2⟩
  | r + 1, hr, t, h1, h2 => by
    rw [itd_s]
    have hM2 := VV_lt 16 hm
    have hlt : VV t 18 < 65536 ^ 16 := by
      rw [h2]
      exact Nat.lt_trans (Nat.mod_lt _ hM) hM2
    obtain ⟨c1, c2⟩ := VV_cut2 hlt
    obtain ⟨p1, p2⟩ := hp r (by omega)
    obtain ⟨u1, u2⟩ := rm_up (x := pr r) h1 ⟨dv pr r, p2, p1⟩
    obtain ⟨l1, l2⟩ := rm_loop hm ht eg e5 hM FU 0 _ u1 (FU_lt u1)
    refine rm_outer hm ht eg e5 hM hp r (by omega) _ l1 ?_
    show VV (mrg (itx (X12_remain_l127 mm top y5) FU 0 (upd (itd X12_remain_l87 17 t) 0 (pr r)))) 18 = _
    rw [l2, u2, ← c1, h2]
    have es := VV_shift (f := fun k => pr (k + (r + 1))) (g := fun k => pr (k + r)) (fun k => by show pr (k + 1 + r) = pr (k + (r + 1)); congr 1; omega) (32 - (r + 1))
    rw [show 32 - r = 32 - (r + 1) + 1 by omega, es]
    have e0 : dv (fun k => pr (k + r)) 0 = (pr r).toNatClampNeg := by
      show (pr (0 + r)).toNatClampNeg = _
      rw [Nat.zero_add]
    rw [e0]
    generalize VV (fun k => pr (k + (r + 1))) (32 - (r + 1)) = w
    rw [Nat.add_mod, Nat.mul_mod, Nat.mod_mod, ← Nat.mul_mod, ← Nat.add_mod]
theorem cp16 (g f : Nat → Int32) : ∀ n, (∀ j, j < n → itr (X12_remain_l289 g) f n j = g j) ∧ ∀ j, n ≤ j → itr (X12_remain_l289 g) f n j = f j
  | 0 => ⟨fun j h => absurd h (Nat.not_lt_zero j), fun j _ => by rw [itr_0]⟩
  | n + 1 => by
    obtain ⟨h1, h2⟩ := cp16 g f n
    rw [itr_s]
    constructor
    · intro j hj
      show upd _ n (g n) j = g j
      by_cases e : j = n
      · subst e; exact pk_us
      · rw [pk_un e]; exact h1 j (by omega)
    · intro j hj
      show upd _ n (g n) j = f j
      rw [pk_un (by omega)]; exact h2 j (by omega)
/-- what remain leaves: the remainder -/
theorem remain_is {mm rest p1 pr : Nat → Int32} (hm : DG 16 mm) (hM : 0 < VV mm 16) (hp : DG 32 pr) : DG 16 (f_X12_remain mm rest p1 pr).1 ∧ VV (f_X12_remain mm rest p1 pr).1 16 = VV pr 32 % VV mm 16 := by
  have ht : TOP mm (mrg (itx (X12_remain_l3 mm) 16 0 15)) := rm_l3 16 0 15 (by decide) (by decide) (rm_top0 hM) (fun j h1 h2 => absurd h1 (by omega))
  unfold f_X12_remain
  generalize mrg (itx (X12_remain_l3 mm) 16 0 15) = top at ht
  obtain ⟨a1, a2⟩ := rm_outer hm ht rfl rfl hM hp 32 (Nat.le_refl _) (itr X12_remain_l53 rest 18) rm_zero_dg (by
    rw [VV_zero (fun k hk => rm_zero rest 18 k hk)]
    show 0 = VV _ 0 % _
    exact (Nat.zero_mod _).symm)
  show DG 16 (itr (X12_remain_l289 (itd (X12_remain_l78 mm pr top _) 32 (itr X12_remain_l53 rest 18))) p1 16) ∧ VV (itr (X12_remain_l289 (itd (X12_remain_l78 mm pr top _) 32 (itr X12_remain_l53 rest 18))) p1 16) 16 = _
  generalize itd (X12_remain_l78 mm pr top _) 32 (itr X12_remain_l53 rest 18) = w at a1 a2 ⊢
  have hc := (cp16 w p1 16).1
  refine ⟨DG_congr hc (fun k hk => a1 k (by omega)), ?_⟩
  rw [VV_congr 16 hc]
  have hlt : VV w 18 < 65536 ^ 16 := by
    rw [a2]
    exact Nat.lt_trans (Nat.mod_lt _ hM) (VV_lt 16 hm)
  obtain ⟨c1, c2⟩ := VV_cut2 hlt
  rw [← c2, ← c1, a2]
/-- the product -/
theorem mu_in {a b P : Nat → Int32} {i : Nat} (ha : DG 16 a) (hb : DG 16 b) (hi : i < 16) (hP : DG (i + 16) P) : ∀ n, n ≤ 16 → ∃ c : Nat, (itr (X12_multiply_l35 a b i) (P, (0 : Int64)) n).2 = lI (c : Int) ∧ c < 65536 ∧ DG (i + 16) (itr (X12_multiply_l35 a b i) (P, (0 : Int64)) n).1 ∧ (∀ j, (j < i ∨ i + n ≤ j) → (itr (X12_multiply_l35 a b i) (P, (0 : Int64)) n).1 j = P j) ∧ VV (itr (X12_multiply_l35 a b i) (P, (0 : Int64)) n).1 (i + n) + c * 65536 ^ (i + n) = VV P (i + n) + dv a i * VV b n * 65536 ^ i
  | 0, _ => by
    rw [itr_0]
    exact ⟨0, rfl, by decide, hP, fun _ _ => rfl, by simp [VV]⟩
  | n + 1, hn => by
    obtain ⟨c, h1, h2, h3, h4, h5⟩ := mu_in ha hb hi hP n (by omega)
    rw [itr_s]
    generalize itr (X12_multiply_l35 a b i) (P, (0 : Int64)) n = t at h1 h3 h4 h5 ⊢
    obtain ⟨a1, a2⟩ := ha i hi
    obtain ⟨b1, b2⟩ := hb n (by omega)
    have hpn := hP (i + n) (by omega)
    have et : t.1 (i + n) = nI (dv P (i + n)) := (h4 (i + n) (Or.inr (Nat.le_refl _))).trans hpn.1
    have hab : dv a i * dv b n ≤ 65535 * 65535 := Nat.mul_le_mul (by omega) (by omega)
    obtain ⟨z, hz⟩ : ∃ z, z = c + dv P (i + n) + dv a i * dv b n := ⟨_, rfl⟩
    have hst : X12_multiply_l35 a b i n t = (upd t.1 (i + n) (nI (z % 65536)), lI ((z / 65536 : Nat) : Int)) := by
      simp only [X12_multiply_l35]
      rw [h1, et, a1, b1, nI_lI (by omega), nI_lI (by omega), nI_lI (by omega), lI_mul, lI_add, lI_add]
      have e1 : (c : Int) + (dv P (i + n) : Int) + (dv a i : Int) * (dv b n : Int) = (z : Int) := by
        rw [hz, Int.natCast_add, Int.natCast_add, Int.natCast_mul]
      have e2 : (z : Int) % 65536 = ((z % 65536 : Nat) : Int) := by omega
      have e3 : (z : Int) / 65536 = ((z / 65536 : Nat) : Int) := by omega
      rw [e1, lI_and, lI_shr (by omega) (by omega), e2, e3, lI_32]
    rw [hst]
    refine ⟨z / 65536, rfl, by omega, ?_, ?_, ?_⟩
    · intro k hk
      by_cases e : k = i + n
      · subst e; exact dg_of pk_us (by omega)
      · exact dg_of (d := dv t.1 k) (by show upd t.1 _ _ k = _; rw [pk_un e]; exact (h3 k hk).1) (h3 k hk).2
    · intro j hj
      show upd t.1 _ _ j = _
      rw [pk_un (by omega)]
      exact h4 j (by omega)
    · show VV (upd t.1 (i + n) (nI (z % 65536))) (i + n + 1) + z / 65536 * 65536 ^ (i + n + 1) = VV P (i + n + 1) + _
      rw [VV_s, VV_put (Nat.le_refl _), dv_nI pk_us (by omega), VV_s P, VV_s b, Nat.pow_succ]
      have ep : 65536 ^ (i + n) = 65536 ^ i * 65536 ^ n := Nat.pow_add _ _ _
      have ez : z = 65536 * (z / 65536) + z % 65536 := by omega
      generalize z / 65536 = za at *
      generalize z % 65536 = zb at *
      generalize dv P (i + n) = pn at *
      rw [ep] at h5 ⊢
      generalize 65536 ^ i = pi at *
      generalize 65536 ^ n = pj at *
      generalize VV t.1 (i + n) = v1 at *
      generalize VV P (i + n) = v2 at *
      generalize VV b n = v3 at *
      generalize dv a i = ai at *
      generalize dv b n = bn at *
      subst ez
      have e5 : v1 = v2 + ai * v3 * pi - c * (pi * pj) := by omega
      have e6 : c + pn + ai * bn = 65536 * za + zb := hz.symm
      have e7 : (c + pn + ai * bn) * (pi * pj) = (65536 * za + zb) * (pi * pj) := by rw [e6]
      grind
theorem mu_zero (f : Nat → Int32) : ∀ n, ∀ j, j < n → itr X12_multiply_l2 f n j = nI 0
  | 0, j, h => absurd h (Nat.not_lt_zero j)
  | n + 1, j, h => by
    rw [itr_s]
    show upd _ n (nI 0) j = nI 0
    by_cases e : j = n
    · subst e; exact pk_us
    · rw [pk_un e]; exact mu_zero f n j (by omega)
theorem mu_out {a b P : Nat → Int32} (ha : DG 16 a) (hb : DG 16 b) (hP : ∀ j, j < 32 → P j = nI 0) : ∀ n, n ≤ 16 → DG (n + 16) (itr (X12_multiply_l23 a b) P n) ∧ VV (itr (X12_multiply_l23 a b) P n) (n + 16) = VV a n * VV b 16
  | 0, _ => by
    rw [itr_0]
    refine ⟨fun k hk => dg_of (hP k (by omega)) (by decide), ?_⟩
    rw [VV_zero (fun k hk => hP k (by omega))]
    rw [show VV a 0 = 0 from rfl, Nat.zero_mul]
  | n + 1, hn => by
    obtain ⟨h1, h2⟩ := mu_out ha hb hP n (by omega)
    rw [itr_s]
    generalize itr (X12_multiply_l23 a b) P n = T at h1 h2 ⊢
    obtain ⟨c, i1, i2, i3, i4, i5⟩ := mu_in ha hb (show n < 16 by omega) h1 16 (Nat.le_refl _)
    have hst : X12_multiply_l23 a b n T = upd (itr (X12_multiply_l35 a b n) (T, (0 : Int64)) 16).1 (n + 16) (nI c) := by
      simp only [X12_multiply_l23]
      rw [i1, lI_32]
    rw [hst]
    generalize (itr (X12_multiply_l35 a b n) (T, (0 : Int64)) 16).1 = t at i3 i4 i5 ⊢
    rw [show n + 1 + 16 = n + 16 + 1 by omega]
    constructor
    · intro k hk
      by_cases e : k = n + 16
      · subst e; exact dg_of pk_us i2
      · exact dg_of (d := dv t k) (by rw [pk_un e]; exact (i3 k (by omega)).1) (i3 k (by omega)).2
    · rw [VV_s, VV_put (Nat.le_refl _), dv_nI pk_us i2, VV_s a, i5, h2, Nat.add_mul]
      rw [Nat.mul_right_comm (dv a n)]
theorem multiply_is {a b P : Nat → Int32} (ha : DG 16 a) (hb : DG 16 b) : DG 32 (f_X12_multiply P a b) ∧ VV (f_X12_multiply P a b) 32 = VV a 16 * VV b 16 := by
  have h := mu_out ha hb (mu_zero P 32) 16 (Nat.le_refl _)
  unfold f_X12_multiply
  exact h

