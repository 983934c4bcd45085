/-- a loop that writes a row, place by place -/
theorem fill_is {F : Nat → (Nat → Int32) → (Nat → Int32)} {h : Nat → Int32} (hF : ∀ k t, F k t = upd t k (h k)) (s : Nat → Int32) : ∀ n j, itr F s n j = if j < n then h j else s j
  | 0, j => by rw [itr_0, if_neg (Nat.not_lt_zero j)]
  | n + 1, j => by
    rw [itr_s, hF]
    by_cases e : j = n
    · subst e; rw [pk_us, if_pos (Nat.lt_succ_self _)]
    · rw [pk_un e, fill_is hF s n j]
      by_cases q : j < n
      · rw [if_pos q, if_pos (by omega)]
      · rw [if_neg q, if_neg (by omega)]
/-- a word as a natural number, and a number of words, the last word lowest -/
def uw (x : Int32) : Nat := x.toBitVec.toNat
theorem uw_lt (x : Int32) : uw x < 4294967296 := x.toBitVec.isLt
theorem uw_nI {n : Nat} (h : n < 4294967296) : uw (nI n) = n := pk_tn h
theorem nI_uw (x : Int32) : x = nI (uw x) := nI_un x
def WL (f : Nat → Int32) : Nat → Nat
  | 0 => 0
  | j + 1 => WL f j + uw (f (7 - j)) * 4294967296 ^ j
theorem WL_s (f : Nat → Int32) (j : Nat) : WL f (j + 1) = WL f j + uw (f (7 - j)) * 4294967296 ^ j := rfl
theorem WL_pos_go {f : Nat → Int32} (h : ¬ f 7 = 0) : ∀ n, 0 < WL f (n + 1)
  | 0 => by
    have : uw (f 7) ≠ 0 := fun q => h (by rw [nI_uw (f 7), q]; rfl)
    show 0 < WL f 0 + uw (f (7 - 0)) * 4294967296 ^ 0
    rw [Nat.pow_zero, Nat.mul_one]
    exact Nat.lt_of_lt_of_le (Nat.pos_of_ne_zero this) (Nat.le_add_left _ _)
  | n + 1 => Nat.lt_of_lt_of_le (WL_pos_go h n) (Nat.le_add_right _ _)
theorem WL_pos {f : Nat → Int32} (h : ¬ f 7 = 0) : 0 < WL f 8 := WL_pos_go h 7
theorem ur16 (x : Int32) : ur32 x 16 = nI (uw x / 65536) := by
  have hx := uw_lt x
  rw [nI_uw x]
  unfold ur32
  rw [pk_ushrN hx (nI 16) 16 rfl, uw_nI hx]
theorem and16 (x : Int32) : x &&& nI 65535 = nI (uw x % 65536) := pk_and x 16 rfl
theorem figures_at (f g : Nat → Int32) (a k : Nat) : f_X12_figures f g a k = if k < 16 then X12_figures_m25 (f (a + 7 - k / 2)) k else g k := fill_is (F := X12_figures_l2 a f) (fun _ _ => rfl) g 16 k
theorem figures_dg {f g : Nat → Int32} {a : Nat} : DG 16 (f_X12_figures f g a) := by
  intro k hk
  have e := figures_at f g a k
  rw [if_pos hk] at e
  have hx := uw_lt (f (a + 7 - k / 2))
  by_cases q : k % 2 = 0
  · simp only [X12_figures_m25, if_pos q] at e
    rw [and16] at e
    exact dg_of e (by omega)
  · simp only [X12_figures_m25, if_neg q] at e
    rw [ur16] at e
    exact dg_of e (by omega)
theorem figures_go (f g : Nat → Int32) (a : Nat) : ∀ j, j ≤ 8 → VV (f_X12_figures f g a) (2 * j) = WL (fun i => f (a + i)) j
  | 0, _ => rfl
  | j + 1, hj => by
    have e1 := figures_at f g a (2 * j)
    have e2 := figures_at f g a (2 * j + 1)
    rw [if_pos (by omega)] at e1 e2
    simp only [X12_figures_m25, if_pos (show 2 * j % 2 = 0 by omega)] at e1
    simp only [X12_figures_m25, if_neg (show ¬ (2 * j + 1) % 2 = 0 by omega)] at e2
    rw [show (2 * j) / 2 = j by omega] at e1
    rw [show (2 * j + 1) / 2 = j by omega] at e2
    have hx := uw_lt (f (a + 7 - j))
    rw [and16] at e1
    rw [ur16] at e2
    rw [show 2 * (j + 1) = 2 * j + 1 + 1 by omega, VV_s, VV_s, dv_nI e1 (by omega), dv_nI e2 (by omega), figures_go f g a j (by omega), WL_s, show a + (7 - j) = a + 7 - j by omega]
    have ep : (4294967296 : Nat) ^ j = 65536 ^ (2 * j) := by
      rw [Nat.pow_mul]
    rw [ep, Nat.pow_succ]
    generalize 65536 ^ (2 * j) = P
    generalize uw (f (a + 7 - j)) = x at *
    generalize WL (fun i => f (a + i)) j = v
    have : x = 65536 * (x / 65536) + x % 65536 := by omega
    generalize x / 65536 = xa at *
    generalize x % 65536 = xb at *
    subst this
    grind
theorem figures_is (f g : Nat → Int32) (a : Nat) : VV (f_X12_figures f g a) 16 = WL (fun i => f (a + i)) 8 := figures_go f g a 8 (Nat.le_refl _)
theorem figures_pos {f g : Nat → Int32} (h : ¬ f 7 = 0) : 0 < VV (f_X12_figures f g 0) 16 := by
  rw [figures_is]
  exact WL_pos (f := fun i => f (0 + i)) h
theorem copy_at (f g : Nat → Int32) (k : Nat) : f_X12_copy f g k = if k < 16 then f k else g k := fill_is (F := X12_copy_l2 f) (fun _ _ => rfl) g 16 k
theorem copy_dg {f g : Nat → Int32} (h : DG 16 f) : DG 16 (f_X12_copy f g) := DG_congr (fun k hk => by rw [copy_at, if_pos hk]) h
theorem copy_VV {f g : Nat → Int32} : VV (f_X12_copy f g) 16 = VV f 16 := VV_congr 16 (fun k hk => by rw [copy_at, if_pos hk])
theorem mw_X12_raise_0 : Cond.fieldLink "GuardedTreeModel" 271 "GuardedTreeModel" "result" "[I" ∈ tb := tb_at 1309 (by decide +kernel) (by decide +kernel)
theorem mw_X12_raise_1 : Cond.fieldLink "GuardedTreeModel" 268 "GuardedTreeModel" "powers" "[I" ∈ tb := tb_at 1308 (by decide +kernel) (by decide +kernel)
theorem mw_X12_raise_2 : Cond.fieldLink "GuardedTreeModel" 265 "GuardedTreeModel" "base" "[I" ∈ tb := tb_at 1307 (by decide +kernel) (by decide +kernel)
theorem mw_X12_raise_3 : Cond.fieldLink "GuardedTreeModel" 274 "GuardedTreeModel" "product" "[I" ∈ tb := tb_at 1310 (by decide +kernel) (by decide +kernel)
theorem mw_X12_raise_4 : Cond.methodLink "GuardedTreeModel" 355 yX12_remain ∈ tb := tb_at 1520 (by decide +kernel) (by decide +kernel)
theorem mw_X12_raise_5 : Cond.methodLink "GuardedTreeModel" 359 yX12_multiply ∈ tb := tb_at 1224 (by decide +kernel) (by decide +kernel)
theorem dX12_raise_0 : decode cX12_raise 0 = .ok (.iconst 0, 1) := by decide +kernel
theorem dX12_raise_1 : decode cX12_raise 1 = .ok (.istore_n 1, 1) := by decide +kernel
theorem dX12_raise_2 : decode cX12_raise 2 = .ok (.iload_n 1, 1) := by decide +kernel
theorem dX12_raise_3 : decode cX12_raise 3 = .ok (.bipush 32, 2) := by decide +kernel
theorem dX12_raise_5 : decode cX12_raise 5 = .ok (.if_icmp .ge 24, 3) := by decide +kernel
theorem dX12_raise_8 : decode cX12_raise 8 = .ok (.aload_n 0, 1) := by decide +kernel
theorem dX12_raise_9 : decode cX12_raise 9 = .ok (.getfield 274, 3) := by decide +kernel
theorem dX12_raise_12 : decode cX12_raise 12 = .ok (.iload_n 1, 1) := by decide +kernel
theorem dX12_raise_13 : decode cX12_raise 13 = .ok (.iload_n 1, 1) := by decide +kernel
theorem dX12_raise_14 : decode cX12_raise 14 = .ok (.ifCond .ne 7, 3) := by decide +kernel
theorem dX12_raise_17 : decode cX12_raise 17 = .ok (.iconst 1, 1) := by decide +kernel
theorem dX12_raise_18 : decode cX12_raise 18 = .ok (.goto 4, 3) := by decide +kernel
theorem dX12_raise_21 : decode cX12_raise 21 = .ok (.iconst 0, 1) := by decide +kernel
theorem dX12_raise_22 : decode cX12_raise 22 = .ok (.iastore, 1) := by decide +kernel
theorem dX12_raise_23 : decode cX12_raise 23 = .ok (.iinc 1 1, 3) := by decide +kernel
theorem dX12_raise_26 : decode cX12_raise 26 = .ok (.goto (-24), 3) := by decide +kernel
theorem dX12_raise_29 : decode cX12_raise 29 = .ok (.aload_n 0, 1) := by decide +kernel
theorem dX12_raise_30 : decode cX12_raise 30 = .ok (.aload_n 0, 1) := by decide +kernel
theorem dX12_raise_31 : decode cX12_raise 31 = .ok (.getfield 271, 3) := by decide +kernel
theorem dX12_raise_34 : decode cX12_raise 34 = .ok (.invokevirtual 355, 3) := by decide +kernel
theorem dX12_raise_37 : decode cX12_raise 37 = .ok (.sipush 255, 3) := by decide +kernel
theorem dX12_raise_40 : decode cX12_raise 40 = .ok (.istore_n 1, 1) := by decide +kernel
theorem dX12_raise_41 : decode cX12_raise 41 = .ok (.iload_n 1, 1) := by decide +kernel
theorem dX12_raise_42 : decode cX12_raise 42 = .ok (.ifCond .lt 69, 3) := by decide +kernel
theorem dX12_raise_45 : decode cX12_raise 45 = .ok (.aload_n 0, 1) := by decide +kernel
theorem dX12_raise_46 : decode cX12_raise 46 = .ok (.aload_n 0, 1) := by decide +kernel
theorem dX12_raise_47 : decode cX12_raise 47 = .ok (.getfield 271, 3) := by decide +kernel
theorem dX12_raise_50 : decode cX12_raise 50 = .ok (.aload_n 0, 1) := by decide +kernel
theorem dX12_raise_51 : decode cX12_raise 51 = .ok (.getfield 271, 3) := by decide +kernel
theorem dX12_raise_54 : decode cX12_raise 54 = .ok (.invokevirtual 359, 3) := by decide +kernel
theorem dX12_raise_57 : decode cX12_raise 57 = .ok (.aload_n 0, 1) := by decide +kernel
theorem dX12_raise_58 : decode cX12_raise 58 = .ok (.aload_n 0, 1) := by decide +kernel
theorem dX12_raise_59 : decode cX12_raise 59 = .ok (.getfield 271, 3) := by decide +kernel
theorem dX12_raise_62 : decode cX12_raise 62 = .ok (.invokevirtual 355, 3) := by decide +kernel
theorem dX12_raise_65 : decode cX12_raise 65 = .ok (.aload_n 0, 1) := by decide +kernel
theorem dX12_raise_66 : decode cX12_raise 66 = .ok (.getfield 268, 3) := by decide +kernel
theorem dX12_raise_69 : decode cX12_raise 69 = .ok (.iload_n 1, 1) := by decide +kernel
theorem dX12_raise_70 : decode cX12_raise 70 = .ok (.bipush 16, 2) := by decide +kernel
theorem dX12_raise_72 : decode cX12_raise 72 = .ok (.idiv, 1) := by decide +kernel
theorem dX12_raise_73 : decode cX12_raise 73 = .ok (.iaload, 1) := by decide +kernel
theorem dX12_raise_74 : decode cX12_raise 74 = .ok (.iload_n 1, 1) := by decide +kernel
theorem dX12_raise_75 : decode cX12_raise 75 = .ok (.bipush 16, 2) := by decide +kernel
theorem dX12_raise_77 : decode cX12_raise 77 = .ok (.irem, 1) := by decide +kernel
theorem dX12_raise_78 : decode cX12_raise 78 = .ok (.ishr, 1) := by decide +kernel
theorem dX12_raise_79 : decode cX12_raise 79 = .ok (.iconst 1, 1) := by decide +kernel
theorem dX12_raise_80 : decode cX12_raise 80 = .ok (.iand, 1) := by decide +kernel
theorem dX12_raise_81 : decode cX12_raise 81 = .ok (.iconst 1, 1) := by decide +kernel
theorem dX12_raise_82 : decode cX12_raise 82 = .ok (.if_icmp .ne 23, 3) := by decide +kernel
theorem dX12_raise_85 : decode cX12_raise 85 = .ok (.aload_n 0, 1) := by decide +kernel
theorem dX12_raise_86 : decode cX12_raise 86 = .ok (.aload_n 0, 1) := by decide +kernel
theorem dX12_raise_87 : decode cX12_raise 87 = .ok (.getfield 271, 3) := by decide +kernel
theorem dX12_raise_90 : decode cX12_raise 90 = .ok (.aload_n 0, 1) := by decide +kernel
theorem dX12_raise_91 : decode cX12_raise 91 = .ok (.getfield 265, 3) := by decide +kernel
theorem dX12_raise_94 : decode cX12_raise 94 = .ok (.invokevirtual 359, 3) := by decide +kernel
theorem dX12_raise_97 : decode cX12_raise 97 = .ok (.aload_n 0, 1) := by decide +kernel
theorem dX12_raise_98 : decode cX12_raise 98 = .ok (.aload_n 0, 1) := by decide +kernel
theorem dX12_raise_99 : decode cX12_raise 99 = .ok (.getfield 271, 3) := by decide +kernel
theorem dX12_raise_102 : decode cX12_raise 102 = .ok (.invokevirtual 355, 3) := by decide +kernel
theorem dX12_raise_105 : decode cX12_raise 105 = .ok (.iinc 1 (-1), 3) := by decide +kernel
theorem dX12_raise_108 : decode cX12_raise 108 = .ok (.goto (-67), 3) := by decide +kernel
theorem dX12_raise_111 : decode cX12_raise 111 = .ok (.return_, 1) := by decide +kernel
noncomputable def X12_raise_m82 (f_m : Nat → Int32) (f_powers : Nat → Int32) (f_base : Nat → Int32) (r41_5 : Nat) (u8 : (Nat → Int32)) (u10 : (Nat → Int32) × (Nat → Int32)) : (Nat → Int32) × (Nat → Int32) × (Nat → Int32) :=
  if ((sr32 (f_powers (r41_5 / 16)) (r41_5 % 16)) &&& (nI 1)) = (nI 1) then
  (let u14 := f_X12_multiply u8 u10.1 f_base
  let u16 := f_X12_remain f_m u10.2 u10.1 u14
  (u16.2, u16.1, u14))
  else
  ((u10.2, u10.1, u8))
noncomputable def X12_raise_l41 (f_m : Nat → Int32) (f_powers : Nat → Int32) (f_base : Nat → Int32) (r41_5 : Nat) (t41_5 : (Nat → Int32) × (Nat → Int32) × (Nat → Int32)) : (Nat → Int32) × (Nat → Int32) × (Nat → Int32) :=
  let u8 := f_X12_multiply t41_5.1 t41_5.2.2 t41_5.2.2
  let u10 := f_X12_remain f_m t41_5.2.1 t41_5.2.2 u8
  let g82_12 := X12_raise_m82 f_m f_powers f_base r41_5 u8 u10
  (g82_12.2.2, g82_12.1, g82_12.2.1)
noncomputable def X12_raise_m14 (k2_1 : Nat) : (Nat) :=
  if k2_1 = 0 then
  (1)
  else
  (0)
noncomputable def X12_raise_l2  (k2_1 : Nat) (t2_1 : (Nat → Int32)) : (Nat → Int32) :=
  let g14_19 := X12_raise_m14 k2_1
  upd t2_1 k2_1 (nI g14_19)
noncomputable def f_X12_raise (f_m : Nat → Int32) (f_rest : Nat → Int32) (f_result : Nat → Int32) (f_product : Nat → Int32) (f_powers : Nat → Int32) (f_base : Nat → Int32) : (Nat → Int32) × (Nat → Int32) × (Nat → Int32) :=
  let t2_1 := itr X12_raise_l2 f_product 32
  let u3 := f_X12_remain f_m f_rest f_result t2_1
  let t41_5 := itd (X12_raise_l41 f_m f_powers f_base) 256 ((t2_1, u3.2, u3.1))
  (t41_5.1, t41_5.2.1, t41_5.2.2)
theorem raise_p0 {f t : Nat → Int32} (e : t = itr X12_raise_l2 f 32) : DG 32 t := by
  intro k hk
  have h := fill_is (F := X12_raise_l2) (h := fun k => nI (X12_raise_m14 k)) (fun _ _ => rfl) f 32 k
  rw [if_pos hk, ← e] at h
  by_cases q : k = 0
  · exact dg_of (d := 1) (by rw [h]; simp only [X12_raise_m14, if_pos q]) (by decide)
  · exact dg_of (d := 0) (by rw [h]; simp only [X12_raise_m14, if_neg q]) (by decide)
set_option maxHeartbeats 4000000 in
set_option maxRecDepth 100000 in
theorem c_X12_raise (l : Launch) (D : va_G) (ct : Nat → ClassId) (ts : Nat → Nat) (a_this : Nat) (ad : Nat → Nat) (v_thrown : Int32) (v_connections : Int32) (v_size : Nat) (v_ids : Nat) (v_dataAll : Nat) (v_putCount : Nat) (v_waiting : Nat) (v_readSize : Nat) (v_power : Int32) (v_left : Int32) (v_since : Int32) (v_changes : Int32) (v_rowSize : Nat) (f_m : Nat → Int32) (f_rest : Nat → Int32) (f_result : Nat → Int32) (f_product : Nat → Int32) (f_powers : Nat → Int32) (f_base : Nat → Int32)  (hDm : DG 16 f_m) (hDb : DG 16 f_base) (hm : 0 < VV f_m 16)  (sz : Nat) : Met l yX12_raise (Cond.code yX12_raise cX12_raise 2 none :: tb) { frames := 2, cells := 0, slots := 0, locals := 55 } (PcG D ct SXL ts [.ref a_this] [(a_this, .inr (12, mfs ad v_thrown v_connections (nI v_size) (nI v_ids) (nI v_dataAll) (nI v_putCount) (nI v_waiting) (nI v_readSize) v_power v_left v_since v_changes (nI v_rowSize))), (ad 69, .inl (ct 0, 16, .inl f_m)), (ad 74, .inl (ct 0, 18, .inl f_rest)), (ad 72, .inl (ct 0, 16, .inl f_result)), (ad 73, .inl (ct 0, 32, .inl f_product)), (ad 71, .inl (ct 0, 16, .inl f_powers)), (ad 70, .inl (ct 0, 16, .inl f_base))] sz) (va_Qv (fun u : (Nat → Int32) × (Nat → Int32) × (Nat → Int32) => u = f_X12_raise f_m f_rest f_result f_product f_powers f_base) (fun u => BG D ct (va_A [(a_this, .inr (12, mfs ad v_thrown v_connections (nI v_size) (nI v_ids) (nI v_dataAll) (nI v_putCount) (nI v_waiting) (nI v_readSize) v_power v_left v_since v_changes (nI v_rowSize))), (ad 69, .inl (ct 0, 16, .inl f_m)), (ad 74, .inl (ct 0, 18, .inl f_rest)), (ad 72, .inl (ct 0, 16, .inl f_result)), (ad 73, .inl (ct 0, 32, .inl f_product)), (ad 71, .inl (ct 0, 16, .inl f_powers)), (ad 70, .inl (ct 0, 16, .inl f_base))] sz) [(a_this, .inr (12, mfs ad v_thrown v_connections (nI v_size) (nI v_ids) (nI v_dataAll) (nI v_putCount) (nI v_waiting) (nI v_readSize) v_power v_left v_since v_changes (nI v_rowSize))), (ad 69, .inl (ct 0, 16, .inl f_m)), (ad 74, .inl (ct 0, 18, .inl u.2.1)), (ad 72, .inl (ct 0, 16, .inl u.2.2)), (ad 73, .inl (ct 0, 32, .inl u.1)), (ad 71, .inl (ct 0, 16, .inl f_powers)), (ad 70, .inl (ct 0, 16, .inl f_base))]) (va_A [(a_this, .inr (12, mfs ad v_thrown v_connections (nI v_size) (nI v_ids) (nI v_dataAll) (nI v_putCount) (nI v_waiting) (nI v_readSize) v_power v_left v_since v_changes (nI v_rowSize))), (ad 69, .inl (ct 0, 16, .inl f_m)), (ad 74, .inl (ct 0, 18, .inl f_rest)), (ad 72, .inl (ct 0, 16, .inl f_result)), (ad 73, .inl (ct 0, 32, .inl f_product)), (ad 71, .inl (ct 0, 16, .inl f_powers)), (ad 70, .inl (ct 0, 16, .inl f_base))] sz)) 0 0 (va_A [(a_this, .inr (12, mfs ad v_thrown v_connections (nI v_size) (nI v_ids) (nI v_dataAll) (nI v_putCount) (nI v_waiting) (nI v_readSize) v_power v_left v_since v_changes (nI v_rowSize))), (ad 69, .inl (ct 0, 16, .inl f_m)), (ad 74, .inl (ct 0, 18, .inl f_rest)), (ad 72, .inl (ct 0, 16, .inl f_result)), (ad 73, .inl (ct 0, 32, .inl f_product)), (ad 71, .inl (ct 0, 16, .inl f_powers)), (ad 70, .inl (ct 0, 16, .inl f_base))] sz) := by
  refine metJ (l := l) (y := yX12_raise) (cc := cX12_raise) (maxL := 2) (ret := none) (rm := { frames := 2, cells := 0, slots := 0, locals := 55 }) (D := D) (ct := ct) (L := SXL) (ts := ts) (av := [.ref a_this]) (ws := [(a_this, .inr (12, mfs ad v_thrown v_connections (nI v_size) (nI v_ids) (nI v_dataAll) (nI v_putCount) (nI v_waiting) (nI v_readSize) v_power v_left v_since v_changes (nI v_rowSize))), (ad 69, .inl (ct 0, 16, .inl f_m)), (ad 74, .inl (ct 0, 18, .inl f_rest)), (ad 72, .inl (ct 0, 16, .inl f_result)), (ad 73, .inl (ct 0, 32, .inl f_product)), (ad 71, .inl (ct 0, 16, .inl f_powers)), (ad 70, .inl (ct 0, 16, .inl f_base))]) (sz := sz) (mc := 0) (ms := 0) (QcF := fun A => va_Qv (fun u : (Nat → Int32) × (Nat → Int32) × (Nat → Int32) => u = f_X12_raise f_m f_rest f_result f_product f_powers f_base) (fun u => BG D ct A [(a_this, .inr (12, mfs ad v_thrown v_connections (nI v_size) (nI v_ids) (nI v_dataAll) (nI v_putCount) (nI v_waiting) (nI v_readSize) v_power v_left v_since v_changes (nI v_rowSize))), (ad 69, .inl (ct 0, 16, .inl f_m)), (ad 74, .inl (ct 0, 18, .inl u.2.1)), (ad 72, .inl (ct 0, 16, .inl u.2.2)), (ad 73, .inl (ct 0, 32, .inl u.1)), (ad 71, .inl (ct 0, 16, .inl f_powers)), (ad 70, .inl (ct 0, 16, .inl f_base))]) A) (by decide) (Nat.le_of_ble_eq_true rfl) ?_
  intro p e s m below meth c A X hnm
  obtain ⟨Q, hQ⟩ : ∃ Q, Q = MQ below (va_Qv (fun u : (Nat → Int32) × (Nat → Int32) × (Nat → Int32) => u = f_X12_raise f_m f_rest f_result f_product f_powers f_base) (fun u => BG D ct A [(a_this, .inr (12, mfs ad v_thrown v_connections (nI v_size) (nI v_ids) (nI v_dataAll) (nI v_putCount) (nI v_waiting) (nI v_readSize) v_power v_left v_since v_changes (nI v_rowSize))), (ad 69, .inl (ct 0, 16, .inl f_m)), (ad 74, .inl (ct 0, 18, .inl u.2.1)), (ad 72, .inl (ct 0, 16, .inl u.2.2)), (ad 73, .inl (ct 0, 32, .inl u.1)), (ad 71, .inl (ct 0, 16, .inl f_powers)), (ad 70, .inl (ct 0, 16, .inl f_base))]) A) [.ref a_this].toArray s 0 0 A := ⟨_, rfl⟩
  rw [← hQ]
  refine j_lve (lv' := [(0, .ref a_this)]) rfl ?_
  refine j_iconst (v := nI 0) X dX12_raise_0 (by decide) (q := 1) rfl ?_
  refine j_istore_n (lv' := [(1, .int (nI 0)), (0, .ref a_this)]) X dX12_raise_1 (by decide) rfl (q := 2) rfl ?_
  refine j_lv (lv' := [(0, .ref a_this), (1, .int (nI 0))]) [1, 0] rfl ?_
  have LP2_1 : ∀ (r2_1 k2_1 : Nat) (t2_1 : (Nat → Int32)), k2_1 + r2_1 = 32 → t2_1 = itr X12_raise_l2 f_product k2_1 → J p l e { frames := 2, cells := 0, slots := 0, locals := 55 } s m [.ref a_this].toArray below meth c D A 2 Q 0 0 [(a_this, .inr (12, mfs ad v_thrown v_connections (nI v_size) (nI v_ids) (nI v_dataAll) (nI v_putCount) (nI v_waiting) (nI v_readSize) v_power v_left v_since v_changes (nI v_rowSize))), (ad 69, .inl (ct 0, 16, .inl f_m)), (ad 74, .inl (ct 0, 18, .inl f_rest)), (ad 72, .inl (ct 0, 16, .inl f_result)), (ad 73, .inl (ct 0, 32, .inl t2_1)), (ad 71, .inl (ct 0, 16, .inl f_powers)), (ad 70, .inl (ct 0, 16, .inl f_base))] [(0, .ref a_this), (1, .int (nI k2_1))] [] 2 := by
    intro r2_1
    induction r2_1 with
    | zero =>
      intro k2_1 t2_1 hk_t2_1 e_t2_1 
      have hkk_t2_1 : 32 = k2_1 := by omega
      subst hkk_t2_1
      have hp0 := raise_p0 e_t2_1
      refine j_iload_n X 1 dX12_raise_2 rfl (q := 3) rfl ?_
      refine j_bipush (v := nI 32) X dX12_raise_3 (by decide) (q := 5) rfl ?_
      refine j_icmp_ge (tgt := 29) X dX12_raise_5 (by decide) (q := 8) rfl (fun c2 => ?_) (fun c2 => ?_)
      · skip
        have c2 : 32 ≤ 32 := (nI_leI (a := 32) (b := 32) (by omega) (by omega)).mp c2
        refine j_aload_n X 0 dX12_raise_29 rfl (q := 30) rfl ?_
        refine j_aload_n X 0 dX12_raise_30 rfl (q := 31) rfl ?_
        refine j_get (f := 72) X 0 inT12 rfl rfl (by decide) mw_X12_raise_0 rfl dX12_raise_31 (q := 34) rfl ?_
        refine j_callVv (As := [.ref (ad 72)]) (rest := []) (wn := (fun u3 => [(a_this, .inr (12, mfs ad v_thrown v_connections (nI v_size) (nI v_ids) (nI v_dataAll) (nI v_putCount) (nI v_waiting) (nI v_readSize) v_power v_left v_since v_changes (nI v_rowSize))), (ad 69, .inl (ct 0, 16, .inl f_m)), (ad 74, .inl (ct 0, 18, .inl u3.2)), (ad 72, .inl (ct 0, 16, .inl u3.1)), (ad 73, .inl (ct 0, 32, .inl t2_1)), (ad 71, .inl (ct 0, 16, .inl f_powers)), (ad 70, .inl (ct 0, 16, .inl f_base))])) (wr := [(ad 71, .inl (ct 0, 16, .inl f_powers)), (ad 70, .inl (ct 0, 16, .inl f_base))]) X (fun sz => c_X12_remain l D ct ts a_this (ad 72) ad v_thrown v_connections v_size v_ids v_dataAll v_putCount v_waiting v_readSize v_power v_left v_since v_changes v_rowSize f_m f_rest f_result t2_1 (by first | omega | assumption) (by first | omega | assumption) (by first | omega | assumption) sz) cal_X12_remain 0 rfl rfl mw_X12_raise_4 cwi_X12_remain cws_X12_remain rfl ⟨by decide, by decide⟩ rfl rfl (Nat.le_of_ble_eq_true rfl) ⟨by decide, by decide⟩ [0, 1, 2, 3, 4] [5, 6] [2, 3, 4, 5, 6, 0, 1] rfl (by decide) rfl (by decide) (by decide) (fun _ => rfl) (by decide) dX12_raise_34 (q := 37) rfl (fun u3 hu3 => ?_)
        have hq_u3 : DG 16 u3.1 := by rw [hu3]; exact (remain_is (by assumption) (by assumption) (by assumption)).1
        refine j_sipush (v := nI 255) X dX12_raise_37 (by decide) (q := 40) rfl ?_
        refine j_istore_n (lv' := [(1, .int (nI 255)), (0, .ref a_this)]) X dX12_raise_40 (by decide) rfl (q := 41) rfl ?_
        refine j_lv (lv' := [(0, .ref a_this), (1, .int (nI 255))]) [1, 0] rfl ?_
        have LP41_5 : ∀ (r41_5 : Nat) (t41_5 : (Nat → Int32) × (Nat → Int32) × (Nat → Int32)), r41_5 ≤ 256 → itd (X12_raise_l41 f_m f_powers f_base) 256 ((t2_1, u3.2, u3.1)) = itd (X12_raise_l41 f_m f_powers f_base) r41_5 t41_5 → (DG 16 t41_5.2.2) → J p l e { frames := 2, cells := 0, slots := 0, locals := 55 } s m [.ref a_this].toArray below meth c D A 2 Q 0 0 [(a_this, .inr (12, mfs ad v_thrown v_connections (nI v_size) (nI v_ids) (nI v_dataAll) (nI v_putCount) (nI v_waiting) (nI v_readSize) v_power v_left v_since v_changes (nI v_rowSize))), (ad 69, .inl (ct 0, 16, .inl f_m)), (ad 74, .inl (ct 0, 18, .inl t41_5.2.1)), (ad 72, .inl (ct 0, 16, .inl t41_5.2.2)), (ad 73, .inl (ct 0, 32, .inl t41_5.1)), (ad 71, .inl (ct 0, 16, .inl f_powers)), (ad 70, .inl (ct 0, 16, .inl f_base))] [(0, .ref a_this), (1, .int (dn r41_5))] [] 41 := by
          intro r41_5
          induction r41_5 with
          | zero =>
            intro t41_5 hk_t41_5 e0_t41_5 hi0_t41_5
            have e_t41_5 : t41_5 = itd (X12_raise_l41 f_m f_powers f_base) 256 ((t2_1, u3.2, u3.1)) := (e0_t41_5.trans (itd_0 _ _)).symm
            refine j_iload_n X 1 dX12_raise_41 rfl (q := 42) rfl ?_
            refine j_if_lt (tgt := 111) X dX12_raise_42 (by decide) (q := 45) rfl (fun c6 => ?_) (fun c6 => ?_)
            · skip
              rw [hQ]
              exact j_vret X ((t41_5.1, t41_5.2.1, t41_5.2.2)) dX12_raise_111 (by subst e_t2_1; subst hu3; subst e_t41_5; rfl) rfl
            · skip
              exact absurd (show dn 0 < 0 by decide) c6
          | succ r41_5 ih41_5 =>
            intro t41_5 hk_t41_5 e_t41_5 hi0_t41_5
            rw [dn_s]
            refine j_iload_n X 1 dX12_raise_41 rfl (q := 42) rfl ?_
            refine j_if_lt (tgt := 111) X dX12_raise_42 (by decide) (q := 45) rfl (fun c7 => ?_) (fun c7 => ?_)
            · skip
              have c7 : r41_5 < 0 := (nI_ltI (a := r41_5) (b := 0) (by omega) (by omega)).mp c7
              exfalso; omega
            · skip
              have c7 : ¬ r41_5 < 0 := fun h => c7 ((nI_ltI (a := r41_5) (b := 0) (by omega) (by omega)).mpr h)
              refine j_aload_n X 0 dX12_raise_45 rfl (q := 46) rfl ?_
              refine j_aload_n X 0 dX12_raise_46 rfl (q := 47) rfl ?_
              refine j_get (f := 72) X 0 inT12 rfl rfl (by decide) mw_X12_raise_0 rfl dX12_raise_47 (q := 50) rfl ?_
              refine j_aload_n X 0 dX12_raise_50 rfl (q := 51) rfl ?_
              refine j_get (f := 72) X 0 inT12 rfl rfl (by decide) mw_X12_raise_0 rfl dX12_raise_51 (q := 54) rfl ?_
              refine j_callVv (As := [.ref (ad 72), .ref (ad 72)]) (rest := []) (wn := (fun u8 => [(a_this, .inr (12, mfs ad v_thrown v_connections (nI v_size) (nI v_ids) (nI v_dataAll) (nI v_putCount) (nI v_waiting) (nI v_readSize) v_power v_left v_since v_changes (nI v_rowSize))), (ad 69, .inl (ct 0, 16, .inl f_m)), (ad 74, .inl (ct 0, 18, .inl t41_5.2.1)), (ad 72, .inl (ct 0, 16, .inl t41_5.2.2)), (ad 73, .inl (ct 0, 32, .inl u8)), (ad 71, .inl (ct 0, 16, .inl f_powers)), (ad 70, .inl (ct 0, 16, .inl f_base))])) (wr := [(ad 69, .inl (ct 0, 16, .inl f_m)), (ad 74, .inl (ct 0, 18, .inl t41_5.2.1)), (ad 71, .inl (ct 0, 16, .inl f_powers)), (ad 70, .inl (ct 0, 16, .inl f_base))]) X (fun sz => c_X12_multiply_s l D ct ts a_this (ad 72) ad v_thrown v_connections v_size v_ids v_dataAll v_putCount v_waiting v_readSize v_power v_left v_since v_changes v_rowSize t41_5.1 t41_5.2.2  sz) cal_X12_multiply 0 rfl rfl mw_X12_raise_5 cwi_X12_multiply cws_X12_multiply rfl ⟨by decide, by decide⟩ rfl rfl (Nat.le_of_ble_eq_true rfl) ⟨by decide, by decide⟩ [0, 4, 3] [1, 2, 5, 6] [4, 0, 1, 6, 5, 2, 3] rfl (by decide) rfl (by decide) (by decide) (fun _ => rfl) (by decide) dX12_raise_54 (q := 57) rfl (fun u8 hu8 => ?_)
              have hq_u8 : DG 32 u8 := by rw [hu8]; exact (multiply_is (by assumption) (by assumption)).1
              refine j_aload_n X 0 dX12_raise_57 rfl (q := 58) rfl ?_
              refine j_aload_n X 0 dX12_raise_58 rfl (q := 59) rfl ?_
              refine j_get (f := 72) X 0 inT12 rfl rfl (by decide) mw_X12_raise_0 rfl dX12_raise_59 (q := 62) rfl ?_
              refine j_callVv (As := [.ref (ad 72)]) (rest := []) (wn := (fun u10 => [(a_this, .inr (12, mfs ad v_thrown v_connections (nI v_size) (nI v_ids) (nI v_dataAll) (nI v_putCount) (nI v_waiting) (nI v_readSize) v_power v_left v_since v_changes (nI v_rowSize))), (ad 69, .inl (ct 0, 16, .inl f_m)), (ad 74, .inl (ct 0, 18, .inl u10.2)), (ad 72, .inl (ct 0, 16, .inl u10.1)), (ad 73, .inl (ct 0, 32, .inl u8)), (ad 71, .inl (ct 0, 16, .inl f_powers)), (ad 70, .inl (ct 0, 16, .inl f_base))])) (wr := [(ad 71, .inl (ct 0, 16, .inl f_powers)), (ad 70, .inl (ct 0, 16, .inl f_base))]) X (fun sz => c_X12_remain l D ct ts a_this (ad 72) ad v_thrown v_connections v_size v_ids v_dataAll v_putCount v_waiting v_readSize v_power v_left v_since v_changes v_rowSize f_m t41_5.2.1 t41_5.2.2 u8 (by first | omega | assumption) (by first | omega | assumption) (by first | omega | assumption) sz) cal_X12_remain 0 rfl rfl mw_X12_raise_4 cwi_X12_remain cws_X12_remain rfl ⟨by decide, by decide⟩ rfl rfl (Nat.le_of_ble_eq_true rfl) ⟨by decide, by decide⟩ [0, 1, 2, 3, 4] [5, 6] [2, 3, 4, 5, 6, 0, 1] rfl (by decide) rfl (by decide) (by decide) (fun _ => rfl) (by decide) dX12_raise_62 (q := 65) rfl (fun u10 hu10 => ?_)
              have hq_u10 : DG 16 u10.1 := by rw [hu10]; exact (remain_is (by assumption) (by assumption) (by assumption)).1
              refine j_aload_n X 0 dX12_raise_65 rfl (q := 66) rfl ?_
              refine j_get (f := 71) X 0 inT12 rfl rfl (by decide) mw_X12_raise_1 rfl dX12_raise_66 (q := 69) rfl ?_
              refine j_iload_n X 1 dX12_raise_69 rfl (q := 70) rfl ?_
              refine j_bipush (v := nI 16) X dX12_raise_70 (by decide) (q := 72) rfl ?_
              refine j_idiv X dX12_raise_72 (by decide) (q := 73) rfl ?_
              refine j_eqi (pk_div (by omega) (by omega) (by omega)) ?_
              refine k_iald X 5 rfl (vp_in_nI (by omega) (by omega)) (nI_clamp (by omega)) dX12_raise_73 (q := 74) rfl ?_
              refine j_iload_n X 1 dX12_raise_74 rfl (q := 75) rfl ?_
              refine j_bipush (v := nI 16) X dX12_raise_75 (by decide) (q := 77) rfl ?_
              refine j_irem X dX12_raise_77 (by decide) (q := 78) rfl ?_
              refine j_eqi (pk_rem (by omega) (by omega) (by omega)) ?_
              refine j_ishr X dX12_raise_78 (q := 79) rfl ?_
              refine j_eqi (show _ = sr32 (f_powers (r41_5 / 16)) (r41_5 % 16) from rfl) ?_
              refine j_iconst (v := nI 1) X dX12_raise_79 (by decide) (q := 80) rfl ?_
              refine j_iand X dX12_raise_80 (q := 81) rfl ?_
              refine j_iconst (v := nI 1) X dX12_raise_81 (by decide) (q := 82) rfl ?_
              have KJ82_12 : ∀ g82_12 : (Nat → Int32) × (Nat → Int32) × (Nat → Int32), g82_12 = X12_raise_m82 f_m f_powers f_base r41_5 u8 u10 → J p l e { frames := 2, cells := 0, slots := 0, locals := 55 } s m [.ref a_this].toArray below meth c D A 2 Q 0 0 [(a_this, .inr (12, mfs ad v_thrown v_connections (nI v_size) (nI v_ids) (nI v_dataAll) (nI v_putCount) (nI v_waiting) (nI v_readSize) v_power v_left v_since v_changes (nI v_rowSize))), (ad 69, .inl (ct 0, 16, .inl f_m)), (ad 74, .inl (ct 0, 18, .inl g82_12.1)), (ad 72, .inl (ct 0, 16, .inl g82_12.2.1)), (ad 73, .inl (ct 0, 32, .inl g82_12.2.2)), (ad 71, .inl (ct 0, 16, .inl f_powers)), (ad 70, .inl (ct 0, 16, .inl f_base))] [(0, .ref a_this), (1, .int (nI r41_5))] [] 105 := by
                intro g82_12 e_g82_12
                have hj82 : DG 16 g82_12.2.1 := by rw [e_g82_12]; unfold X12_raise_m82; split <;> first | assumption | exact (remain_is (by assumption) (by assumption) (multiply_is (by assumption) (by assumption)).1).1
                refine j_iinc (v := dn r41_5) (lv' := [(1, .int (dn r41_5)), (0, .ref a_this)]) X 1 dX12_raise_105 rfl (dn_dec _) (by decide) rfl (q := 108) rfl ?_
                refine j_goto (tgt := 41) X dX12_raise_108 (by decide) ?_
                refine j_lv (lv' := [(0, .ref a_this), (1, .int (dn r41_5))]) [1, 0] rfl ?_
                have hb : (X12_raise_l41 f_m f_powers f_base) r41_5 t41_5 = (g82_12.2.2, g82_12.1, g82_12.2.1) := (by subst hu8; subst hu10; subst e_g82_12; rfl)
                exact ih41_5 ((g82_12.2.2, g82_12.1, g82_12.2.1)) (by omega) (by rw [e_t41_5, itd_s, hb]) (show DG 16 g82_12.2.1 from hj82)
              refine j_icmp_ne (tgt := 105) X dX12_raise_82 (by decide) (q := 85) rfl (fun c13 => ?_) (fun c13 => ?_)
              · skip
                refine j_lv (lv' := [(0, .ref a_this), (1, .int (nI r41_5))]) [0, 1] rfl ?_
                exact KJ82_12 ((u10.2, u10.1, u8)) (by first | rfl | (simp only [X12_raise_m82, if_neg c13]; done) | (simp only [X12_raise_m82, if_neg c13]; rfl))
              · skip
                refine j_aload_n X 0 dX12_raise_85 rfl (q := 86) rfl ?_
                refine j_aload_n X 0 dX12_raise_86 rfl (q := 87) rfl ?_
                refine j_get (f := 72) X 0 inT12 rfl rfl (by decide) mw_X12_raise_0 rfl dX12_raise_87 (q := 90) rfl ?_
                refine j_aload_n X 0 dX12_raise_90 rfl (q := 91) rfl ?_
                refine j_get (f := 70) X 0 inT12 rfl rfl (by decide) mw_X12_raise_2 rfl dX12_raise_91 (q := 94) rfl ?_
                refine j_callVv (As := [.ref (ad 72), .ref (ad 70)]) (rest := []) (wn := (fun u14 => [(a_this, .inr (12, mfs ad v_thrown v_connections (nI v_size) (nI v_ids) (nI v_dataAll) (nI v_putCount) (nI v_waiting) (nI v_readSize) v_power v_left v_since v_changes (nI v_rowSize))), (ad 69, .inl (ct 0, 16, .inl f_m)), (ad 74, .inl (ct 0, 18, .inl u10.2)), (ad 72, .inl (ct 0, 16, .inl u10.1)), (ad 73, .inl (ct 0, 32, .inl u14)), (ad 71, .inl (ct 0, 16, .inl f_powers)), (ad 70, .inl (ct 0, 16, .inl f_base))])) (wr := [(ad 69, .inl (ct 0, 16, .inl f_m)), (ad 74, .inl (ct 0, 18, .inl u10.2)), (ad 71, .inl (ct 0, 16, .inl f_powers))]) X (fun sz => c_X12_multiply l D ct ts a_this (ad 72) (ad 70) ad v_thrown v_connections v_size v_ids v_dataAll v_putCount v_waiting v_readSize v_power v_left v_since v_changes v_rowSize u8 u10.1 f_base  sz) cal_X12_multiply 0 rfl rfl mw_X12_raise_5 cwi_X12_multiply cws_X12_multiply rfl ⟨by decide, by decide⟩ rfl rfl (Nat.le_of_ble_eq_true rfl) ⟨by decide, by decide⟩ [0, 4, 3, 6] [1, 2, 5] [3, 0, 1, 5, 4, 2, 6] rfl (by decide) rfl (by decide) (by decide) (fun _ => rfl) (by decide) dX12_raise_94 (q := 97) rfl (fun u14 hu14 => ?_)
                have hq_u14 : DG 32 u14 := by rw [hu14]; exact (multiply_is (by assumption) (by assumption)).1
                refine j_aload_n X 0 dX12_raise_97 rfl (q := 98) rfl ?_
                refine j_aload_n X 0 dX12_raise_98 rfl (q := 99) rfl ?_
                refine j_get (f := 72) X 0 inT12 rfl rfl (by decide) mw_X12_raise_0 rfl dX12_raise_99 (q := 102) rfl ?_
                refine j_callVv (As := [.ref (ad 72)]) (rest := []) (wn := (fun u16 => [(a_this, .inr (12, mfs ad v_thrown v_connections (nI v_size) (nI v_ids) (nI v_dataAll) (nI v_putCount) (nI v_waiting) (nI v_readSize) v_power v_left v_since v_changes (nI v_rowSize))), (ad 69, .inl (ct 0, 16, .inl f_m)), (ad 74, .inl (ct 0, 18, .inl u16.2)), (ad 72, .inl (ct 0, 16, .inl u16.1)), (ad 73, .inl (ct 0, 32, .inl u14)), (ad 71, .inl (ct 0, 16, .inl f_powers)), (ad 70, .inl (ct 0, 16, .inl f_base))])) (wr := [(ad 71, .inl (ct 0, 16, .inl f_powers)), (ad 70, .inl (ct 0, 16, .inl f_base))]) X (fun sz => c_X12_remain l D ct ts a_this (ad 72) ad v_thrown v_connections v_size v_ids v_dataAll v_putCount v_waiting v_readSize v_power v_left v_since v_changes v_rowSize f_m u10.2 u10.1 u14 (by first | omega | assumption) (by first | omega | assumption) (by first | omega | assumption) sz) cal_X12_remain 0 rfl rfl mw_X12_raise_4 cwi_X12_remain cws_X12_remain rfl ⟨by decide, by decide⟩ rfl rfl (Nat.le_of_ble_eq_true rfl) ⟨by decide, by decide⟩ [0, 1, 2, 3, 4] [5, 6] [2, 3, 4, 5, 6, 0, 1] rfl (by decide) rfl (by decide) (by decide) (fun _ => rfl) (by decide) dX12_raise_102 (q := 105) rfl (fun u16 hu16 => ?_)
                have hq_u16 : DG 16 u16.1 := by rw [hu16]; exact (remain_is (by assumption) (by assumption) (by assumption)).1
                refine j_lv (lv' := [(0, .ref a_this), (1, .int (nI r41_5))]) [0, 1] rfl ?_
                exact KJ82_12 ((u16.2, u16.1, u14)) (by subst hu14; subst hu16; first | rfl | (simp only [X12_raise_m82, if_pos c13]; done) | (simp only [X12_raise_m82, if_pos c13]; rfl))
        exact LP41_5 256 ((t2_1, u3.2, u3.1)) (by omega) rfl (show DG 16 u3.1 from by assumption)
      · skip
        have c2 : ¬ 32 ≤ 32 := fun h => c2 ((nI_leI (a := 32) (b := 32) (by omega) (by omega)).mpr h)
        exfalso; omega
    | succ r2_1 ih2_1 =>
      intro k2_1 t2_1 hk_t2_1 e_t2_1 
      refine j_iload_n X 1 dX12_raise_2 rfl (q := 3) rfl ?_
      refine j_bipush (v := nI 32) X dX12_raise_3 (by decide) (q := 5) rfl ?_
      refine j_icmp_ge (tgt := 29) X dX12_raise_5 (by decide) (q := 8) rfl (fun c18 => ?_) (fun c18 => ?_)
      · skip
        have c18 : 32 ≤ k2_1 := (nI_leI (a := 32) (b := k2_1) (by omega) (by omega)).mp c18
        exfalso; omega
      · skip
        have c18 : ¬ 32 ≤ k2_1 := fun h => c18 ((nI_leI (a := 32) (b := k2_1) (by omega) (by omega)).mpr h)
        refine j_aload_n X 0 dX12_raise_8 rfl (q := 9) rfl ?_
        refine j_get (f := 73) X 0 inT12 rfl rfl (by decide) mw_X12_raise_3 rfl dX12_raise_9 (q := 12) rfl ?_
        refine j_iload_n X 1 dX12_raise_12 rfl (q := 13) rfl ?_
        refine j_iload_n X 1 dX12_raise_13 rfl (q := 14) rfl ?_
        have KJ14_19 : ∀ g14_19 : (Nat), g14_19 = X12_raise_m14 k2_1 → J p l e { frames := 2, cells := 0, slots := 0, locals := 55 } s m [.ref a_this].toArray below meth c D A 2 Q 0 0 [(a_this, .inr (12, mfs ad v_thrown v_connections (nI v_size) (nI v_ids) (nI v_dataAll) (nI v_putCount) (nI v_waiting) (nI v_readSize) v_power v_left v_since v_changes (nI v_rowSize))), (ad 69, .inl (ct 0, 16, .inl f_m)), (ad 74, .inl (ct 0, 18, .inl f_rest)), (ad 72, .inl (ct 0, 16, .inl f_result)), (ad 73, .inl (ct 0, 32, .inl t2_1)), (ad 71, .inl (ct 0, 16, .inl f_powers)), (ad 70, .inl (ct 0, 16, .inl f_base))] [(0, .ref a_this), (1, .int (nI k2_1))] [.int (nI g14_19), .int (nI k2_1), .ref (ad 73)] 22 := by
          intro g14_19 e_g14_19
          refine k_iast (ws2 := [(a_this, .inr (12, mfs ad v_thrown v_connections (nI v_size) (nI v_ids) (nI v_dataAll) (nI v_putCount) (nI v_waiting) (nI v_readSize) v_power v_left v_since v_changes (nI v_rowSize))), (ad 69, .inl (ct 0, 16, .inl f_m)), (ad 74, .inl (ct 0, 18, .inl f_rest)), (ad 72, .inl (ct 0, 16, .inl f_result)), (ad 73, .inl (ct 0, 32, .inl (upd t2_1 k2_1 (nI g14_19)))), (ad 71, .inl (ct 0, 16, .inl f_powers)), (ad 70, .inl (ct 0, 16, .inl f_base))]) X 4 rfl (vp_in_nI (by omega) (by omega)) (nI_clamp (by omega)) dX12_raise_22 rfl (q := 23) rfl ?_
          refine j_iinc (v := nI (k2_1 + 1)) (lv' := [(1, .int (nI (k2_1 + 1))), (0, .ref a_this)]) X 1 dX12_raise_23 rfl (nI_inc _ 1) (by decide) rfl (q := 26) rfl ?_
          refine j_goto (tgt := 2) X dX12_raise_26 (by decide) ?_
          refine j_lv (lv' := [(0, .ref a_this), (1, .int (nI (k2_1 + 1)))]) [1, 0] rfl ?_
          have hb : X12_raise_l2 k2_1 t2_1 = upd t2_1 k2_1 (nI g14_19) := (by subst e_g14_19; rfl)
          exact ih2_1 (k2_1 + 1) (upd t2_1 k2_1 (nI g14_19)) (by omega) (by rw [itr_s, ← e_t2_1]; exact hb.symm) 
        refine j_if_ne (tgt := 21) X dX12_raise_14 (by decide) (q := 17) rfl (fun c20 => ?_) (fun c20 => ?_)
        · skip
          have c20 : ¬ k2_1 = 0 := fun h => c20 (by rw [h]; rfl)
          refine j_iconst (v := nI 0) X dX12_raise_21 (by decide) (q := 22) rfl ?_
          refine j_lv (lv' := [(0, .ref a_this), (1, .int (nI k2_1))]) [0, 1] rfl ?_
          exact KJ14_19 0 (by first | rfl | (simp only [X12_raise_m14, if_neg c20]; done) | (simp only [X12_raise_m14, if_neg c20]; rfl))
        · skip
          have c20 : k2_1 = 0 := (nI_eq (a := k2_1) (b := 0) (by omega) (by omega)).mp c20
          refine j_iconst (v := nI 1) X dX12_raise_17 (by decide) (q := 18) rfl ?_
          refine j_goto (tgt := 22) X dX12_raise_18 (by decide) ?_
          refine j_lv (lv' := [(0, .ref a_this), (1, .int (nI k2_1))]) [0, 1] rfl ?_
          exact KJ14_19 1 (by first | rfl | (simp only [X12_raise_m14, if_pos c20]; done) | (simp only [X12_raise_m14, if_pos c20]; rfl))
  exact LP2_1 32 0 f_product (by omega) (itr_0 _ _).symm 
theorem cal_X12_raise : Cal yX12_raise cX12_raise 2 none 0 := ⟨tb_at 120 (by decide +kernel) (by decide +kernel), tb_at 1519 (by decide +kernel) (by decide +kernel), by decide +kernel, by decide +kernel, by decide +kernel⟩
theorem cwi_X12_raise : Cond.instanceMethod yX12_raise ∈ tb := tb_at 1518 (by decide +kernel) (by decide +kernel)
theorem cws_X12_raise : Cond.selects yX12_raise.cls yX12_raise yX12_raise ∈ tb := tb_at 56 (by decide +kernel) (by decide +kernel)

