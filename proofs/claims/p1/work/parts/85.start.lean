/-! ===== the start: classes, array classes, the static tables, out of the Statement's words ===== -/
theorem lw_i {w : Cond} (i : Nat) (h : lw_tbl[i]? = some w) : w ∈ lw_tbl := List.mem_of_getElem? h
/-- a static table, where the start's words say its length and its elements -/
theorem sx_of {args : Array Value} {s : State} {A : Nat → Prop} {C n : String} {N off : Nat} {xs : List Int32} {F : List Cond} (hF : ∀ w ∈ F, w.before args s = true) (hN : N < 2 ^ 31) (hl : (Cond.laysStatic C n "[I").before args s = true) (hini : (Cond.initialized C).before args s = true)
    (m1 : F[off]? = some (Cond.arrayOf (.static C n "[I") .int)) (m2 : F[off + 1]? = some (Cond.eq (.length (.static C n "[I")) (.int (Int32.ofNat N)))) (m3 : ∀ j, j < N → F[off + 2 + j]? = some (Cond.eq (.elem (.static C n "[I") (.int (Int32.ofNat j))) (.int (xs.getD j 0)))) (hA : ∀ a : Nat, a < s.heap.size → ¬ A a) :
    ∃ t : Nat, va_Z C n "[I" (.ref t) A s s.heap ∧ va_T .int t N (fun j => .int (xs.getD j 0)) A s s.heap := by
  have hlen : (Term.length (.static C n "[I")).eval args s none [] s = some (.int (Int32.ofNat N)) := by
    obtain ⟨y, h1, h2⟩ := Cond.eq_one (hF _ (List.mem_of_getElem? m2))
    rw [h1]
    exact h2.symm
  have hel : ∀ j : Nat, j < N → (Term.elem (.static C n "[I") (.int (Int32.ofNat j))).eval args s none [] s = some (.int (xs.getD j 0)) := fun j hj => by
    obtain ⟨y, h1, h2⟩ := Cond.eq_one (hF _ (List.mem_of_getElem? (m3 j hj)))
    rw [h1]
    exact h2.symm
  obtain ⟨t, ht, hT⟩ := va_Tof hN (hF _ (List.mem_of_getElem? m1)) hlen hel hA
  exact ⟨t, va_Zref hl hini ht hA, hT⟩
/-- an array class of a plain type -/
theorem ac_of {args : Array Value} {s : State} {ty : FieldType} (h : (Cond.arrayClass ty).before args s = true) : ∃ cA : ClassId, ArrOfT s cA ty ∧ s.vm.findClass ("[" ++ ty.toString) = some cA := by
  obtain ⟨cA, k, comp, h1, h2, h3⟩ := Cond.arrayClass_spec h
  exact ⟨cA, fun n z => ⟨fun k h => (by cases h), k, h2, comp, h3⟩, h1⟩
theorem ao_of {s : State} {C : String} (h : va_AO C s) : ∃ cA : ClassId, ArrOfT s cA (.object C) ∧ va_RA s cA (.object C) := by
  obtain ⟨comp, c, k, h1, h2, h3, h4, h5⟩ := Cond.arrayOver_spec h
  exact ⟨c, fun n z => ⟨fun k h => (by cases h), k, h3, comp, h4⟩, k, comp, h3, h4, h1, h5⟩

abbrev FLT : List Cond := flatC (Jvm.Cond.and given_1 narrow_1)
set_option maxRecDepth 100000 in
theorem sx_a0 : FLT[5]? = some (Cond.arrayOf (.static "GuardedTree$Agreement" "P" "[I") .int) := by decide +kernel
set_option maxRecDepth 100000 in
theorem sx_l0 : FLT[5 + 1]? = some (Cond.eq (.length (.static "GuardedTree$Agreement" "P" "[I")) (.int (Int32.ofNat 8))) := by decide +kernel
set_option maxRecDepth 100000 in
theorem sx_e0 : ∀ j, j < 8 → FLT[5 + 2 + j]? = some (Cond.eq (.elem (.static "GuardedTree$Agreement" "P" "[I") (.int (Int32.ofNat j))) (.int (tab_Agreement_P.getD j 0))) := by decide +kernel
set_option maxRecDepth 100000 in
theorem sx_a1 : FLT[410]? = some (Cond.arrayOf (.static "GuardedTree$Agreement" "P_LESS_1" "[I") .int) := by decide +kernel
set_option maxRecDepth 100000 in
theorem sx_l1 : FLT[410 + 1]? = some (Cond.eq (.length (.static "GuardedTree$Agreement" "P_LESS_1" "[I")) (.int (Int32.ofNat 8))) := by decide +kernel
set_option maxRecDepth 100000 in
theorem sx_e1 : ∀ j, j < 8 → FLT[410 + 2 + j]? = some (Cond.eq (.elem (.static "GuardedTree$Agreement" "P_LESS_1" "[I") (.int (Int32.ofNat j))) (.int (tab_Agreement_P_LESS_1.getD j 0))) := by decide +kernel
set_option maxRecDepth 100000 in
theorem sx_a2 : FLT[127]? = some (Cond.arrayOf (.static "GuardedTree$Agreement" "G" "[I") .int) := by decide +kernel
set_option maxRecDepth 100000 in
theorem sx_l2 : FLT[127 + 1]? = some (Cond.eq (.length (.static "GuardedTree$Agreement" "G" "[I")) (.int (Int32.ofNat 8))) := by decide +kernel
set_option maxRecDepth 100000 in
theorem sx_e2 : ∀ j, j < 8 → FLT[127 + 2 + j]? = some (Cond.eq (.elem (.static "GuardedTree$Agreement" "G" "[I") (.int (Int32.ofNat j))) (.int (tab_Agreement_G.getD j 0))) := by decide +kernel
set_option maxRecDepth 100000 in
theorem sx_a3 : FLT[27]? = some (Cond.arrayOf (.static "GuardedTree$Agreement" "N" "[I") .int) := by decide +kernel
set_option maxRecDepth 100000 in
theorem sx_l3 : FLT[27 + 1]? = some (Cond.eq (.length (.static "GuardedTree$Agreement" "N" "[I")) (.int (Int32.ofNat 8))) := by decide +kernel
set_option maxRecDepth 100000 in
theorem sx_e3 : ∀ j, j < 8 → FLT[27 + 2 + j]? = some (Cond.eq (.elem (.static "GuardedTree$Agreement" "N" "[I") (.int (Int32.ofNat j))) (.int (tab_Agreement_N.getD j 0))) := by decide +kernel
set_option maxRecDepth 100000 in
theorem sx_a4 : FLT[432]? = some (Cond.arrayOf (.static "GuardedTree$Agreement" "E" "[I") .int) := by decide +kernel
set_option maxRecDepth 100000 in
theorem sx_l4 : FLT[432 + 1]? = some (Cond.eq (.length (.static "GuardedTree$Agreement" "E" "[I")) (.int (Int32.ofNat 8))) := by decide +kernel
set_option maxRecDepth 100000 in
theorem sx_e4 : ∀ j, j < 8 → FLT[432 + 2 + j]? = some (Cond.eq (.elem (.static "GuardedTree$Agreement" "E" "[I") (.int (Int32.ofNat j))) (.int (tab_Agreement_E.getD j 0))) := by decide +kernel
set_option maxRecDepth 100000 in
theorem sx_a5 : FLT[421]? = some (Cond.arrayOf (.static "GuardedTree$Agreement" "D" "[I") .int) := by decide +kernel
set_option maxRecDepth 100000 in
theorem sx_l5 : FLT[421 + 1]? = some (Cond.eq (.length (.static "GuardedTree$Agreement" "D" "[I")) (.int (Int32.ofNat 8))) := by decide +kernel
set_option maxRecDepth 100000 in
theorem sx_e5 : ∀ j, j < 8 → FLT[421 + 2 + j]? = some (Cond.eq (.elem (.static "GuardedTree$Agreement" "D" "[I") (.int (Int32.ofNat j))) (.int (tab_Agreement_D.getD j 0))) := by decide +kernel
set_option maxRecDepth 100000 in
theorem sx_a6 : FLT[16]? = some (Cond.arrayOf (.static "GuardedTree$Agreement" "SQUARE_P" "[I") .int) := by decide +kernel
set_option maxRecDepth 100000 in
theorem sx_l6 : FLT[16 + 1]? = some (Cond.eq (.length (.static "GuardedTree$Agreement" "SQUARE_P" "[I")) (.int (Int32.ofNat 8))) := by decide +kernel
set_option maxRecDepth 100000 in
theorem sx_e6 : ∀ j, j < 8 → FLT[16 + 2 + j]? = some (Cond.eq (.elem (.static "GuardedTree$Agreement" "SQUARE_P" "[I") (.int (Int32.ofNat j))) (.int (tab_Agreement_SQUARE_P.getD j 0))) := by decide +kernel
set_option maxRecDepth 100000 in
theorem sx_a7 : FLT[38]? = some (Cond.arrayOf (.static "GuardedTree$Agreement" "SQUARE_N" "[I") .int) := by decide +kernel
set_option maxRecDepth 100000 in
theorem sx_l7 : FLT[38 + 1]? = some (Cond.eq (.length (.static "GuardedTree$Agreement" "SQUARE_N" "[I")) (.int (Int32.ofNat 8))) := by decide +kernel
set_option maxRecDepth 100000 in
theorem sx_e7 : ∀ j, j < 8 → FLT[38 + 2 + j]? = some (Cond.eq (.elem (.static "GuardedTree$Agreement" "SQUARE_N" "[I") (.int (Int32.ofNat j))) (.int (tab_Agreement_SQUARE_N.getD j 0))) := by decide +kernel
set_option maxRecDepth 100000 in
theorem sx_a8 : FLT[138]? = some (Cond.arrayOf (.static "GuardedTree$Modulus" "ONE" "[I") .int) := by decide +kernel
set_option maxRecDepth 100000 in
theorem sx_l8 : FLT[138 + 1]? = some (Cond.eq (.length (.static "GuardedTree$Modulus" "ONE" "[I")) (.int (Int32.ofNat 8))) := by decide +kernel
set_option maxRecDepth 100000 in
theorem sx_e8 : ∀ j, j < 8 → FLT[138 + 2 + j]? = some (Cond.eq (.elem (.static "GuardedTree$Modulus" "ONE" "[I") (.int (Int32.ofNat j))) (.int (tab_Modulus_ONE.getD j 0))) := by decide +kernel
set_option maxRecDepth 100000 in
theorem sx_a9 : FLT[151]? = some (Cond.arrayOf (.static "GuardedTree$Cipher" "S" "[I") .int) := by decide +kernel
set_option maxRecDepth 100000 in
theorem sx_l9 : FLT[151 + 1]? = some (Cond.eq (.length (.static "GuardedTree$Cipher" "S" "[I")) (.int (Int32.ofNat 256))) := by decide +kernel
set_option maxRecDepth 100000 in
theorem sx_e9 : ∀ j, j < 256 → FLT[151 + 2 + j]? = some (Cond.eq (.elem (.static "GuardedTree$Cipher" "S" "[I") (.int (Int32.ofNat j))) (.int (tab_Cipher_S.getD j 0))) := by decide +kernel
set_option maxRecDepth 100000 in
theorem sx_a10 : FLT[49]? = some (Cond.arrayOf (.static "GuardedTree$Digest" "FIRST" "[I") .int) := by decide +kernel
set_option maxRecDepth 100000 in
theorem sx_l10 : FLT[49 + 1]? = some (Cond.eq (.length (.static "GuardedTree$Digest" "FIRST" "[I")) (.int (Int32.ofNat 8))) := by decide +kernel
set_option maxRecDepth 100000 in
theorem sx_e10 : ∀ j, j < 8 → FLT[49 + 2 + j]? = some (Cond.eq (.elem (.static "GuardedTree$Digest" "FIRST" "[I") (.int (Int32.ofNat j))) (.int (tab_Digest_FIRST.getD j 0))) := by decide +kernel
set_option maxRecDepth 100000 in
theorem sx_a11 : FLT[60]? = some (Cond.arrayOf (.static "GuardedTree$Digest" "K" "[I") .int) := by decide +kernel
set_option maxRecDepth 100000 in
theorem sx_l11 : FLT[60 + 1]? = some (Cond.eq (.length (.static "GuardedTree$Digest" "K" "[I")) (.int (Int32.ofNat 64))) := by decide +kernel
set_option maxRecDepth 100000 in
theorem sx_e11 : ∀ j, j < 64 → FLT[60 + 2 + j]? = some (Cond.eq (.elem (.static "GuardedTree$Digest" "K" "[I") (.int (Int32.ofNat j))) (.int (tab_Digest_K.getD j 0))) := by decide +kernel
set_option maxHeartbeats 4000000 in
set_option maxRecDepth 100000 in
theorem st_sx {s : State} {b : Nat} {A : Nat → Prop} (hts : ∀ w ∈ lw_tbl, w.before #[Value.ref b] s = true) (hF : ∀ w ∈ FLT, w.before #[Value.ref b] s = true) (hA : ∀ a : Nat, a < s.heap.size → ¬ A a) : ∃ ts : Nat → Nat, SX SXL ts A s s.heap := by
  obtain ⟨t0, z0, y0⟩ := sx_of (A := A) (C := "GuardedTree$Agreement") (n := "P") (N := 8) (off := 5) (xs := tab_Agreement_P) hF (by decide) (hts _ (lw_i 177 (by decide +kernel))) (hts _ (lw_i 111 (by decide +kernel))) sx_a0 sx_l0 sx_e0 hA
  obtain ⟨t1, z1, y1⟩ := sx_of (A := A) (C := "GuardedTree$Agreement") (n := "P_LESS_1") (N := 8) (off := 410) (xs := tab_Agreement_P_LESS_1) hF (by decide) (hts _ (lw_i 881 (by decide +kernel))) (hts _ (lw_i 111 (by decide +kernel))) sx_a1 sx_l1 sx_e1 hA
  obtain ⟨t2, z2, y2⟩ := sx_of (A := A) (C := "GuardedTree$Agreement") (n := "G") (N := 8) (off := 127) (xs := tab_Agreement_G) hF (by decide) (hts _ (lw_i 547 (by decide +kernel))) (hts _ (lw_i 111 (by decide +kernel))) sx_a2 sx_l2 sx_e2 hA
  obtain ⟨t3, z3, y3⟩ := sx_of (A := A) (C := "GuardedTree$Agreement") (n := "N") (N := 8) (off := 27) (xs := tab_Agreement_N) hF (by decide) (hts _ (lw_i 204 (by decide +kernel))) (hts _ (lw_i 111 (by decide +kernel))) sx_a3 sx_l3 sx_e3 hA
  obtain ⟨t4, z4, y4⟩ := sx_of (A := A) (C := "GuardedTree$Agreement") (n := "E") (N := 8) (off := 432) (xs := tab_Agreement_E) hF (by decide) (hts _ (lw_i 1089 (by decide +kernel))) (hts _ (lw_i 111 (by decide +kernel))) sx_a4 sx_l4 sx_e4 hA
  obtain ⟨t5, z5, y5⟩ := sx_of (A := A) (C := "GuardedTree$Agreement") (n := "D") (N := 8) (off := 421) (xs := tab_Agreement_D) hF (by decide) (hts _ (lw_i 889 (by decide +kernel))) (hts _ (lw_i 111 (by decide +kernel))) sx_a5 sx_l5 sx_e5 hA
  obtain ⟨t6, z6, y6⟩ := sx_of (A := A) (C := "GuardedTree$Agreement") (n := "SQUARE_P") (N := 8) (off := 16) (xs := tab_Agreement_SQUARE_P) hF (by decide) (hts _ (lw_i 179 (by decide +kernel))) (hts _ (lw_i 111 (by decide +kernel))) sx_a6 sx_l6 sx_e6 hA
  obtain ⟨t7, z7, y7⟩ := sx_of (A := A) (C := "GuardedTree$Agreement") (n := "SQUARE_N") (N := 8) (off := 38) (xs := tab_Agreement_SQUARE_N) hF (by decide) (hts _ (lw_i 206 (by decide +kernel))) (hts _ (lw_i 111 (by decide +kernel))) sx_a7 sx_l7 sx_e7 hA
  obtain ⟨t8, z8, y8⟩ := sx_of (A := A) (C := "GuardedTree$Modulus") (n := "ONE") (N := 8) (off := 138) (xs := tab_Modulus_ONE) hF (by decide) (hts _ (lw_i 569 (by decide +kernel))) (hts _ (lw_i 113 (by decide +kernel))) sx_a8 sx_l8 sx_e8 hA
  obtain ⟨t9, z9, y9⟩ := sx_of (A := A) (C := "GuardedTree$Cipher") (n := "S") (N := 256) (off := 151) (xs := tab_Cipher_S) hF (by decide) (hts _ (lw_i 778 (by decide +kernel))) (hts _ (lw_i 115 (by decide +kernel))) sx_a9 sx_l9 sx_e9 hA
  obtain ⟨t10, z10, y10⟩ := sx_of (A := A) (C := "GuardedTree$Digest") (n := "FIRST") (N := 8) (off := 49) (xs := tab_Digest_FIRST) hF (by decide) (hts _ (lw_i 528 (by decide +kernel))) (hts _ (lw_i 112 (by decide +kernel))) sx_a10 sx_l10 sx_e10 hA
  obtain ⟨t11, z11, y11⟩ := sx_of (A := A) (C := "GuardedTree$Digest") (n := "K") (N := 64) (off := 60) (xs := tab_Digest_K) hF (by decide) (hts _ (lw_i 538 (by decide +kernel))) (hts _ (lw_i 112 (by decide +kernel))) sx_a11 sx_l11 sx_e11 hA
  refine ⟨fun k => [t0, t1, t2, t3, t4, t5, t6, t7, t8, t9, t10, t11].getD k 0, ?_⟩
  intro k q hq
  match k, hq with
  | 0, hq => cases hq; exact ⟨z0, y0⟩
  | 1, hq => cases hq; exact ⟨z1, y1⟩
  | 2, hq => cases hq; exact ⟨z2, y2⟩
  | 3, hq => cases hq; exact ⟨z3, y3⟩
  | 4, hq => cases hq; exact ⟨z4, y4⟩
  | 5, hq => cases hq; exact ⟨z5, y5⟩
  | 6, hq => cases hq; exact ⟨z6, y6⟩
  | 7, hq => cases hq; exact ⟨z7, y7⟩
  | 8, hq => cases hq; exact ⟨z8, y8⟩
  | 9, hq => cases hq; exact ⟨z9, y9⟩
  | 10, hq => cases hq; exact ⟨z10, y10⟩
  | 11, hq => cases hq; exact ⟨z11, y11⟩
  | k + 12, hq => simp [SXL] at hq
set_option maxHeartbeats 4000000 in
set_option maxRecDepth 100000 in
theorem st_k {s : State} {b : Nat} (hts : ∀ w ∈ lw_tbl, w.before #[Value.ref b] s = true) : ∃ (D : va_G) (ct : Nat → ClassId), va_K D vwCl (tysG ct) s := by
  have hw : ∀ w ∈ tb, w.before #[Value.ref b] s = true := fun w h => hts w (List.mem_filter.mp h).1
  obtain ⟨c0, i0, k0⟩ := u_known (C := RX0) (T := TX0) (N := 13) (n := 13) hw inT0 (hts (.instantiable RX0 13) (lw_i 143 (by decide +kernel)))
  obtain ⟨c1, i1, k1⟩ := u_known (C := RX1) (T := TX1) (N := 9) (n := 9) hw inT1 (hts (.instantiable RX1 9) (lw_i 249 (by decide +kernel)))
  obtain ⟨c2, i2, k2⟩ := u_known (C := RX2) (T := TX2) (N := 4) (n := 4) hw inT2 (hts (.instantiable RX2 4) (lw_i 255 (by decide +kernel)))
  obtain ⟨c3, i3, k3⟩ := u_known (C := RX3) (T := TX3) (N := 9) (n := 9) hw inT3 (hts (.instantiable RX3 9) (lw_i 137 (by decide +kernel)))
  obtain ⟨c4, i4, k4⟩ := u_known (C := RX4) (T := TX4) (N := 5) (n := 5) hw inT4 (hts (.instantiable RX4 5) (lw_i 149 (by decide +kernel)))
  obtain ⟨c5, i5, k5⟩ := u_known (C := RX5) (T := TX5) (N := 4) (n := 4) hw inT5 (hts (.instantiable RX5 4) (lw_i 386 (by decide +kernel)))
  obtain ⟨c6, i6, k6⟩ := u_known (C := RX6) (T := TX6) (N := 2) (n := 2) hw inT6 (hts (.instantiable RX6 2) (lw_i 457 (by decide +kernel)))
  obtain ⟨c7, i7, k7⟩ := u_known (C := RX7) (T := TX7) (N := 6) (n := 6) hw inT7 (hts (.instantiable RX7 6) (lw_i 175 (by decide +kernel)))
  obtain ⟨c8, i8, k8⟩ := u_known (C := RX8) (T := TX8) (N := 3) (n := 3) hw inT8 (hts (.instantiable RX8 3) (lw_i 708 (by decide +kernel)))
  obtain ⟨c9, i9, k9⟩ := u_known (C := RX9) (T := TX9) (N := 15) (n := 15) hw inT9 (hts (.instantiable RX9 15) (lw_i 342 (by decide +kernel)))
  obtain ⟨c10, i10, k10⟩ := u_known (C := RX10) (T := TX10) (N := 9) (n := 9) hw inT10 (hts (.instantiable RX10 9) (lw_i 352 (by decide +kernel)))
  obtain ⟨c11, i11, k11⟩ := u_known (C := RX11) (T := TX11) (N := 5) (n := 5) hw inT11 (hts (.instantiable RX11 5) (lw_i 129 (by decide +kernel)))
  obtain ⟨c12, i12, k12⟩ := u_known (C := RX12) (T := TX12) (N := 77) (n := 77) hw inT12 (hts (.instantiable RX12 77) (lw_i 1126 (by decide +kernel)))
  obtain ⟨a0, e0, f0⟩ := ac_of (ty := .int) (hts _ (lw_i 172 (by decide +kernel)))
  obtain ⟨a1, e1, f1⟩ := ac_of (ty := .byte) (hts _ (lw_i 173 (by decide +kernel)))
  obtain ⟨a2, e2, f2⟩ := ac_of (ty := .boolean) (hts _ (lw_i 1469 (by decide +kernel)))
  obtain ⟨a3, e3, f3⟩ := ac_of (ty := .long) (hts _ (lw_i 1790 (by decide +kernel)))
  obtain ⟨a4, e4, f4⟩ := ao_of (C := "GuardedTree$Request") (va_AO.of (hts _ (lw_i 309 (by decide +kernel))))
  refine ⟨(fun k => [c0, c1, c2, c3, c4, c5, c6, c7, c8, c9, c10, c11, c12].getD k c0, fun k => [i0, i1, i2, i3, i4, i5, i6, i7, i8, i9, i10, i11, i12].getD k i0), fun k => [a0, a1, a2, a3, a4].getD k a0, ?_, ?_⟩
  · intro k q hq
    match k, hq with
    | 0, hq => cases hq; exact k0
    | 1, hq => cases hq; exact k1
    | 2, hq => cases hq; exact k2
    | 3, hq => cases hq; exact k3
    | 4, hq => cases hq; exact k4
    | 5, hq => cases hq; exact k5
    | 6, hq => cases hq; exact k6
    | 7, hq => cases hq; exact k7
    | 8, hq => cases hq; exact k8
    | 9, hq => cases hq; exact k9
    | 10, hq => cases hq; exact k10
    | 11, hq => cases hq; exact k11
    | 12, hq => cases hq; exact k12
    | k + 13, hq => simp [vwCl] at hq
  · intro k q hq
    match k, hq with
    | 0, hq => cases hq; exact ⟨e0, f0⟩
    | 1, hq => cases hq; exact ⟨e1, f1⟩
    | 2, hq => cases hq; exact ⟨e2, f2⟩
    | 3, hq => cases hq; exact ⟨e3, f3⟩
    | 4, hq => cases hq; exact ⟨e4, f4⟩
    | k + 5, hq => simp [tysG] at hq
theorem st_tx {s : State} {b : Nat} {A : Nat → Prop} (hts : ∀ w ∈ lw_tbl, w.before #[Value.ref b] s = true) (hF : ∀ w ∈ FLT, w.before #[Value.ref b] s = true) (hA : ∀ a : Nat, a < s.heap.size → ¬ A a) : TX A s s.heap := by
  have hU : vx_Zq Bundle.tN "UNASSIGNED_STACK" Bundle.steD A s s.heap := vx_Zqof (hts (.laysStatic Bundle.tN "UNASSIGNED_STACK" Bundle.steD) (lw_i 658 (by decide +kernel))) (hts (.initialized Bundle.tN) (lw_i 121 (by decide +kernel))) (hF (.isRef (.static Bundle.tN "UNASSIGNED_STACK" Bundle.steD)) (List.mem_of_getElem? (i := 148) (by decide +kernel))) hA
  have hN : vx_Zq Bundle.tN "SUPPRESSED_SENTINEL" Bundle.listD A s s.heap := vx_Zqof (hts (.laysStatic Bundle.tN "SUPPRESSED_SENTINEL" Bundle.listD) (lw_i 660 (by decide +kernel))) (hts (.initialized Bundle.tN) (lw_i 121 (by decide +kernel))) (hF (.isRef (.static Bundle.tN "SUPPRESSED_SENTINEL" Bundle.listD)) (List.mem_of_getElem? (i := 149) (by decide +kernel))) hA
  refine ⟨hU, hN, va_Nw.of rfl (hts (.castable EIX EIX) (lw_i 802 (by decide +kernel))), va_Nw.of rfl (hts (.castable EIA EIA) (lw_i 633 (by decide +kernel))), fun x hx => ?_⟩
  exact va_Nw.of rfl (hts (.declares x) (by revert x; decide +kernel))
set_option maxHeartbeats 4000000 in
theorem whole_start {p : Program} {e : Env} {s : State} {m : MethodId} {below : List Frame} {meth : Method} {c : Code} (l : Launch) (hst : l.stackTraces = false) {b L : Nat} {xs : Nat → Int32} (hL : L ≤ 6) (C0 : lw_At p s m meth c b L xs) : W p l e room_1 s m #[Value.ref b] below meth c s.heap [] 0 0 (lw_Z below #[Value.ref b] s) (entryFrame m ([Value.ref b] : List Value).toArray 7) := by
  obtain ⟨hx, hb, hr, hml, hown, hts, hX, hbl, hlocks, hgv⟩ := C0
  have hA0 : ∀ a : Nat, a < s.heap.size → ¬ (fun q : Nat => s.heap.size ≤ q) a := fun a h => Nat.not_le.mpr h
  have hF := flat_of_before _ hgv
  obtain ⟨D, ct, hK⟩ := st_k hts
  obtain ⟨ts, hS⟩ := st_sx (A := fun q : Nat => s.heap.size ≤ q) hts hF hA0
  have hT := st_tx (A := fun q : Nat => s.heap.size ≤ q) hts hF hA0
  have hN : NX s := ⟨fun a i x h hm => va_Nw.of rfl (hts _ hm), va_AO.of (hts _ (lw_i 309 (by decide +kernel)))⟩
  have X : Cx p s m #[Value.ref b] meth c D ct SXL ts (fun q : Nat => s.heap.size ≤ q) cL_law "GuardedTreeLaw" 7 ret := ⟨hx, hb, hml, hown, fun w h => hts w (List.mem_filter.mp h).1, hK, fun _ h => h, hr, hlocks, hS, hN⟩
  have hl := lv_entry ([.ref b]) (n := 7) (Nat.le_of_ble_eq_true rfl)
  rw [lg_entry_eq]
  exact law_0 (e := e) (below := below) hL ⟨X, hT, hbl, hA0 b hbl, hst⟩ hX (fun _ h => h) s.heap [] _ (fun k q h => by simp at h) ⟨fun i j p q h => by simp at h, fun k q h => by simp at h⟩ va_S.rf hl
