theorem j_objInit {p : Program} {l : Launch} {e : Env} {R : Room} {s : State} {m : MethodId} {args : Array Value} {below : List Frame} {meth : Method} {c : Code} {D : va_G} {ct : Nat → ClassId} {L : List SXt} {ts : Nat → Nat} {A : Nat → Prop} {cc : ByteArray} {own : String} {nL : Nat} {rt : Option FieldType} {Q : State → Prop} {cells slots : Nat} {ws : va_W} {lv : List (Nat × Value)} {rest : List Value} {pc q a idx : Nat} (X : Cx p s m args meth c D ct L ts A cc own nL rt) (h1 : Cond.methodLink own idx Lib.objectInit ∈ tb) (h2 : Cond.instanceMethod Lib.objectInit ∈ tb) (h3 : Cond.code Lib.objectInit ⟨#[0xb1]⟩ 1 none ∈ tb) (hf : 1 ≤ R.frames) (hlo : (rest.map fun v => v.category).sum + 12 ≤ R.locals) (hd : decode cc pc = .ok (.invokespecial idx, 3)) (hq : pc + 3 = q) (k : J p l e R s m args below meth c D A nL Q cells slots ws lv rest q) : J p l e R s m args below meth c D A nL Q cells slots ws lv (.ref a :: rest) pc := by
  intro H locs ls hP hD hS hl
  subst hq
  exact W.objInit (g := F0 m pc ls (.ref a :: rest)) X.ex X.by X.ow (X.wd _ h1) (X.wd _ h2) (X.wd _ h3) rfl (hl.1.trans X.ml.symm) rfl hd hf (by show 2 * 0 + _ + 12 ≤ _; omega) (k H locs ls hP hD hS hl)
theorem mw_X4_init_0 : Cond.methodLink "GuardedTree$Digest" 1 Lib.objectInit ∈ tb := tb_at 153 (by decide +kernel) (by decide +kernel)
theorem mw_X4_init_1 : Cond.instanceMethod Lib.objectInit ∈ tb := tb_at 134 (by decide +kernel) (by decide +kernel)
theorem mw_X4_init_2 : Cond.code Lib.objectInit ⟨#[0xb1]⟩ 1 none ∈ tb := tb_at 135 (by decide +kernel) (by decide +kernel)
theorem mw_X4_init_3 : Cond.arrayClass .int ∈ tb := tb_at 172 (by decide +kernel) (by decide +kernel)
theorem mw_X4_init_4 : Cond.fieldLink "GuardedTree$Digest" 7 "GuardedTree$Digest" "state" "[I" ∈ tb := tb_at 154 (by decide +kernel) (by decide +kernel)
theorem mw_X4_init_5 : Cond.arrayClass .byte ∈ tb := tb_at 173 (by decide +kernel) (by decide +kernel)
theorem mw_X4_init_6 : Cond.fieldLink "GuardedTree$Digest" 13 "GuardedTree$Digest" "text" "[B" ∈ tb := tb_at 157 (by decide +kernel) (by decide +kernel)
theorem mw_X4_init_7 : Cond.fieldLink "GuardedTree$Digest" 17 "GuardedTree$Digest" "w" "[I" ∈ tb := tb_at 158 (by decide +kernel) (by decide +kernel)
theorem mw_X4_init_8 : Cond.fieldLink "GuardedTree$Digest" 20 "GuardedTree$Digest" "inner" "[I" ∈ tb := tb_at 159 (by decide +kernel) (by decide +kernel)
theorem dX4_init_0 : decode cX4_init 0 = .ok (.aload_n 0, 1) := by decide +kernel
theorem dX4_init_1 : decode cX4_init 1 = .ok (.invokespecial 1, 3) := by decide +kernel
theorem dX4_init_4 : decode cX4_init 4 = .ok (.aload_n 0, 1) := by decide +kernel
theorem dX4_init_5 : decode cX4_init 5 = .ok (.bipush 8, 2) := by decide +kernel
theorem dX4_init_7 : decode cX4_init 7 = .ok (.newarray .int, 2) := by decide +kernel
theorem dX4_init_9 : decode cX4_init 9 = .ok (.putfield 7, 3) := by decide +kernel
theorem dX4_init_12 : decode cX4_init 12 = .ok (.aload_n 0, 1) := by decide +kernel
theorem dX4_init_13 : decode cX4_init 13 = .ok (.sipush 256, 3) := by decide +kernel
theorem dX4_init_16 : decode cX4_init 16 = .ok (.newarray .byte, 2) := by decide +kernel
theorem dX4_init_18 : decode cX4_init 18 = .ok (.putfield 13, 3) := by decide +kernel
theorem dX4_init_21 : decode cX4_init 21 = .ok (.aload_n 0, 1) := by decide +kernel
theorem dX4_init_22 : decode cX4_init 22 = .ok (.bipush 64, 2) := by decide +kernel
theorem dX4_init_24 : decode cX4_init 24 = .ok (.newarray .int, 2) := by decide +kernel
theorem dX4_init_26 : decode cX4_init 26 = .ok (.putfield 17, 3) := by decide +kernel
theorem dX4_init_29 : decode cX4_init 29 = .ok (.aload_n 0, 1) := by decide +kernel
theorem dX4_init_30 : decode cX4_init 30 = .ok (.bipush 8, 2) := by decide +kernel
theorem dX4_init_32 : decode cX4_init 32 = .ok (.newarray .int, 2) := by decide +kernel
theorem dX4_init_34 : decode cX4_init 34 = .ok (.putfield 20, 3) := by decide +kernel
theorem dX4_init_37 : decode cX4_init 37 = .ok (.return_, 1) := by decide +kernel
noncomputable def f_X4_init  : (Nat) × (Nat → Int32) × (Nat → Int32) × (Nat → Int32) × (Nat → Int32) :=
  (0, fun _ => 0, fun _ => 0, fun _ => 0, fun _ => 0)
set_option maxHeartbeats 4000000 in
set_option maxRecDepth 100000 in
theorem c_X4_init (l : Launch) (D : va_G) (ct : Nat → ClassId) (ts : Nat → Nat) (a_this : Nat)   (sz : Nat) : Met l yX4_init (Cond.code yX4_init cX4_init 1 none :: tb) { frames := 1, cells := 4, slots := 336, locals := 20 } (PcG D ct SXL ts [.ref a_this] [(a_this, .inr (4, [.null, .null, .null, .null, .int (nI 0)]))] sz) (va_Qv (fun u : (Nat × Nat × Nat × Nat) × ((Nat) × (Nat → Int32) × (Nat → Int32) × (Nat → Int32) × (Nat → Int32)) => u.2 = f_X4_init ) (fun u => BG D ct (va_A [(a_this, .inr (4, [.null, .null, .null, .null, .int (nI 0)]))] sz) [(a_this, .inr (4, [.ref u.1.1, .ref u.1.2.1, .ref u.1.2.2.1, .ref u.1.2.2.2, .int (nI u.2.1)])), (u.1.1, .inl (ct 0, 8, .inl u.2.2.1)), (u.1.2.1, .inl (ct 1, 256, .inl u.2.2.2.1)), (u.1.2.2.1, .inl (ct 0, 64, .inl u.2.2.2.2.1)), (u.1.2.2.2, .inl (ct 0, 8, .inl u.2.2.2.2.2))]) (va_A [(a_this, .inr (4, [.null, .null, .null, .null, .int (nI 0)]))] sz)) 4 336 (va_A [(a_this, .inr (4, [.null, .null, .null, .null, .int (nI 0)]))] sz) := by
  refine metJ (QcF := fun A => va_Qv (fun u : (Nat × Nat × Nat × Nat) × ((Nat) × (Nat → Int32) × (Nat → Int32) × (Nat → Int32) × (Nat → Int32)) => u.2 = f_X4_init ) (fun u => BG D ct A [(a_this, .inr (4, [.ref u.1.1, .ref u.1.2.1, .ref u.1.2.2.1, .ref u.1.2.2.2, .int (nI u.2.1)])), (u.1.1, .inl (ct 0, 8, .inl u.2.2.1)), (u.1.2.1, .inl (ct 1, 256, .inl u.2.2.2.1)), (u.1.2.2.1, .inl (ct 0, 64, .inl u.2.2.2.2.1)), (u.1.2.2.2, .inl (ct 0, 8, .inl u.2.2.2.2.2))]) A) (by decide) (Nat.le_of_ble_eq_true rfl) ?_
  intro p e s m below meth c A X hnm
  obtain ⟨Q, hQ⟩ : ∃ Q, Q = MQ below (va_Qv (fun u : (Nat × Nat × Nat × Nat) × ((Nat) × (Nat → Int32) × (Nat → Int32) × (Nat → Int32) × (Nat → Int32)) => u.2 = f_X4_init ) (fun u => BG D ct A [(a_this, .inr (4, [.ref u.1.1, .ref u.1.2.1, .ref u.1.2.2.1, .ref u.1.2.2.2, .int (nI u.2.1)])), (u.1.1, .inl (ct 0, 8, .inl u.2.2.1)), (u.1.2.1, .inl (ct 1, 256, .inl u.2.2.2.1)), (u.1.2.2.1, .inl (ct 0, 64, .inl u.2.2.2.2.1)), (u.1.2.2.2, .inl (ct 0, 8, .inl u.2.2.2.2.2))]) A) [.ref a_this].toArray s 4 336 A := ⟨_, rfl⟩
  rw [← hQ]
  refine j_lve (lv' := [(0, .ref a_this)]) rfl ?_
  refine j_aload_n X 0 dX4_init_0 rfl (q := 1) rfl ?_
  refine j_objInit X mw_X4_init_0 mw_X4_init_1 mw_X4_init_2 (Nat.le_of_ble_eq_true rfl) (Nat.le_of_ble_eq_true rfl) dX4_init_1 (q := 4) rfl ?_
  refine j_aload_n X 0 dX4_init_4 rfl (q := 5) rfl ?_
  refine j_bipush (v := nI 8) X dX4_init_5 (by decide) (q := 7) rfl ?_
  refine j_newi (N := 8) X rfl mw_X4_init_3 (by decide) (by decide) (by decide) (by decide) (by decide) dX4_init_7 (q := 9) rfl (fun a1_7 => ?_)
  refine j_ws (ws2 := [(a_this, .inr (4, [.null, .null, .null, .null, .int (nI 0)])), (a1_7, .inl (ct 0, 8, .inl (fun _ => 0)))]) rfl ?_
  refine j_putF (f := 0) (ws2 := [(a_this, .inr (4, [.ref a1_7, .null, .null, .null, .int (nI 0)])), (a1_7, .inl (ct 0, 8, .inl (fun _ => 0)))]) (ty := .array .int) X 0 inT4 tyX4_ok nmX4 rfl rfl (by decide) mw_X4_init_4 rfl hnm rfl rfl rfl rfl (Nat.le_of_ble_eq_true rfl) dX4_init_9 rfl (q := 12) rfl ?_
  refine j_aload_n X 0 dX4_init_12 rfl (q := 13) rfl ?_
  refine j_sipush (v := nI 256) X dX4_init_13 (by decide) (q := 16) rfl ?_
  refine j_newb (N := 256) X rfl mw_X4_init_5 (by decide) (by decide) (by decide) (by decide) (by decide) dX4_init_16 (q := 18) rfl (fun a2_16 => ?_)
  refine j_ws (ws2 := [(a_this, .inr (4, [.ref a1_7, .null, .null, .null, .int (nI 0)])), (a1_7, .inl (ct 0, 8, .inl (fun _ => 0))), (a2_16, .inl (ct 1, 256, .inl (fun _ => 0)))]) rfl ?_
  refine j_putF (f := 1) (ws2 := [(a_this, .inr (4, [.ref a1_7, .ref a2_16, .null, .null, .int (nI 0)])), (a1_7, .inl (ct 0, 8, .inl (fun _ => 0))), (a2_16, .inl (ct 1, 256, .inl (fun _ => 0)))]) (ty := .array .byte) X 0 inT4 tyX4_ok nmX4 rfl rfl (by decide) mw_X4_init_6 rfl hnm rfl rfl rfl rfl (Nat.le_of_ble_eq_true rfl) dX4_init_18 rfl (q := 21) rfl ?_
  refine j_aload_n X 0 dX4_init_21 rfl (q := 22) rfl ?_
  refine j_bipush (v := nI 64) X dX4_init_22 (by decide) (q := 24) rfl ?_
  refine j_newi (N := 64) X rfl mw_X4_init_3 (by decide) (by decide) (by decide) (by decide) (by decide) dX4_init_24 (q := 26) rfl (fun a3_24 => ?_)
  refine j_ws (ws2 := [(a_this, .inr (4, [.ref a1_7, .ref a2_16, .null, .null, .int (nI 0)])), (a1_7, .inl (ct 0, 8, .inl (fun _ => 0))), (a2_16, .inl (ct 1, 256, .inl (fun _ => 0))), (a3_24, .inl (ct 0, 64, .inl (fun _ => 0)))]) rfl ?_
  refine j_putF (f := 2) (ws2 := [(a_this, .inr (4, [.ref a1_7, .ref a2_16, .ref a3_24, .null, .int (nI 0)])), (a1_7, .inl (ct 0, 8, .inl (fun _ => 0))), (a2_16, .inl (ct 1, 256, .inl (fun _ => 0))), (a3_24, .inl (ct 0, 64, .inl (fun _ => 0)))]) (ty := .array .int) X 0 inT4 tyX4_ok nmX4 rfl rfl (by decide) mw_X4_init_7 rfl hnm rfl rfl rfl rfl (Nat.le_of_ble_eq_true rfl) dX4_init_26 rfl (q := 29) rfl ?_
  refine j_aload_n X 0 dX4_init_29 rfl (q := 30) rfl ?_
  refine j_bipush (v := nI 8) X dX4_init_30 (by decide) (q := 32) rfl ?_
  refine j_newi (N := 8) X rfl mw_X4_init_3 (by decide) (by decide) (by decide) (by decide) (by decide) dX4_init_32 (q := 34) rfl (fun a4_32 => ?_)
  refine j_ws (ws2 := [(a_this, .inr (4, [.ref a1_7, .ref a2_16, .ref a3_24, .null, .int (nI 0)])), (a1_7, .inl (ct 0, 8, .inl (fun _ => 0))), (a2_16, .inl (ct 1, 256, .inl (fun _ => 0))), (a3_24, .inl (ct 0, 64, .inl (fun _ => 0))), (a4_32, .inl (ct 0, 8, .inl (fun _ => 0)))]) rfl ?_
  refine j_putF (f := 3) (ws2 := [(a_this, .inr (4, [.ref a1_7, .ref a2_16, .ref a3_24, .ref a4_32, .int (nI 0)])), (a1_7, .inl (ct 0, 8, .inl (fun _ => 0))), (a2_16, .inl (ct 1, 256, .inl (fun _ => 0))), (a3_24, .inl (ct 0, 64, .inl (fun _ => 0))), (a4_32, .inl (ct 0, 8, .inl (fun _ => 0)))]) (ty := .array .int) X 0 inT4 tyX4_ok nmX4 rfl rfl (by decide) mw_X4_init_8 rfl hnm rfl rfl rfl rfl (Nat.le_of_ble_eq_true rfl) dX4_init_34 rfl (q := 37) rfl ?_
  rw [hQ]
  exact j_vret X ((a1_7, a2_16, a3_24, a4_32), (0, fun _ => 0, fun _ => 0, fun _ => 0, fun _ => 0)) dX4_init_37 rfl rfl
theorem cal_X4_init : Cal yX4_init cX4_init 1 none 0 := ⟨tb_at 112 (by decide +kernel) (by decide +kernel), tb_at 152 (by decide +kernel) (by decide +kernel), by decide +kernel, by decide +kernel, by decide +kernel⟩
theorem cwi_X4_init : Cond.instanceMethod yX4_init ∈ tb := tb_at 151 (by decide +kernel) (by decide +kernel)
theorem mw_X2_init_0 : Cond.methodLink "GuardedTree$Cipher" 1 Lib.objectInit ∈ tb := tb_at 259 (by decide +kernel) (by decide +kernel)
theorem mw_X2_init_1 : Cond.instanceMethod Lib.objectInit ∈ tb := tb_at 134 (by decide +kernel) (by decide +kernel)
theorem mw_X2_init_2 : Cond.code Lib.objectInit ⟨#[0xb1]⟩ 1 none ∈ tb := tb_at 135 (by decide +kernel) (by decide +kernel)
theorem mw_X2_init_3 : Cond.arrayClass .int ∈ tb := tb_at 172 (by decide +kernel) (by decide +kernel)
theorem mw_X2_init_4 : Cond.fieldLink "GuardedTree$Cipher" 9 "GuardedTree$Cipher" "words" "[I" ∈ tb := tb_at 260 (by decide +kernel) (by decide +kernel)
theorem mw_X2_init_5 : Cond.fieldLink "GuardedTree$Cipher" 13 "GuardedTree$Cipher" "counter" "[I" ∈ tb := tb_at 261 (by decide +kernel) (by decide +kernel)
theorem mw_X2_init_6 : Cond.fieldLink "GuardedTree$Cipher" 16 "GuardedTree$Cipher" "block" "[I" ∈ tb := tb_at 262 (by decide +kernel) (by decide +kernel)
theorem mw_X2_init_7 : Cond.fieldLink "GuardedTree$Cipher" 19 "GuardedTree$Cipher" "former" "[I" ∈ tb := tb_at 263 (by decide +kernel) (by decide +kernel)
theorem dX2_init_0 : decode cX2_init 0 = .ok (.aload_n 0, 1) := by decide +kernel
theorem dX2_init_1 : decode cX2_init 1 = .ok (.invokespecial 1, 3) := by decide +kernel
theorem dX2_init_4 : decode cX2_init 4 = .ok (.aload_n 0, 1) := by decide +kernel
theorem dX2_init_5 : decode cX2_init 5 = .ok (.bipush 44, 2) := by decide +kernel
theorem dX2_init_7 : decode cX2_init 7 = .ok (.newarray .int, 2) := by decide +kernel
theorem dX2_init_9 : decode cX2_init 9 = .ok (.putfield 9, 3) := by decide +kernel
theorem dX2_init_12 : decode cX2_init 12 = .ok (.aload_n 0, 1) := by decide +kernel
theorem dX2_init_13 : decode cX2_init 13 = .ok (.iconst 4, 1) := by decide +kernel
theorem dX2_init_14 : decode cX2_init 14 = .ok (.newarray .int, 2) := by decide +kernel
theorem dX2_init_16 : decode cX2_init 16 = .ok (.putfield 13, 3) := by decide +kernel
theorem dX2_init_19 : decode cX2_init 19 = .ok (.aload_n 0, 1) := by decide +kernel
theorem dX2_init_20 : decode cX2_init 20 = .ok (.bipush 16, 2) := by decide +kernel
theorem dX2_init_22 : decode cX2_init 22 = .ok (.newarray .int, 2) := by decide +kernel
theorem dX2_init_24 : decode cX2_init 24 = .ok (.putfield 16, 3) := by decide +kernel
theorem dX2_init_27 : decode cX2_init 27 = .ok (.aload_n 0, 1) := by decide +kernel
theorem dX2_init_28 : decode cX2_init 28 = .ok (.bipush 16, 2) := by decide +kernel
theorem dX2_init_30 : decode cX2_init 30 = .ok (.newarray .int, 2) := by decide +kernel
theorem dX2_init_32 : decode cX2_init 32 = .ok (.putfield 19, 3) := by decide +kernel
theorem dX2_init_35 : decode cX2_init 35 = .ok (.return_, 1) := by decide +kernel
noncomputable def f_X2_init  : (Nat → Int32) × (Nat → Int32) × (Nat → Int32) × (Nat → Int32) :=
  (fun _ => 0, fun _ => 0, fun _ => 0, fun _ => 0)
set_option maxHeartbeats 4000000 in
set_option maxRecDepth 100000 in
theorem c_X2_init (l : Launch) (D : va_G) (ct : Nat → ClassId) (ts : Nat → Nat) (a_this : Nat)   (sz : Nat) : Met l yX2_init (Cond.code yX2_init cX2_init 1 none :: tb) { frames := 1, cells := 4, slots := 80, locals := 20 } (PcG D ct SXL ts [.ref a_this] [(a_this, .inr (2, [.null, .null, .null, .null]))] sz) (va_Qv (fun u : (Nat × Nat × Nat × Nat) × ((Nat → Int32) × (Nat → Int32) × (Nat → Int32) × (Nat → Int32)) => u.2 = f_X2_init ) (fun u => BG D ct (va_A [(a_this, .inr (2, [.null, .null, .null, .null]))] sz) [(a_this, .inr (2, [.ref u.1.1, .ref u.1.2.1, .ref u.1.2.2.1, .ref u.1.2.2.2])), (u.1.1, .inl (ct 0, 44, .inl u.2.1)), (u.1.2.1, .inl (ct 0, 4, .inl u.2.2.1)), (u.1.2.2.1, .inl (ct 0, 16, .inl u.2.2.2.1)), (u.1.2.2.2, .inl (ct 0, 16, .inl u.2.2.2.2))]) (va_A [(a_this, .inr (2, [.null, .null, .null, .null]))] sz)) 4 80 (va_A [(a_this, .inr (2, [.null, .null, .null, .null]))] sz) := by
  refine metJ (QcF := fun A => va_Qv (fun u : (Nat × Nat × Nat × Nat) × ((Nat → Int32) × (Nat → Int32) × (Nat → Int32) × (Nat → Int32)) => u.2 = f_X2_init ) (fun u => BG D ct A [(a_this, .inr (2, [.ref u.1.1, .ref u.1.2.1, .ref u.1.2.2.1, .ref u.1.2.2.2])), (u.1.1, .inl (ct 0, 44, .inl u.2.1)), (u.1.2.1, .inl (ct 0, 4, .inl u.2.2.1)), (u.1.2.2.1, .inl (ct 0, 16, .inl u.2.2.2.1)), (u.1.2.2.2, .inl (ct 0, 16, .inl u.2.2.2.2))]) A) (by decide) (Nat.le_of_ble_eq_true rfl) ?_
  intro p e s m below meth c A X hnm
  obtain ⟨Q, hQ⟩ : ∃ Q, Q = MQ below (va_Qv (fun u : (Nat × Nat × Nat × Nat) × ((Nat → Int32) × (Nat → Int32) × (Nat → Int32) × (Nat → Int32)) => u.2 = f_X2_init ) (fun u => BG D ct A [(a_this, .inr (2, [.ref u.1.1, .ref u.1.2.1, .ref u.1.2.2.1, .ref u.1.2.2.2])), (u.1.1, .inl (ct 0, 44, .inl u.2.1)), (u.1.2.1, .inl (ct 0, 4, .inl u.2.2.1)), (u.1.2.2.1, .inl (ct 0, 16, .inl u.2.2.2.1)), (u.1.2.2.2, .inl (ct 0, 16, .inl u.2.2.2.2))]) A) [.ref a_this].toArray s 4 80 A := ⟨_, rfl⟩
  rw [← hQ]
  refine j_lve (lv' := [(0, .ref a_this)]) rfl ?_
  refine j_aload_n X 0 dX2_init_0 rfl (q := 1) rfl ?_
  refine j_objInit X mw_X2_init_0 mw_X2_init_1 mw_X2_init_2 (Nat.le_of_ble_eq_true rfl) (Nat.le_of_ble_eq_true rfl) dX2_init_1 (q := 4) rfl ?_
  refine j_aload_n X 0 dX2_init_4 rfl (q := 5) rfl ?_
  refine j_bipush (v := nI 44) X dX2_init_5 (by decide) (q := 7) rfl ?_
  refine j_newi (N := 44) X rfl mw_X2_init_3 (by decide) (by decide) (by decide) (by decide) (by decide) dX2_init_7 (q := 9) rfl (fun a1_7 => ?_)
  refine j_ws (ws2 := [(a_this, .inr (2, [.null, .null, .null, .null])), (a1_7, .inl (ct 0, 44, .inl (fun _ => 0)))]) rfl ?_
  refine j_putF (f := 0) (ws2 := [(a_this, .inr (2, [.ref a1_7, .null, .null, .null])), (a1_7, .inl (ct 0, 44, .inl (fun _ => 0)))]) (ty := .array .int) X 0 inT2 tyX2_ok nmX2 rfl rfl (by decide) mw_X2_init_4 rfl hnm rfl rfl rfl rfl (Nat.le_of_ble_eq_true rfl) dX2_init_9 rfl (q := 12) rfl ?_
  refine j_aload_n X 0 dX2_init_12 rfl (q := 13) rfl ?_
  refine j_iconst (v := nI 4) X dX2_init_13 (by decide) (q := 14) rfl ?_
  refine j_newi (N := 4) X rfl mw_X2_init_3 (by decide) (by decide) (by decide) (by decide) (by decide) dX2_init_14 (q := 16) rfl (fun a2_14 => ?_)
  refine j_ws (ws2 := [(a_this, .inr (2, [.ref a1_7, .null, .null, .null])), (a1_7, .inl (ct 0, 44, .inl (fun _ => 0))), (a2_14, .inl (ct 0, 4, .inl (fun _ => 0)))]) rfl ?_
  refine j_putF (f := 1) (ws2 := [(a_this, .inr (2, [.ref a1_7, .ref a2_14, .null, .null])), (a1_7, .inl (ct 0, 44, .inl (fun _ => 0))), (a2_14, .inl (ct 0, 4, .inl (fun _ => 0)))]) (ty := .array .int) X 0 inT2 tyX2_ok nmX2 rfl rfl (by decide) mw_X2_init_5 rfl hnm rfl rfl rfl rfl (Nat.le_of_ble_eq_true rfl) dX2_init_16 rfl (q := 19) rfl ?_
  refine j_aload_n X 0 dX2_init_19 rfl (q := 20) rfl ?_
  refine j_bipush (v := nI 16) X dX2_init_20 (by decide) (q := 22) rfl ?_
  refine j_newi (N := 16) X rfl mw_X2_init_3 (by decide) (by decide) (by decide) (by decide) (by decide) dX2_init_22 (q := 24) rfl (fun a3_22 => ?_)
  refine j_ws (ws2 := [(a_this, .inr (2, [.ref a1_7, .ref a2_14, .null, .null])), (a1_7, .inl (ct 0, 44, .inl (fun _ => 0))), (a2_14, .inl (ct 0, 4, .inl (fun _ => 0))), (a3_22, .inl (ct 0, 16, .inl (fun _ => 0)))]) rfl ?_
  refine j_putF (f := 2) (ws2 := [(a_this, .inr (2, [.ref a1_7, .ref a2_14, .ref a3_22, .null])), (a1_7, .inl (ct 0, 44, .inl (fun _ => 0))), (a2_14, .inl (ct 0, 4, .inl (fun _ => 0))), (a3_22, .inl (ct 0, 16, .inl (fun _ => 0)))]) (ty := .array .int) X 0 inT2 tyX2_ok nmX2 rfl rfl (by decide) mw_X2_init_6 rfl hnm rfl rfl rfl rfl (Nat.le_of_ble_eq_true rfl) dX2_init_24 rfl (q := 27) rfl ?_
  refine j_aload_n X 0 dX2_init_27 rfl (q := 28) rfl ?_
  refine j_bipush (v := nI 16) X dX2_init_28 (by decide) (q := 30) rfl ?_
  refine j_newi (N := 16) X rfl mw_X2_init_3 (by decide) (by decide) (by decide) (by decide) (by decide) dX2_init_30 (q := 32) rfl (fun a4_30 => ?_)
  refine j_ws (ws2 := [(a_this, .inr (2, [.ref a1_7, .ref a2_14, .ref a3_22, .null])), (a1_7, .inl (ct 0, 44, .inl (fun _ => 0))), (a2_14, .inl (ct 0, 4, .inl (fun _ => 0))), (a3_22, .inl (ct 0, 16, .inl (fun _ => 0))), (a4_30, .inl (ct 0, 16, .inl (fun _ => 0)))]) rfl ?_
  refine j_putF (f := 3) (ws2 := [(a_this, .inr (2, [.ref a1_7, .ref a2_14, .ref a3_22, .ref a4_30])), (a1_7, .inl (ct 0, 44, .inl (fun _ => 0))), (a2_14, .inl (ct 0, 4, .inl (fun _ => 0))), (a3_22, .inl (ct 0, 16, .inl (fun _ => 0))), (a4_30, .inl (ct 0, 16, .inl (fun _ => 0)))]) (ty := .array .int) X 0 inT2 tyX2_ok nmX2 rfl rfl (by decide) mw_X2_init_7 rfl hnm rfl rfl rfl rfl (Nat.le_of_ble_eq_true rfl) dX2_init_32 rfl (q := 35) rfl ?_
  rw [hQ]
  exact j_vret X ((a1_7, a2_14, a3_22, a4_30), (fun _ => 0, fun _ => 0, fun _ => 0, fun _ => 0)) dX2_init_35 rfl rfl
theorem cal_X2_init : Cal yX2_init cX2_init 1 none 0 := ⟨tb_at 115 (by decide +kernel) (by decide +kernel), tb_at 258 (by decide +kernel) (by decide +kernel), by decide +kernel, by decide +kernel, by decide +kernel⟩
theorem cwi_X2_init : Cond.instanceMethod yX2_init ∈ tb := tb_at 257 (by decide +kernel) (by decide +kernel)
theorem mw_X6_init_0 : Cond.methodLink "GuardedTree$Line" 5 Lib.objectInit ∈ tb := tb_at 461 (by decide +kernel) (by decide +kernel)
theorem mw_X6_init_1 : Cond.instanceMethod Lib.objectInit ∈ tb := tb_at 134 (by decide +kernel) (by decide +kernel)
theorem mw_X6_init_2 : Cond.code Lib.objectInit ⟨#[0xb1]⟩ 1 none ∈ tb := tb_at 135 (by decide +kernel) (by decide +kernel)
theorem mw_X6_init_3 : Cond.arrayClass .byte ∈ tb := tb_at 173 (by decide +kernel) (by decide +kernel)
theorem mw_X6_init_4 : Cond.fieldLink "GuardedTree$Line" 11 "GuardedTree$Line" "bytes" "[B" ∈ tb := tb_at 462 (by decide +kernel) (by decide +kernel)
theorem dX6_init_0 : decode cX6_init 0 = .ok (.aload_n 0, 1) := by decide +kernel
theorem dX6_init_1 : decode cX6_init 1 = .ok (.invokespecial 5, 3) := by decide +kernel
theorem dX6_init_4 : decode cX6_init 4 = .ok (.aload_n 0, 1) := by decide +kernel
theorem dX6_init_5 : decode cX6_init 5 = .ok (.sipush 3160, 3) := by decide +kernel
theorem dX6_init_8 : decode cX6_init 8 = .ok (.newarray .byte, 2) := by decide +kernel
theorem dX6_init_10 : decode cX6_init 10 = .ok (.putfield 11, 3) := by decide +kernel
theorem dX6_init_13 : decode cX6_init 13 = .ok (.return_, 1) := by decide +kernel
noncomputable def f_X6_init  : (Nat) × (Nat → Int32) :=
  (0, fun _ => 0)
set_option maxHeartbeats 4000000 in
set_option maxRecDepth 100000 in
theorem c_X6_init (l : Launch) (D : va_G) (ct : Nat → ClassId) (ts : Nat → Nat) (a_this : Nat)   (sz : Nat) : Met l yX6_init (Cond.code yX6_init cX6_init 1 none :: tb) { frames := 1, cells := 1, slots := 3160, locals := 20 } (PcG D ct SXL ts [.ref a_this] [(a_this, .inr (6, [.null, .int (nI 0)]))] sz) (va_Qv (fun u : (Nat) × ((Nat) × (Nat → Int32)) => u.2 = f_X6_init ) (fun u => BG D ct (va_A [(a_this, .inr (6, [.null, .int (nI 0)]))] sz) [(a_this, .inr (6, [.ref u.1, .int (nI u.2.1)])), (u.1, .inl (ct 1, 3160, .inl u.2.2))]) (va_A [(a_this, .inr (6, [.null, .int (nI 0)]))] sz)) 1 3160 (va_A [(a_this, .inr (6, [.null, .int (nI 0)]))] sz) := by
  refine metJ (QcF := fun A => va_Qv (fun u : (Nat) × ((Nat) × (Nat → Int32)) => u.2 = f_X6_init ) (fun u => BG D ct A [(a_this, .inr (6, [.ref u.1, .int (nI u.2.1)])), (u.1, .inl (ct 1, 3160, .inl u.2.2))]) A) (by decide) (Nat.le_of_ble_eq_true rfl) ?_
  intro p e s m below meth c A X hnm
  obtain ⟨Q, hQ⟩ : ∃ Q, Q = MQ below (va_Qv (fun u : (Nat) × ((Nat) × (Nat → Int32)) => u.2 = f_X6_init ) (fun u => BG D ct A [(a_this, .inr (6, [.ref u.1, .int (nI u.2.1)])), (u.1, .inl (ct 1, 3160, .inl u.2.2))]) A) [.ref a_this].toArray s 1 3160 A := ⟨_, rfl⟩
  rw [← hQ]
  refine j_lve (lv' := [(0, .ref a_this)]) rfl ?_
  refine j_aload_n X 0 dX6_init_0 rfl (q := 1) rfl ?_
  refine j_objInit X mw_X6_init_0 mw_X6_init_1 mw_X6_init_2 (Nat.le_of_ble_eq_true rfl) (Nat.le_of_ble_eq_true rfl) dX6_init_1 (q := 4) rfl ?_
  refine j_aload_n X 0 dX6_init_4 rfl (q := 5) rfl ?_
  refine j_sipush (v := nI 3160) X dX6_init_5 (by decide) (q := 8) rfl ?_
  refine j_newb (N := 3160) X rfl mw_X6_init_3 (by decide) (by decide) (by decide) (by decide) (by decide) dX6_init_8 (q := 10) rfl (fun a1_8 => ?_)
  refine j_ws (ws2 := [(a_this, .inr (6, [.null, .int (nI 0)])), (a1_8, .inl (ct 1, 3160, .inl (fun _ => 0)))]) rfl ?_
  refine j_putF (f := 0) (ws2 := [(a_this, .inr (6, [.ref a1_8, .int (nI 0)])), (a1_8, .inl (ct 1, 3160, .inl (fun _ => 0)))]) (ty := .array .byte) X 0 inT6 tyX6_ok nmX6 rfl rfl (by decide) mw_X6_init_4 rfl hnm rfl rfl rfl rfl (Nat.le_of_ble_eq_true rfl) dX6_init_10 rfl (q := 13) rfl ?_
  rw [hQ]
  exact j_vret X (a1_8, (0, fun _ => 0)) dX6_init_13 rfl rfl
theorem cal_X6_init : Cal yX6_init cX6_init 1 none 0 := ⟨tb_at 119 (by decide +kernel) (by decide +kernel), tb_at 460 (by decide +kernel) (by decide +kernel), by decide +kernel, by decide +kernel, by decide +kernel⟩
theorem cwi_X6_init : Cond.instanceMethod yX6_init ∈ tb := tb_at 459 (by decide +kernel) (by decide +kernel)
theorem mw_X5_init_0 : Cond.methodLink "GuardedTree$Disk" 1 Lib.objectInit ∈ tb := tb_at 390 (by decide +kernel) (by decide +kernel)
theorem mw_X5_init_1 : Cond.instanceMethod Lib.objectInit ∈ tb := tb_at 134 (by decide +kernel) (by decide +kernel)
theorem mw_X5_init_2 : Cond.code Lib.objectInit ⟨#[0xb1]⟩ 1 none ∈ tb := tb_at 135 (by decide +kernel) (by decide +kernel)
theorem mw_X5_init_3 : Cond.fieldLink "GuardedTree$Disk" 7 "GuardedTree$Disk" "power" "Z" ∈ tb := tb_at 391 (by decide +kernel) (by decide +kernel)
theorem mw_X5_init_4 : Cond.fieldLink "GuardedTree$Disk" 13 "GuardedTree$Disk" "blocksLeft" "I" ∈ tb := tb_at 393 (by decide +kernel) (by decide +kernel)
theorem dX5_init_0 : decode cX5_init 0 = .ok (.aload_n 0, 1) := by decide +kernel
theorem dX5_init_1 : decode cX5_init 1 = .ok (.invokespecial 1, 3) := by decide +kernel
theorem dX5_init_4 : decode cX5_init 4 = .ok (.aload_n 0, 1) := by decide +kernel
theorem dX5_init_5 : decode cX5_init 5 = .ok (.iconst 1, 1) := by decide +kernel
theorem dX5_init_6 : decode cX5_init 6 = .ok (.putfield 7, 3) := by decide +kernel
theorem dX5_init_9 : decode cX5_init 9 = .ok (.aload_n 0, 1) := by decide +kernel
theorem dX5_init_10 : decode cX5_init 10 = .ok (.iconst (-1), 1) := by decide +kernel
theorem dX5_init_11 : decode cX5_init 11 = .ok (.putfield 13, 3) := by decide +kernel
theorem dX5_init_14 : decode cX5_init 14 = .ok (.return_, 1) := by decide +kernel
noncomputable def f_X5_init  : (Int32) × (Int32) × (Int32) × (Int32) :=
  let y1 := (-1)
  (nI 1, y1, 0, 0)
set_option maxHeartbeats 4000000 in
set_option maxRecDepth 100000 in
theorem c_X5_init (l : Launch) (D : va_G) (ct : Nat → ClassId) (ts : Nat → Nat) (a_this : Nat)   (sz : Nat) : Met l yX5_init (Cond.code yX5_init cX5_init 1 none :: tb) { frames := 1, cells := 0, slots := 0, locals := 20 } (PcG D ct SXL ts [.ref a_this] [(a_this, .inr (5, [.int 0, .int 0, .int 0, .int 0]))] sz) (va_Qv (fun u : (Unit) × ((Int32) × (Int32) × (Int32) × (Int32)) => u.2 = f_X5_init ) (fun u => BG D ct (va_A [(a_this, .inr (5, [.int 0, .int 0, .int 0, .int 0]))] sz) [(a_this, .inr (5, [.int u.2.1, .int u.2.2.1, .int u.2.2.2.1, .int u.2.2.2.2]))]) (va_A [(a_this, .inr (5, [.int 0, .int 0, .int 0, .int 0]))] sz)) 0 0 (va_A [(a_this, .inr (5, [.int 0, .int 0, .int 0, .int 0]))] sz) := by
  refine metJ (QcF := fun A => va_Qv (fun u : (Unit) × ((Int32) × (Int32) × (Int32) × (Int32)) => u.2 = f_X5_init ) (fun u => BG D ct A [(a_this, .inr (5, [.int u.2.1, .int u.2.2.1, .int u.2.2.2.1, .int u.2.2.2.2]))]) A) (by decide) (Nat.le_of_ble_eq_true rfl) ?_
  intro p e s m below meth c A X hnm
  obtain ⟨Q, hQ⟩ : ∃ Q, Q = MQ below (va_Qv (fun u : (Unit) × ((Int32) × (Int32) × (Int32) × (Int32)) => u.2 = f_X5_init ) (fun u => BG D ct A [(a_this, .inr (5, [.int u.2.1, .int u.2.2.1, .int u.2.2.2.1, .int u.2.2.2.2]))]) A) [.ref a_this].toArray s 0 0 A := ⟨_, rfl⟩
  rw [← hQ]
  refine j_lve (lv' := [(0, .ref a_this)]) rfl ?_
  refine j_aload_n X 0 dX5_init_0 rfl (q := 1) rfl ?_
  refine j_objInit X mw_X5_init_0 mw_X5_init_1 mw_X5_init_2 (Nat.le_of_ble_eq_true rfl) (Nat.le_of_ble_eq_true rfl) dX5_init_1 (q := 4) rfl ?_
  refine j_aload_n X 0 dX5_init_4 rfl (q := 5) rfl ?_
  refine j_iconst (v := nI 1) X dX5_init_5 (by decide) (q := 6) rfl ?_
  refine j_put (f := 0) (ws2 := [(a_this, .inr (5, [.int (nI 1), .int 0, .int 0, .int 0]))]) (ty := .boolean) X 0 inT5 tyX5_ok nmX5 rfl rfl (by decide) mw_X5_init_3 rfl rfl (by decide) (by decide) (Nat.le_of_ble_eq_true rfl) dX5_init_6 rfl (q := 9) rfl ?_
  refine j_aload_n X 0 dX5_init_9 rfl (q := 10) rfl ?_
  refine j_iconst (v := -1) X dX5_init_10 (by decide) (q := 11) rfl ?_
  refine j_topi (fun y1 e_y1 => ?_)
  refine j_put (f := 1) (ws2 := [(a_this, .inr (5, [.int (nI 1), .int y1, .int 0, .int 0]))]) (ty := .int) X 0 inT5 tyX5_ok nmX5 rfl rfl (by decide) mw_X5_init_4 rfl rfl rfl rfl (Nat.le_of_ble_eq_true rfl) dX5_init_11 rfl (q := 14) rfl ?_
  rw [hQ]
  exact j_vret X ((), (nI 1, y1, 0, 0)) dX5_init_14 (by subst e_y1; rfl) rfl
theorem cal_X5_init : Cal yX5_init cX5_init 1 none 0 := ⟨tb_at 118 (by decide +kernel) (by decide +kernel), tb_at 389 (by decide +kernel) (by decide +kernel), by decide +kernel, by decide +kernel, by decide +kernel⟩
theorem cwi_X5_init : Cond.instanceMethod yX5_init ∈ tb := tb_at 388 (by decide +kernel) (by decide +kernel)


