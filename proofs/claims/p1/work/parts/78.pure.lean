/-! ===== what the reference answers at its beginning ===== -/
theorem two_or {x : Int32} (h0 : ¬ x = nI 0) (h1 : ¬ x = nI 1) : x < 0 ∨ ¬ x ≤ nI 1 := by
  by_cases h : x < 0
  · exact Or.inl h
  · refine Or.inr (fun q => ?_)
    have hz : (0 : Int32).toInt = 0 := rfl
    rw [Int32.lt_iff_toInt_lt, hz] at h
    rw [Int32.le_iff_toInt_le, nI_toInt (by decide)] at q
    have e : x = nI x.toInt.toNat := by
      apply Int32.toInt_inj.mp
      rw [nI_toInt (by omega)]
      omega
    rcases (show x.toInt.toNat = 0 ∨ x.toInt.toNat = 1 by omega) with q0 | q1
    · exact h0 (by rw [e, q0])
    · exact h1 (by rw [e, q1])
theorem lgc {x : Int64} : lg_cmp x x = 0 := by
  unfold lg_cmp
  simp
theorem mw_b {f : Nat → Int32} {x : Int32} (h : x < 0 ∨ ¬ x ≤ nI 1) : f_X12_way f x = (nI 0, nI 1) := by
  unfold f_X12_way
  by_cases h0 : x < 0
  · rw [if_pos h0]
  · rw [if_neg h0, if_neg (h.resolve_left h0)]
theorem mc_b {v : Int32} {f g : Nat → Int32} {x : Int32} (h : x < 0 ∨ ¬ x ≤ nI 1) : f_X12_credit v f g x = (nI 0, nI 1) := by
  unfold f_X12_credit
  by_cases h0 : x < 0
  · rw [if_pos h0]
  · rw [if_neg h0, if_neg (h.resolve_left h0)]
theorem mm_b {x : Int32} (h : x < 0 ∨ ¬ x ≤ nI 1) : X12_move_m2 x = nI 1 := by
  unfold X12_move_m2
  by_cases h0 : x < 0
  · rw [if_pos h0]
  · rw [if_neg h0, if_neg (h.resolve_left h0)]
theorem mv_b {f g : Nat → Int32} {x y : Int32} (h : x < 0 ∨ ¬ x ≤ nI 1) : f_X12_move f g x y = (nI 0, nI 1, g, f) := by
  unfold f_X12_move
  rw [mm_b h]
  rfl
theorem mv_k {g : Nat → Int32} {x y : Int32} (hx : vp_in x 2) (h : X12_move_m2 x = nI 0) : (f_X12_move (fun _ => 0) g x y).1 = nI 0 ∧ (f_X12_move (fun _ => 0) g x y).2.1 = nI 0 := by
  have e := mv_many (f := fun _ => 0) (y := y) (fun _ _ => rfl) hx
  unfold f_X12_move
  rw [h]
  exact ⟨e, rfl⟩
theorem mo_m {x y : Int32} : X12_isNoOctet_m2 x y (fun _ => 0) = nI 1 := by
  unfold X12_isNoOctet_m2
  by_cases h1 : x < 0
  · rw [if_pos h1]
  · by_cases h2 : nI 1 < x
    · rw [if_neg h1, if_pos h2]
    · by_cases h3 : y < 0
      · rw [if_neg h1, if_neg h2, if_pos h3]
      · rw [if_neg h1, if_neg h2, if_neg h3, if_neg h3]
theorem mo_n {x y : Int32} : f_X12_isNoOctet (fun _ => 0) x y = (nI 1, nI 1) := by
  unfold f_X12_isNoOctet
  rw [mo_m]
  rfl
theorem mo_o {f : Nat → Int32} {x y : Int32} : f_X12_octet (fun _ => 0) f x y = (nI 0, nI 1) := by
  unfold f_X12_octet
  rw [mo_n]
  rfl
theorem mo_a {f : Nat → Int32} {x y z : Int32} : f_X12_alter (fun _ => 0) f x y z = (nI 1, f) := by
  unfold f_X12_alter
  rw [mo_n]
  rfl
theorem ma_b {x y : Int32} (h : x < 0 ∨ ¬ x ≤ nI 9) : f_X12_ask x y = (nI 0, nI 1) := by
  have e : X12_ask_m2 x = nI 1 := by
    unfold X12_ask_m2
    by_cases h0 : x < 0
    · rw [if_pos h0]
    · rw [if_neg h0, if_neg (h.resolve_left h0)]
  unfold f_X12_ask
  rw [e]
  rfl
theorem ma_k {x y : Int32} (h1 : ¬ x < 0) (h2 : x ≤ nI 9) : f_X12_ask x y = ((-1), nI 0) := by
  have e : X12_ask_m2 x = nI 0 := by
    unfold X12_ask_m2
    rw [if_neg h1, if_pos h2]
  unfold f_X12_ask
  rw [e]
  rfl
theorem xa_k {n : Nat} {x y : Int32} : f_X11_ask n x y = (-1) := by
  unfold f_X11_ask
  split <;> rfl
theorem ms_k {n : Nat} {f : Nat → Int32} {x : Int32} (hn : n = 0) : (f_X12_status n f x).1 = (-102) := by
  unfold f_X12_status
  by_cases h1 : x < nI 1
  · rw [if_pos h1]
  · rw [if_neg h1]
    by_cases h2 : x ≤ nI n
    · exact (fr_ids hn h1 h2).elim
    · rw [if_neg h2]
theorem cut_k {x y : Int32} : (f_X11_cut (nI 1) (-1) x y).1 = (f_X12_cut (nI 1) (-1) x y).1 := by
  unfold f_X11_cut f_X12_cut
  have hp : ¬ (nI 1 = 0) := by decide
  rw [if_neg hp, if_neg hp]
  by_cases h1 : x < (-1)
  · rw [if_pos h1, if_pos h1]
  · rw [if_neg h1, if_neg h1]
    by_cases h2 : nI 1000 < x
    · rw [if_pos h2, if_pos h2]
    · rw [if_neg h2, if_neg h2]
      by_cases h3 : y < 0
      · rw [if_pos h3, if_pos h3]
      · rw [if_neg h3, if_neg h3]
        by_cases h4 : y ≤ nI 31
        · rw [if_pos h4, if_pos h4]
        · rw [if_neg h4, if_neg h4]
theorem gP_7 (s : (Nat → Int32) × (Nat → Int32)) : ¬ (itr X12_init_l974 s 8).2 7 = 0 := by
  rw [itr_s]
  show ¬ upd (itr X12_init_l974 s 7).2 7 (X12_init_m988 7) 7 = 0
  rw [pk_us]
  decide

