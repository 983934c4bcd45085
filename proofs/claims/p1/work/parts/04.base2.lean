def sh32 (x : Int32) (k : Nat) : Int32 := x <<< (nI k &&& 31)
def sr32 (x : Int32) (k : Nat) : Int32 := x >>> (nI k &&& 31)
def ur32 (x : Int32) (k : Nat) : Int32 := (x.toUInt32 >>> ((nI k).toUInt32 &&& Int32.toUInt32 31)).toInt32
def b8 (x : Int32) : Int32 := x.toInt8.toInt32
def dn (r : Nat) : Int32 := nI r - 1
theorem dn_s (r : Nat) : dn (r + 1) = nI r := nI_pred r
theorem dn_of {a r : Nat} (h : a + 1 = r) : nI a = dn r := by subst h; exact (dn_s a).symm
theorem nI_inc (k n : Nat) : nI k + Int32.ofInt (n : Int) = nI (k + n) := nI_add k n
theorem nI_dec {k n : Nat} (h : n ≤ k) : nI k + Int32.ofInt (-(n : Int)) = nI (k - n) := by
  have e : Int32.ofInt (-(n : Int)) = - nI n := by rw [Int32.ofInt_neg]; rfl
  rw [e, ← Int32.sub_eq_add_neg, pk_sub h]
theorem dn_dec (r : Nat) : nI r + Int32.ofInt (-1) = dn r := by
  have e : Int32.ofInt (-1) = - (1 : Int32) := by decide
  rw [e, ← Int32.sub_eq_add_neg]; rfl
theorem dn_lt0 : dn 0 < 0 := by decide
theorem vp_ix {x : Int32} {n : Nat} (h0 : ¬ x < 0) (h : ¬ nI n ≤ x) (hn : n < 2 ^ 31) : vp_in x n := by
  rw [vp_in_iff]
  rw [Int32.lt_iff_toInt_lt] at h0
  rw [Int32.le_iff_toInt_le, nI_toInt hn] at h
  have e : (0 : Int32).toInt = 0 := rfl
  omega
theorem nI_un (x : Int32) : x = nI x.toBitVec.toNat := by
  apply Int32.toBitVec_inj.mp
  simp [nI]
theorem vp_ur24 (x : Int32) : vp_in (ur32 x 24) 256 := by
  have hx := x.toBitVec.isLt
  rw [nI_un x]
  unfold ur32
  rw [pk_ushrN hx (nI 24) 24 rfl]
  exact vp_in_nI (by omega) (by decide)
/-- a counted loop: its state before round k; by choice, so that nothing unfolds it by itself -/
theorem itr_ex {σ : Type} (f : Nat → σ → σ) (s : σ) : ∃ g : Nat → σ, g 0 = s ∧ ∀ n, g (n + 1) = f n (g n) := ⟨fun n => Nat.rec s f n, rfl, fun _ => rfl⟩
noncomputable def itr {σ : Type} (f : Nat → σ → σ) (s : σ) : Nat → σ := Classical.choose (itr_ex f s)
theorem itr_0 {σ : Type} (f : Nat → σ → σ) (s : σ) : itr f s 0 = s := (Classical.choose_spec (itr_ex f s)).1
theorem itr_s {σ : Type} (f : Nat → σ → σ) (s : σ) (n : Nat) : itr f s (n + 1) = f n (itr f s n) := (Classical.choose_spec (itr_ex f s)).2 n
theorem itr_inv {σ : Type} {f : Nat → σ → σ} {s : σ} (P : Nat → σ → Prop) (N : Nat) (h0 : P 0 s) (hs : ∀ k t, k < N → P k t → P (k + 1) (f k t)) : ∀ n, n ≤ N → P n (itr f s n)
  | 0, _ => by rw [itr_0]; exact h0
  | n + 1, h => by rw [itr_s]; exact hs n _ (by omega) (itr_inv P N h0 hs n (by omega))
/-- the same, to be reckoned -/
def itrC {σ : Type} (f : Nat → σ → σ) (s : σ) : Nat → σ
  | 0 => s
  | n + 1 => f n (itrC f s n)
theorem itr_C {σ : Type} (f : Nat → σ → σ) (s : σ) : ∀ n, itr f s n = itrC f s n
  | 0 => itr_0 f s
  | n + 1 => by rw [itr_s, itr_C f s n]; rfl
/-- downwards: what is left to do with r rounds left -/
def itdC {σ : Type} (f : Nat → σ → σ) : Nat → σ → σ
  | 0, s => s
  | r + 1, s => itdC f r (f r s)
theorem itd_ex {σ : Type} (f : Nat → σ → σ) : ∃ g : Nat → σ → σ, (∀ s, g 0 s = s) ∧ (∀ r s, g (r + 1) s = g r (f r s)) ∧ ∀ r s, g r s = itdC f r s := ⟨itdC f, fun _ => rfl, fun _ _ => rfl, fun _ _ => rfl⟩
noncomputable def itd {σ : Type} (f : Nat → σ → σ) : Nat → σ → σ := Classical.choose (itd_ex f)
theorem itd_0 {σ : Type} (f : Nat → σ → σ) (s : σ) : itd f 0 s = s := (Classical.choose_spec (itd_ex f)).1 s
theorem itd_s {σ : Type} (f : Nat → σ → σ) (s : σ) (r : Nat) : itd f (r + 1) s = itd f r (f r s) := (Classical.choose_spec (itd_ex f)).2.1 r s
theorem itd_C {σ : Type} (f : Nat → σ → σ) (r : Nat) (s : σ) : itd f r s = itdC f r s := (Classical.choose_spec (itd_ex f)).2.2 r s
/-- a counted loop that may leave: n rounds left, at round k -/
def itxC {σ ρ : Type} (f : Nat → σ → σ ⊕ ρ) : Nat → Nat → σ → σ ⊕ ρ
  | 0, _, s => .inl s
  | n + 1, k, s => match f k s with
    | .inl t => itxC f n (k + 1) t
    | .inr r => .inr r
theorem itx_ex {σ ρ : Type} (f : Nat → σ → σ ⊕ ρ) : ∃ g : Nat → Nat → σ → σ ⊕ ρ, ∀ n k s, g n k s = itxC f n k s := ⟨itxC f, fun _ _ _ => rfl⟩
noncomputable def itx {σ ρ : Type} (f : Nat → σ → σ ⊕ ρ) : Nat → Nat → σ → σ ⊕ ρ := Classical.choose (itx_ex f)
theorem itx_C {σ ρ : Type} (f : Nat → σ → σ ⊕ ρ) (n k : Nat) (s : σ) : itx f n k s = itxC f n k s := Classical.choose_spec (itx_ex f) n k s
theorem itx_0 {σ ρ : Type} (f : Nat → σ → σ ⊕ ρ) (k : Nat) (s : σ) : itx f 0 k s = .inl s := itx_C f 0 k s
theorem itx_in {σ ρ : Type} {f : Nat → σ → σ ⊕ ρ} {n k : Nat} {s t : σ} (h : f k s = .inl t) : itx f (n + 1) k s = itx f n (k + 1) t := by
  rw [itx_C, itx_C, itxC, h]
theorem itx_out {σ ρ : Type} {f : Nat → σ → σ ⊕ ρ} {n k : Nat} {s : σ} {r : ρ} (h : f k s = .inr r) : itx f (n + 1) k s = .inr r := by
  rw [itx_C, itxC, h]
/-- the same, downwards -/
def itxdC {σ ρ : Type} (f : Nat → σ → σ ⊕ ρ) : Nat → σ → σ ⊕ ρ
  | 0, s => .inl s
  | r + 1, s => match f r s with
    | .inl t => itxdC f r t
    | .inr x => .inr x
theorem itxd_ex {σ ρ : Type} (f : Nat → σ → σ ⊕ ρ) : ∃ g : Nat → σ → σ ⊕ ρ, ∀ r s, g r s = itxdC f r s := ⟨itxdC f, fun _ _ => rfl⟩
noncomputable def itxd {σ ρ : Type} (f : Nat → σ → σ ⊕ ρ) : Nat → σ → σ ⊕ ρ := Classical.choose (itxd_ex f)
theorem itxd_C {σ ρ : Type} (f : Nat → σ → σ ⊕ ρ) (r : Nat) (s : σ) : itxd f r s = itxdC f r s := Classical.choose_spec (itxd_ex f) r s
theorem itxd_0 {σ ρ : Type} (f : Nat → σ → σ ⊕ ρ) (s : σ) : itxd f 0 s = .inl s := itxd_C f 0 s
theorem itxd_in {σ ρ : Type} {f : Nat → σ → σ ⊕ ρ} {r : Nat} {s t : σ} (h : f r s = .inl t) : itxd f (r + 1) s = itxd f r t := by
  rw [itxd_C, itxd_C, itxdC, h]
theorem itxd_out {σ ρ : Type} {f : Nat → σ → σ ⊕ ρ} {r : Nat} {s : σ} {x : ρ} (h : f r s = .inr x) : itxd f (r + 1) s = .inr x := by
  rw [itxd_C, itxdC, h]
def mrg {σ : Type} : σ ⊕ σ → σ
  | .inl s => s
  | .inr s => s
-- the static tables of the class, as the source writes them
def tab_Agreement_P : List Int32 := [-1, -1, -1, -1, -1, -1, -1, -189]
def tab_Agreement_P_LESS_1 : List Int32 := [-1, -1, -1, -1, -1, -1, -1, -190]
def tab_Agreement_G : List Int32 := [0, 0, 0, 0, 0, 0, 0, 2]
def tab_Agreement_N : List Int32 := [-31595, -1135079351, -305391366, 1134186833, 591163084, -1333737638, 1327269617, -930110175]
def tab_Agreement_E : List Int32 := [0, 0, 0, 0, 0, 0, 0, 65537]
def tab_Agreement_D : List Int32 := [630966338, -1489708849, -1013210017, -1075396637, 1013844618, -1606677752, -519717913, -620644031]
def tab_Agreement_SQUARE_P : List Int32 := [0, 0, 0, 0, 0, 0, 0, 35721]
def tab_Agreement_SQUARE_N : List Int32 := [-1381683518, 925092604, 281156345, 259439405, 863757617, 1217119676, 1188954580, 1582891063]
def tab_Modulus_ONE : List Int32 := [0, 0, 0, 0, 0, 0, 0, 1]
def tab_Cipher_S : List Int32 := [99, 124, 119, 123, 242, 107, 111, 197, 48, 1, 103, 43, 254, 215, 171, 118, 202, 130, 201, 125, 250, 89, 71, 240, 173, 212, 162, 175, 156, 164, 114, 192, 183, 253, 147, 38, 54, 63, 247, 204, 52, 165, 229, 241, 113, 216, 49, 21, 4, 199, 35, 195, 24, 150, 5, 154, 7, 18, 128, 226, 235, 39, 178, 117, 9, 131, 44, 26, 27, 110, 90, 160, 82, 59, 214, 179, 41, 227, 47, 132, 83, 209, 0, 237, 32, 252, 177, 91, 106, 203, 190, 57, 74, 76, 88, 207, 208, 239, 170, 251, 67, 77, 51, 133, 69, 249, 2, 127, 80, 60, 159, 168, 81, 163, 64, 143, 146, 157, 56, 245, 188, 182, 218, 33, 16, 255, 243, 210, 205, 12, 19, 236, 95, 151, 68, 23, 196, 167, 126, 61, 100, 93, 25, 115, 96, 129, 79, 220, 34, 42, 144, 136, 70, 238, 184, 20, 222, 94, 11, 219, 224, 50, 58, 10, 73, 6, 36, 92, 194, 211, 172, 98, 145, 149, 228, 121, 231, 200, 55, 109, 141, 213, 78, 169, 108, 86, 244, 234, 101, 122, 174, 8, 186, 120, 37, 46, 28, 166, 180, 198, 232, 221, 116, 31, 75, 189, 139, 138, 112, 62, 181, 102, 72, 3, 246, 14, 97, 53, 87, 185, 134, 193, 29, 158, 225, 248, 152, 17, 105, 217, 142, 148, 155, 30, 135, 233, 206, 85, 40, 223, 140, 161, 137, 13, 191, 230, 66, 104, 65, 153, 45, 15, 176, 84, 187, 22]
def tab_Digest_FIRST : List Int32 := [1779033703, -1150833019, 1013904242, -1521486534, 1359893119, -1694144372, 528734635, 1541459225]
def tab_Digest_K : List Int32 := [1116352408, 1899447441, -1245643825, -373957723, 961987163, 1508970993, -1841331548, -1424204075, -670586216, 310598401, 607225278, 1426881987, 1925078388, -2132889090, -1680079193, -1046744716, -459576895, -272742522, 264347078, 604807628, 770255983, 1249150122, 1555081692, 1996064986, -1740746414, -1473132947, -1341970488, -1084653625, -958395405, -710438585, 113926993, 338241895, 666307205, 773529912, 1294757372, 1396182291, 1695183700, 1986661051, -2117940946, -1838011259, -1564481375, -1474664885, -1035236496, -949202525, -778901479, -694614492, -200395387, 275423344, 430227734, 506948616, 659060556, 883997877, 958139571, 1322822218, 1537002063, 1747873779, 1955562222, 2024104815, -2067236844, -1933114872, -1866530822, -1538233109, -1090935817, -965641998]
def SXL : List SXt := [("GuardedTree$Agreement", "P", 8, tab_Agreement_P), ("GuardedTree$Agreement", "P_LESS_1", 8, tab_Agreement_P_LESS_1), ("GuardedTree$Agreement", "G", 8, tab_Agreement_G), ("GuardedTree$Agreement", "N", 8, tab_Agreement_N), ("GuardedTree$Agreement", "E", 8, tab_Agreement_E), ("GuardedTree$Agreement", "D", 8, tab_Agreement_D), ("GuardedTree$Agreement", "SQUARE_P", 8, tab_Agreement_SQUARE_P), ("GuardedTree$Agreement", "SQUARE_N", 8, tab_Agreement_SQUARE_N), ("GuardedTree$Modulus", "ONE", 8, tab_Modulus_ONE), ("GuardedTree$Cipher", "S", 256, tab_Cipher_S), ("GuardedTree$Digest", "FIRST", 8, tab_Digest_FIRST), ("GuardedTree$Digest", "K", 64, tab_Digest_K)]
section JROWS2
variable {p : Program} {l : Launch} {e : Env} {R : Room} {s : State} {m : MethodId} {args : Array Value} {below : List Frame} {meth : Method} {c : Code} {D : va_G} {ct : Nat → ClassId} {L : List SXt} {ts : Nat → Nat} {A : Nat → Prop} {cc : ByteArray} {own : String} {nL : Nat} {rt : Option FieldType} {Q : State → Prop} {cells slots : Nat} {ws : va_W} {lv lv' : List (Nat × Value)} {rest : List Value} {pc q : Nat}
theorem k_iald (X : Cx p s m args meth c D ct L ts A cc own nL rt) (z : Nat) {a n j : Nat} {f : Nat → Int32} {i : Int32} (hz : ws[z]? = some (a, .inl (ct 0, n, .inl f))) (hin : vp_in i n) (hj : i.toNatClampNeg = j) (hd : decode cc pc = .ok (.iaload, 1)) (hq : pc + 1 = q) (k : J p l e R s m args below meth c D A nL Q cells slots ws lv (.int (f j) :: rest) q) : J p l e R s m args below meth c D A nL Q cells slots ws lv (.int i :: .ref a :: rest) pc := by
  subst hj
  exact j_iald X z hz hin hd hq k
theorem k_iast (X : Cx p s m args meth c D ct L ts A cc own nL rt) (z : Nat) {a n j : Nat} {f : Nat → Int32} {i x : Int32} {ws2 : va_W} (hz : ws[z]? = some (a, .inl (ct 0, n, .inl f))) (hin : vp_in i n) (hj : i.toNatClampNeg = j) (hd : decode cc pc = .ok (.iastore, 1)) (hws : ws.set z (a, .inl (ct 0, n, .inl (upd f j x))) = ws2) (hq : pc + 1 = q) (k : J p l e R s m args below meth c D A nL Q cells slots ws2 lv rest q) : J p l e R s m args below meth c D A nL Q cells slots ws lv (.int x :: .int i :: .ref a :: rest) pc := by
  subst hj
  exact j_iast X z hz hin hd hws hq k
theorem k_bald (X : Cx p s m args meth c D ct L ts A cc own nL rt) (z : Nat) {a n j : Nat} {f : Nat → Int32} {i : Int32} (hz : ws[z]? = some (a, .inl (ct 1, n, .inl f))) (hin : vp_in i n) (hj : i.toNatClampNeg = j) (hd : decode cc pc = .ok (.baload, 1)) (hq : pc + 1 = q) (k : J p l e R s m args below meth c D A nL Q cells slots ws lv (.int (f j) :: rest) q) : J p l e R s m args below meth c D A nL Q cells slots ws lv (.int i :: .ref a :: rest) pc := by
  subst hj
  exact j_bald X z hz hin hd hq k
theorem k_bast (X : Cx p s m args meth c D ct L ts A cc own nL rt) (z : Nat) {a n j : Nat} {f : Nat → Int32} {i x y : Int32} {ws2 : va_W} (hz : ws[z]? = some (a, .inl (ct 1, n, .inl f))) (hin : vp_in i n) (hj : i.toNatClampNeg = j) (hx : vp_nar .byte x = y) (hd : decode cc pc = .ok (.bastore, 1)) (hws : ws.set z (a, .inl (ct 1, n, .inl (upd f j y))) = ws2) (hq : pc + 1 = q) (k : J p l e R s m args below meth c D A nL Q cells slots ws2 lv rest q) : J p l e R s m args below meth c D A nL Q cells slots ws lv (.int x :: .int i :: .ref a :: rest) pc := by
  subst hj; subst hx
  exact j_bast X z hz hin hd hws hq k
theorem k_zald (X : Cx p s m args meth c D ct L ts A cc own nL rt) (z : Nat) {a n j : Nat} {f : Nat → Int32} {i : Int32} (hz : ws[z]? = some (a, .inl (ct 2, n, .inl f))) (hin : vp_in i n) (hj : i.toNatClampNeg = j) (hd : decode cc pc = .ok (.baload, 1)) (hq : pc + 1 = q) (k : J p l e R s m args below meth c D A nL Q cells slots ws lv (.int (f j) :: rest) q) : J p l e R s m args below meth c D A nL Q cells slots ws lv (.int i :: .ref a :: rest) pc := by
  subst hj
  exact j_zald X z hz hin hd hq k
theorem k_zast (X : Cx p s m args meth c D ct L ts A cc own nL rt) (z : Nat) {a n j : Nat} {f : Nat → Int32} {i x y : Int32} {ws2 : va_W} (hz : ws[z]? = some (a, .inl (ct 2, n, .inl f))) (hin : vp_in i n) (hj : i.toNatClampNeg = j) (hx : vp_nar .boolean x = y) (hd : decode cc pc = .ok (.bastore, 1)) (hws : ws.set z (a, .inl (ct 2, n, .inl (upd f j y))) = ws2) (hq : pc + 1 = q) (k : J p l e R s m args below meth c D A nL Q cells slots ws2 lv rest q) : J p l e R s m args below meth c D A nL Q cells slots ws lv (.int x :: .int i :: .ref a :: rest) pc := by
  subst hj; subst hx
  exact j_zast X z hz hin hd hws hq k
theorem k_ti (X : Cx p s m args meth c D ct L ts A cc own nL rt) (z : Nat) {C n : String} {N j : Nat} {xs : List Int32} {i : Int32} (hz : L[z]? = some (C, n, N, xs)) (hin : vp_in i N) (hj : i.toNatClampNeg = j) (hd : decode cc pc = .ok (.iaload, 1)) (hq : pc + 1 = q) (k : J p l e R s m args below meth c D A nL Q cells slots ws lv (.int (xs.getD j 0) :: rest) q) : J p l e R s m args below meth c D A nL Q cells slots ws lv (.int i :: .ref (ts z) :: rest) pc := by
  subst hj
  exact j_ti X z hz hin hd hq k
theorem j_lve {st : List Value} (h : lv = lv') (k : J p l e R s m args below meth c D A nL Q cells slots ws lv' st pc) : J p l e R s m args below meth c D A nL Q cells slots ws lv st pc := h ▸ k
theorem j_topn {x : Nat} {st : List Value} (k : ∀ y : Nat, y = x → J p l e R s m args below meth c D A nL Q cells slots ws lv (.int (nI y) :: st) pc) : J p l e R s m args below meth c D A nL Q cells slots ws lv (.int (nI x) :: st) pc := k x rfl
theorem j_lcmp (X : Cx p s m args meth c D ct L ts A cc own nL rt) {x y : Int64} (hd : decode cc pc = .ok (.lcmp, 1)) (hq : pc + 1 = q) (k : J p l e R s m args below meth c D A nL Q cells slots ws lv (.int (lg_cmp x y) :: rest) q) : J p l e R s m args below meth c D A nL Q cells slots ws lv (.long y :: .long x :: rest) pc := by
  intro H locs ls hP hD hS hl
  subst hq
  exact W.lcmp X.1 X.2.1 hd (k H locs ls hP hD hS hl)
end JROWS2
