/-! pure: the document's words as functions of bytes (each byte a Nat below 256) -/
def bt (x : Int32) (i : Nat) : Bool := x.toBitVec.getLsbD i
theorem b_ext {x y : Int32} (h : ∀ i, i < 32 → bt x i = bt y i) : x = y := Int32.toBitVec_inj.mp (BitVec.eq_of_getLsbD_eq (fun i hi => h i hi))
theorem b_and (x y : Int32) (i : Nat) : bt (x &&& y) i = (bt x i && bt y i) := by unfold bt; rw [Int32.toBitVec_and, BitVec.getLsbD_and]
theorem s_l : ∀ n, n < 32 → ((nI n &&& 31).toBitVec.smod 32).toNat = n := by decide +kernel
theorem s_u : ∀ n, n < 32 → (((nI n).toUInt32 &&& Int32.toUInt32 31).toBitVec % 32).toNat = n := by decide +kernel
theorem b_ushr (n : Nat) (hn : n < 32) (x : Int32) (i : Nat) : bt ((x.toUInt32 >>> ((nI n).toUInt32 &&& Int32.toUInt32 31)).toInt32) i = bt x (n + i) := by
  show (x.toUInt32 >>> ((nI n).toUInt32 &&& Int32.toUInt32 31)).toBitVec.getLsbD i = x.toUInt32.toBitVec.getLsbD (n + i)
  rw [UInt32.toBitVec_shiftRight]
  show (x.toUInt32.toBitVec >>> (((nI n).toUInt32 &&& Int32.toUInt32 31).toBitVec % 32).toNat).getLsbD i = _
  rw [s_u n hn, BitVec.getLsbD_ushiftRight]
theorem b_sshr (n : Nat) (hn : n < 32) (x : Int32) {i : Nat} (hi : i < 32) : bt (x >>> (nI n &&& 31)) i = if n + i < 32 then bt x (n + i) else bt x 31 := by
  unfold bt
  rw [Int32.toBitVec_shiftRight]
  show (x.toBitVec.sshiftRight ((nI n &&& 31).toBitVec.smod 32).toNat).getLsbD i = _
  rw [s_l n hn, BitVec.getLsbD_sshiftRight, BitVec.msb_eq_getLsbD_last]
  simp [hi]
theorem wb_tb (n : Nat) : (lN n).toBitVec = BitVec.ofNat 64 n := rfl
theorem wb_inj {a b : Int64} (h : a.toBitVec = b.toBitVec) : a = b := Int64.toBitVec_inj.mp h
theorem wb_c : ∀ k, k < 64 → ((nI k).toInt64 &&& 63) = lN k := by decide +kernel
theorem wb_sm : ∀ k, k < 64 → (BitVec.ofNat 64 k).smod 64 = BitVec.ofNat 64 k := by decide +kernel
theorem wb_shl (n : Nat) {k : Nat} (hk : k < 64) : lN n <<< ((nI k).toInt64 &&& 63) = lN (n * 2 ^ k) := by
  rw [wb_c k hk]
  apply wb_inj
  rw [Int64.toBitVec_shiftLeft, wb_tb, wb_tb, wb_tb, wb_sm k hk]
  apply BitVec.eq_of_toNat_eq
  rw [BitVec.shiftLeft_eq', BitVec.toNat_shiftLeft, BitVec.toNat_ofNat, BitVec.toNat_ofNat, BitVec.toNat_ofNat, Nat.mod_eq_of_lt (show k < 2 ^ 64 by omega), Nat.shiftLeft_eq, Nat.mul_mod, Nat.mod_mod, ← Nat.mul_mod]
theorem gg_or (a b : Nat) : lN a ||| lN b = lN (a ||| b) := by
  apply wb_inj
  rw [Int64.toBitVec_or, wb_tb, wb_tb, wb_tb]
  apply BitVec.eq_of_toNat_eq
  rw [BitVec.toNat_or, BitVec.toNat_ofNat, BitVec.toNat_ofNat, BitVec.toNat_ofNat, Nat.or_mod_two_pow]
theorem gg_nor {a b w : Nat} (h : a < 2 ^ w) : a ||| b * 2 ^ w = a + b * 2 ^ w := by
  rw [Nat.or_comm, Nat.mul_comm b, ← Nat.two_pow_add_eq_or_of_lt h, Nat.add_comm]
theorem gg_lmod (a b : Nat) : lN (a + 18446744073709551616 * b) = lN a := by
  apply wb_inj
  rw [wb_tb, wb_tb]
  apply BitVec.eq_of_toNat_eq
  rw [BitVec.toNat_ofNat, BitVec.toNat_ofNat]
  exact Nat.add_mul_mod_self_left a _ b
theorem gg_7 (k : Nat) : (7 : Int32) * nI k = nI (7 * k) := pk_mul 7 k
theorem gg_shr (v : Int64) {k : Nat} (hk : k < 64) : (v >>> ((nI k).toInt64 &&& 63)).toInt = v.toInt / 2 ^ k := by
  have hD : ∀ k, k < 64 → (((nI k).toInt64 &&& 63).toBitVec.smod 64).toNat = k := by decide +kernel
  have e : (v >>> ((nI k).toInt64 &&& 63)).toInt = v.toInt >>> k := by
    have h2 := BitVec.toInt_sshiftRight (x := v.toBitVec) (n := (((nI k).toInt64 &&& 63).toBitVec.smod 64).toNat)
    rw [hD k hk] at h2
    rw [← Int64.toInt_toBitVec, Int64.toBitVec_shiftRight]
    show (v.toBitVec.sshiftRight (((nI k).toInt64 &&& 63).toBitVec.smod 64).toNat).toInt = _
    rw [hD k hk]
    exact h2
  rw [e, Int.shiftRight_eq_div_pow]
  rfl
/-- a long that an int holds -/
theorem gg_tr {m : Nat} (h : m % 18446744073709551616 < 2147483648 ∨ 18446744071562067968 ≤ m % 18446744073709551616) : (lN m).toInt32.toInt64 = lN m := by
  rw [lN_i]
  apply Int64.toInt_inj.mp
  rw [Int32.toInt_toInt64]
  have h1 : (nI m).toInt = ((m : Nat) : Int).bmod 4294967296 := by
    first | exact BitVec.toInt_ofNat' | exact BitVec.toInt_ofNat' _ | exact BitVec.toInt_ofNat' _ _ | (show (BitVec.ofNat _ m).toInt = _; simp)
  have h2 : (lN m).toInt = ((m : Nat) : Int).bmod 18446744073709551616 := by
    first | exact BitVec.toInt_ofNat' | exact BitVec.toInt_ofNat' _ | exact BitVec.toInt_ofNat' _ _ | (show (BitVec.ofNat _ m).toInt = _; simp)
  rw [h1, h2]
  simp only [Int.bmod]
  split <;> split <;> omega
theorem gg_int (v : Int64) : v = v.toInt32.toInt64 ↔ (-2147483648 ≤ v ∧ v ≤ 2147483647) := by
  rw [← Int64.toInt_inj, Int32.toInt_toInt64, Int64.toInt_toInt32, Int64.le_iff_toInt_le, Int64.le_iff_toInt_le]
  have a1 : (-2147483648 : Int64).toInt = -2147483648 := by decide
  have a2 : (2147483647 : Int64).toInt = 2147483647 := by decide
  rw [a1, a2]
  have b1 := Int64.toInt_lt v
  have b2 := Int64.le_toInt v
  have e : (2 : Nat) ^ 32 = 4294967296 := by decide
  rw [e]
  simp only [Int.bmod]
  constructor
  · intro h
    split at h <;> omega
  · intro h
    split <;> omega
/-! the first place that has a property, from 1; 0 if none -/
def gg_first (P : Nat → Bool) : Nat → Nat
  | 0 => 0
  | k + 1 => if gg_first P k = 0 then (if P k = true then k + 1 else 0) else gg_first P k
theorem gg_first_none {P : Nat → Bool} : ∀ {k : Nat}, (∀ j, j < k → P j = false) → gg_first P k = 0
  | 0, _ => rfl
  | k + 1, h => by
    have h1 := gg_first_none (P := P) (k := k) (fun j hj => h j (by omega))
    simp [gg_first, h1, h k (by omega)]
theorem gg_first_hit {P : Nat → Bool} {i : Nat} (hb : ∀ j, j < i → P j = false) (hi : P i = true) : ∀ {k : Nat}, i < k → gg_first P k = i + 1
  | 0, h => absurd h (by omega)
  | k + 1, h => by
    rcases Nat.lt_or_ge i k with q | q
    · have h1 := gg_first_hit hb hi q
      simp [gg_first, h1]
    · have e : i = k := by omega
      subst e
      simp [gg_first, gg_first_none hb, hi]
theorem gg_first_le {P : Nat → Bool} : ∀ k : Nat, gg_first P k ≤ k
  | 0 => Nat.le_refl 0
  | k + 1 => by
    have h1 := gg_first_le (P := P) k
    simp only [gg_first]
    split
    · split <;> omega
    · omega
theorem gg_first_at {P : Nat → Bool} : ∀ {k c : Nat}, gg_first P k = c + 1 → P c = true
  | 0, c, h => by simp [gg_first] at h
  | k + 1, c, h => by
    simp only [gg_first] at h
    split at h
    · split at h
      · rename_i q
        have : k = c := by omega
        rw [← this]
        exact q
      · omega
    · exact gg_first_at h
/-! rows of bytes: as ints, as signed bytes -/
def gg_I (t : Nat → Nat) (n : Nat) (g : Nat → Int32) : Prop := ∀ j, j < n → t j < 256 ∧ g j = nI (t j)
theorem gg_I_push {t : Nat → Nat} {n : Nat} {g : Nat → Int32} {x : Int32} (h : gg_I t n g) (h1 : t n < 256) (hx : x = nI (t n)) : gg_I t (n + 1) (upd g n x) := by
  intro j hj
  by_cases e : j = n
  · subst e
    exact ⟨h1, by rw [pk_us]; exact hx⟩
  · rw [pk_un e]
    exact h j (by omega)
theorem gg_I_sub {t : Nat → Nat} {n m : Nat} {g : Nat → Int32} (h : gg_I t n g) (hm : m ≤ n) : gg_I t m g := fun j hj => h j (by omega)
theorem gg_I_cat {t s : Nat → Nat} {n : Nat} {g : Nat → Int32} (h : gg_I t n g) : gg_I (sb_cat t n s) n g := fun j hj => by rw [sb_cat_lo hj]; exact h j hj
theorem gg_B_push {t : Nat → Nat} {n : Nat} {g : Nat → Int32} {x : Int32} (h : sb_Lat t n g) (h1 : t n < 256) (hx : x = sb_b (t n)) : sb_Lat t (n + 1) (upd g n x) := by
  intro j hj
  by_cases e : j = n
  · subst e
    exact ⟨h1, by rw [pk_us]; exact hx⟩
  · rw [pk_un e]
    exact h j (by omega)
theorem gg_B_sub {t : Nat → Nat} {n m : Nat} {g : Nat → Int32} (h : sb_Lat t n g) (hm : m ≤ n) : sb_Lat t m g := fun j hj => h j (by omega)
theorem gg_B_cat {t s : Nat → Nat} {n : Nat} {g : Nat → Int32} (h : sb_Lat t n g) : sb_Lat (sb_cat t n s) n g := fun j hj => by rw [sb_cat_lo hj]; exact h j hj
theorem gg_b_neg : ∀ c, c < 256 → (¬ 0 ≤ sb_b c ↔ 128 ≤ c) := by decide +kernel
theorem gg_b_low : ∀ c, c < 128 → sb_b c = nI c := by decide +kernel
theorem gg_b_127 : ∀ c, c < 256 → sb_b c &&& 127 = nI (c % 128) := by decide +kernel
theorem gg_b_255 : ∀ c, c < 256 → sb_b c &&& 255 = nI c := by decide +kernel
theorem gg_i_127 : ∀ c, c < 256 → nI c &&& 127 = nI (c % 128) := by decide +kernel
theorem gg_or128 : ∀ c, c < 128 → nI c ||| 128 = nI (c + 128) := by decide +kernel
theorem gg_and64 : ∀ c, c < 128 → (nI c &&& 64 = 0 ↔ ¬ 64 ≤ c) := by decide +kernel
/-! feed -/
def gg_wb (w : Int32) (i : Nat) : Nat := w.toBitVec.toNat / 2 ^ (24 - 8 * i) % 256
theorem gg_wb_lt (w : Int32) (i : Nat) : gg_wb w i < 256 := Nat.mod_lt _ (by decide)
theorem gg_wb_s : ∀ i, i < 4 → (((24 - 8 * nI i : Int32).toUInt32 &&& Int32.toUInt32 31).toBitVec % 32).toNat = 24 - 8 * i := by decide +kernel
theorem gg_wb_n : ∀ i, i < 4 → (24 - 8 * nI i : Int32) = nI (24 - 8 * i) := by decide +kernel
theorem gg_wb_I (w : Int32) {i : Nat} (hi : i < 4) : (w.toUInt32 >>> ((24 - 8 * nI i : Int32).toUInt32 &&& Int32.toUInt32 31)).toInt32 &&& 255 = nI (gg_wb w i) := by
  rw [pk_and _ 8 (by decide), pk_ushr _ _ _ (gg_wb_s i hi)]
  rfl
theorem gg_sx {x y : Int32} (h : ∀ k, k < 8 → bt x k = bt y k) : x.toInt8 = y.toInt8 := by
  apply Int8.toBitVec_inj.mp
  rw [Int32.toBitVec_toInt8, Int32.toBitVec_toInt8]
  apply BitVec.eq_of_getLsbD_eq
  intro k hk
  rw [BitVec.getLsbD_signExtend, BitVec.getLsbD_signExtend, if_pos (by omega), if_pos (by omega)]
  exact congrArg _ (h k hk)
theorem gg_255 : ∀ k, k < 8 → bt 255 k = true := by decide +kernel
theorem gg_wb_B (w : Int32) {i : Nat} (hi : i < 4) : (w >>> ((24 - 8 * nI i : Int32) &&& 31)).toInt8.toInt32 = sb_b (gg_wb w i) := by
  show _ = (nI (gg_wb w i)).toInt8.toInt32
  rw [← gg_wb_I w hi]
  congr 1
  apply gg_sx
  intro k hk
  rw [b_and, gg_255 k hk, gg_wb_n i hi, b_sshr _ (by omega) _ (by omega), b_ushr _ (by omega), if_pos (by omega), Bool.and_true]
/-! read -/
abbrev gg_ok (how : Int32) : Prop := how = 0 ∨ how = 1 ∨ how = 2
def gg_most (how : Int32) : Nat := if how = 2 then 10 else 5
theorem gg_most_bd (how : Int32) : gg_most how ≤ 10 ∧ 5 ≤ gg_most how := by unfold gg_most; split <;> omega
def gg_cnt (t : Nat → Nat) (a k : Nat) : Nat := gg_first (fun i => decide (t (a + i) < 128)) k
theorem gg_cnt_none {t : Nat → Nat} {a k : Nat} (h : ∀ j, j < k → 128 ≤ t (a + j)) : gg_cnt t a k = 0 := gg_first_none (fun j hj => by have := h j hj; simp; omega)
theorem gg_cnt_hit {t : Nat → Nat} {a i k : Nat} (hb : ∀ j, j < i → 128 ≤ t (a + j)) (hi : t (a + i) < 128) (h : i < k) : gg_cnt t a k = i + 1 := gg_first_hit (fun j hj => by have := hb j hj; simp; omega) (by simpa using hi) h
theorem gg_cnt_le (t : Nat → Nat) (a k : Nat) : gg_cnt t a k ≤ k := gg_first_le k
theorem gg_cnt_at {t : Nat → Nat} {a k c : Nat} (h : gg_cnt t a k = c + 1) : t (a + c) < 128 := by simpa using gg_first_at h
def gg_join (t : Nat → Nat) (a : Nat) : Nat → Nat
  | 0 => 0
  | k + 1 => gg_join t a k + t (a + k) % 128 * 2 ^ (7 * k)
theorem gg_join_lt (t : Nat → Nat) (a : Nat) : ∀ k, gg_join t a k < 2 ^ (7 * k)
  | 0 => Nat.one_pos
  | k + 1 => by
    have h := gg_join_lt t a k
    have h2 : t (a + k) % 128 ≤ 127 := by omega
    have h3 : t (a + k) % 128 * 2 ^ (7 * k) ≤ 127 * 2 ^ (7 * k) := Nat.mul_le_mul_right _ h2
    have h4 : 2 ^ (7 * (k + 1)) = 2 ^ (7 * k) * 128 := by rw [show 7 * (k + 1) = 7 * k + 7 by omega, Nat.pow_add]
    show gg_join t a k + t (a + k) % 128 * 2 ^ (7 * k) < _
    rw [h4]
    omega
def gg_val (how : Int32) (t : Nat → Nat) (a c : Nat) : Nat := gg_join t a c + (if ¬ how = 0 ∧ 64 ≤ t (a + (c - 1)) then 18446744073709551615 * 2 ^ (7 * c) else 0)
abbrev gg_bad (how : Int32) (l : Nat) : Prop := (how = 0 ∧ 15 < l) ∨ (how = 1 ∧ 7 < l ∧ l < 120) ∨ (how = 2 ∧ 0 < l ∧ l < 127)
def gg_rd (how : Int32) (t : Nat → Nat) (a c : Nat) (v : Int64) : Int32 × Int64 := if c = 0 then (-1, v) else if c = gg_most how ∧ gg_bad how (t (a + (c - 1))) then (-1, v) else (nI c, lN (gg_val how t a c))
def gg_read (how at_ : Int32) (t : Nat → Nat) (n : Nat) (v : Int64) : Int32 × Int64 :=
  if gg_ok how ∧ ¬ at_ < 0 ∧ at_ ≤ nI n then gg_rd how t at_.toNatClampNeg (gg_cnt t at_.toNatClampNeg (min (gg_most how) (n - at_.toNatClampNeg))) v else (-2, v)
theorem gg_join_step {J g k : Nat} (hg : g < 128) (hk : 7 * k < 64) (hJ : J < 2 ^ (7 * k)) : lN J ||| ((nI g).toInt64 <<< (((7 : Int32) * nI k).toInt64 &&& 63)) = lN (J + g * 2 ^ (7 * k)) := by
  rw [gg_7, nI_l (by omega), wb_shl _ hk, gg_or, gg_nor hJ]
theorem gg_m1 : (-1 : Int64) = lN 18446744073709551615 := by decide
theorem gg_ext {J c : Nat} (hc : 7 * c < 64) (hJ : J < 2 ^ (7 * c)) : lN J ||| ((-1 : Int64) <<< ((nI (7 * c)).toInt64 &&& 63)) = lN (J + 18446744073709551615 * 2 ^ (7 * c)) := by
  rw [gg_m1, wb_shl _ hc, gg_or, gg_nor hJ]
theorem gg_ext10 (J : Nat) : lN (J + 18446744073709551615 * 2 ^ (7 * 10)) = lN J := by
  have e : 18446744073709551615 * 2 ^ (7 * 10) = 18446744073709551616 * (64 * 18446744073709551615) := by decide
  rw [e]
  exact gg_lmod J _
theorem gg_down {V g : Nat} (hg : g < 128) : (lN V <<< ((7 : Int32).toInt64 &&& 63)) ||| (nI g).toInt64 = lN (g + V * 128) := by
  have h := wb_shl V (k := 7) (by decide)
  rw [show (7 : Int32) = nI 7 from rfl, h, nI_l (by omega), gg_or, Nat.or_comm, gg_nor (w := 7) hg]
theorem gg_down_inv {t : Nat → Nat} {a k V T : Nat} (h : V * 2 ^ (7 * (k + 1)) + gg_join t a (k + 1) = T) : (t (a + k) % 128 + V * 128) * 2 ^ (7 * k) + gg_join t a k = T := by
  rw [← h]
  show _ = V * 2 ^ (7 * (k + 1)) + (gg_join t a k + t (a + k) % 128 * 2 ^ (7 * k))
  rw [show 7 * (k + 1) = 7 * k + 7 by omega, Nat.pow_add, show (2 : Nat) ^ 7 = 128 from rfl, Nat.add_mul, Nat.mul_assoc V 128, Nat.mul_comm 128]
  omega
theorem gg_val_S {t : Nat → Nat} {a c : Nat} (h0 : c ≠ 0) (h5 : c ≤ 5) (hl : t (a + (c - 1)) < 128) (hb : c = 5 → ¬ gg_bad 1 (t (a + (c - 1)))) : (lN (gg_val 1 t a c)).toInt32.toInt64 = lN (gg_val 1 t a c) := by
  apply gg_tr
  have hj := gg_join_lt t a c
  unfold gg_val
  rcases (show c = 1 ∨ c = 2 ∨ c = 3 ∨ c = 4 ∨ c = 5 by omega) with rfl | rfl | rfl | rfl | rfl
  · simp only [show ¬ (1 : Int32) = 0 by decide, not_false_eq_true, true_and] at *
    split <;> omega
  · simp only [show ¬ (1 : Int32) = 0 by decide, not_false_eq_true, true_and] at *
    split <;> omega
  · simp only [show ¬ (1 : Int32) = 0 by decide, not_false_eq_true, true_and] at *
    split <;> omega
  · simp only [show ¬ (1 : Int32) = 0 by decide, not_false_eq_true, true_and] at *
    split <;> omega
  · have h4 := gg_join_lt t a 4
    have e5 : gg_join t a 5 = gg_join t a 4 + t (a + 4) % 128 * 2 ^ (7 * 4) := rfl
    have hb' : ¬ (7 < t (a + 4) ∧ t (a + 4) < 120) := fun q => hb rfl (Or.inr (Or.inl ⟨rfl, q⟩))
    simp only [show ¬ (1 : Int32) = 0 by decide, not_false_eq_true, true_and, show 5 - 1 = 4 from rfl] at *
    rw [e5]
    split <;> omega
/-! write -/
abbrev gg_num (how : Int32) (v : Int64) : Prop := (how = 0 → 0 ≤ v ∧ v ≤ 4294967295) ∧ (how = 1 → -2147483648 ≤ v ∧ v ≤ 2147483647)
def gg_fit (how : Int32) (v : Int64) (n : Nat) : Bool := if how = 0 then decide (v >>> (((7 : Int32) * nI n).toInt64 &&& 63) = 0) else (decide (v >>> (((7 : Int32) * nI n - 1).toInt64 &&& 63) = 0) || decide (v >>> (((7 : Int32) * nI n - 1).toInt64 &&& 63) = -1))
def gg_need (how : Int32) (v : Int64) : Nat := if gg_first (fun i => gg_fit how v (i + 1)) (gg_most how - 1) = 0 then gg_most how else gg_first (fun i => gg_fit how v (i + 1)) (gg_most how - 1)
theorem gg_need_hit {how : Int32} {v : Int64} {n : Nat} (h1 : 1 ≤ n) (h2 : n < gg_most how) (hb : ∀ j, 1 ≤ j → j < n → gg_fit how v j = false) (h : gg_fit how v n = true) : gg_need how v = n := by
  have e := gg_first_hit (P := fun i => gg_fit how v (i + 1)) (i := n - 1) (k := gg_most how - 1) (fun j hj => hb (j + 1) (by omega) (by omega)) (by show gg_fit how v (n - 1 + 1) = true; rw [Nat.sub_add_cancel h1]; exact h) (by omega)
  unfold gg_need
  rw [e, if_neg (by omega), Nat.sub_add_cancel h1]
theorem gg_need_top {how : Int32} {v : Int64} (hb : ∀ j, 1 ≤ j → j < gg_most how → gg_fit how v j = false) : gg_need how v = gg_most how := by
  unfold gg_need
  rw [if_pos (gg_first_none (fun j hj => hb (j + 1) (by omega) (by omega)))]
theorem gg_need_bd (how : Int32) (v : Int64) : 1 ≤ gg_need how v ∧ gg_need how v ≤ gg_most how := by
  have h1 := gg_most_bd how
  have h2 := gg_first_le (P := fun i => gg_fit how v (i + 1)) (gg_most how - 1)
  unfold gg_need
  split <;> omega
theorem gg_7m {n : Nat} (h : 1 ≤ n) : (7 : Int32) * nI n - 1 = nI (7 * n - 1) := by
  rw [gg_7]
  exact pk_sub (b := 1) (by omega)
theorem gg_fit_top {how : Int32} {v : Int64} (ho : how = 0 ∨ how = 1) (h : gg_num how v) : gg_fit how v 5 = true := by
  unfold gg_fit
  rcases ho with rfl | rfl
  · have h1 := h.1 rfl
    rw [if_pos rfl, gg_7]
    apply decide_eq_true
    apply Int64.toInt_inj.mp
    rw [gg_shr v (by decide)]
    have a1 : (0 : Int64).toInt = 0 := by decide
    have a2 : (4294967295 : Int64).toInt = 4294967295 := by decide
    rw [Int64.le_iff_toInt_le, Int64.le_iff_toInt_le, a1, a2] at h1
    rw [a1]
    omega
  · have h1 := h.2 rfl
    rw [if_neg (by decide), gg_7m (by decide), Bool.or_eq_true, decide_eq_true_eq, decide_eq_true_eq, ← Int64.toInt_inj, ← Int64.toInt_inj, gg_shr v (by decide)]
    have a0 : (0 : Int64).toInt = 0 := by decide
    have a3 : (-1 : Int64).toInt = -1 := by decide
    have a1 : (-2147483648 : Int64).toInt = -2147483648 := by decide
    have a2 : (2147483647 : Int64).toInt = 2147483647 := by decide
    rw [Int64.le_iff_toInt_le, Int64.le_iff_toInt_le, a1, a2] at h1
    rw [a0, a3]
    omega
def gg_grp (v : Int64) (i : Nat) : Nat := (v >>> (((7 : Int32) * nI i).toInt64 &&& 63)).toInt32.toBitVec.toNat % 128
theorem gg_grp_lt (v : Int64) (i : Nat) : gg_grp v i < 128 := Nat.mod_lt _ (by decide)
theorem gg_grp_I (v : Int64) (i : Nat) : (v >>> (((7 : Int32) * nI i).toInt64 &&& 63)).toInt32 &&& 127 = nI (gg_grp v i) := pk_and _ 7 (by decide)
def gg_by (v : Int64) (c i : Nat) : Nat := gg_grp v i + (if i + 1 < c then 128 else 0)
theorem gg_by_lt (v : Int64) (c i : Nat) : gg_by v c i < 256 := by
  have := gg_grp_lt v i
  unfold gg_by
  split <;> omega
/-- what write answers, how long the output is then, what it holds -/
def gg_write (how : Int32) (v : Int64) (k : Nat) (u : Nat → Nat) : Int32 × Nat × (Nat → Nat) :=
  if gg_ok how then (if gg_num how v then (if k + gg_need how v ≤ 1000 then (nI (gg_need how v), k + gg_need how v, sb_cat u k (gg_by v (gg_need how v))) else (-2, k, u)) else (-1, k, u)) else (-2, k, u)
