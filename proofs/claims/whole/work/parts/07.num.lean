/-! numbers -/
def xi_pred : Nat → Int32
  | 0 => -1
  | t + 1 => nI t
theorem xi_ofInt (n : Nat) : Int32.ofInt (n : Int) = nI n := by
  apply Int32.toBitVec_inj.mp
  simp [nI, Int32.ofInt, Int32.ofNat]
theorem xi_inc (x n : Nat) : nI x + Int32.ofInt (n : Int) = nI (x + n) := by
  rw [xi_ofInt, nI_add]
theorem xi_dec (t : Nat) : nI t + Int32.ofInt (-1) = xi_pred t := by
  cases t with
  | zero => decide
  | succ t => exact pk_m1 t
theorem xi_z {v : Nat} (h : v < 2) : narrow .boolean (.int (nI v)) = .int (nI v) := by
  rcases (show v = 0 ∨ v = 1 by omega) with rfl | rfl <;> decide
theorem xi_bv (n : Nat) : (nI n).toBitVec = BitVec.ofNat 32 n := rfl
theorem xi_tn (n : Nat) : (nI n).toBitVec.toNat = n % 4294967296 := by
  rw [xi_bv, BitVec.toNat_ofNat]
theorem xi_ext {x y : Int32} (h : x.toBitVec.toNat = y.toBitVec.toNat) : x = y := Int32.toBitVec_inj.mp (BitVec.eq_of_toNat_eq h)
theorem xi_mod (n : Nat) : nI n = nI (n % 4294967296) := by
  apply xi_ext
  rw [xi_tn, xi_tn]
  omega
theorem xi_shl8 (v : Nat) : nI v <<< ((nI 8) &&& 31) = nI (v * 256) := by
  apply xi_ext
  rw [pk_shl _ _ 8 (by decide), xi_tn, xi_tn]
  omega
set_option maxRecDepth 100000 in
theorem xi_or8 {v b : Nat} (hb : b < 256) : nI (v * 256) ||| nI b = nI (v * 256 + b) := by
  apply xi_ext
  show ((nI (v * 256)).toBitVec ||| (nI b).toBitVec).toNat = _
  rw [BitVec.toNat_or, xi_tn, xi_tn, xi_tn]
  have h1 : v * 256 % 4294967296 = 2 ^ 8 * (v % 16777216) := by omega
  have h2 : (v * 256 + b) % 4294967296 = 2 ^ 8 * (v % 16777216) + b := by omega
  have h3 : b % 4294967296 = b := by omega
  rw [h1, h2, h3]
  exact (Nat.two_pow_add_eq_or_of_lt hb _).symm
theorem xi_ltn (n : Nat) : (lN n).toBitVec.toNat = n % 18446744073709551616 := by
  show (BitVec.ofNat 64 n).toNat = _
  rw [BitVec.toNat_ofNat]
theorem xi_lext {x y : Int64} (h : x.toBitVec.toNat = y.toBitVec.toNat) : x = y := Int64.toBitVec_inj.mp (BitVec.eq_of_toNat_eq h)
theorem xi_linj {a b : Nat} (ha : a < 18446744073709551616) (hb : b < 18446744073709551616) (h : lN a = lN b) : a = b := by
  have h1 := congrArg (fun z => z.toBitVec.toNat) h
  simp only [xi_ltn] at h1
  rw [Nat.mod_eq_of_lt ha, Nat.mod_eq_of_lt hb] at h1
  exact h1
theorem xi_lshl8 (v : Nat) : lN v <<< ((nI 8).toInt64 &&& 63) = lN (v * 256) := by
  exact wb_shl v (k := 8) (by decide)
set_option maxRecDepth 100000 in
theorem xi_lor8 {v b : Nat} (hb : b < 256) : lN (v * 256) ||| lN b = lN (v * 256 + b) := by
  apply xi_lext
  show ((lN (v * 256)).toBitVec ||| (lN b).toBitVec).toNat = _
  rw [BitVec.toNat_or, xi_ltn, xi_ltn, xi_ltn]
  have h1 : v * 256 % 18446744073709551616 = 2 ^ 8 * (v % 72057594037927936) := by omega
  have h2 : (v * 256 + b) % 18446744073709551616 = 2 ^ 8 * (v % 72057594037927936) + b := by omega
  have h3 : b % 18446744073709551616 = b := by omega
  rw [h1, h2, h3]
  exact (Nat.two_pow_add_eq_or_of_lt hb _).symm
theorem xi_lcmp {a b : Nat} (ha : a < 18446744073709551616) (hb : b < 18446744073709551616) : (lg_cmp (lN a) (lN b)).toInt = 0 ↔ a = b := by
  have h0 : (lg_cmp (lN a) (lN b)).toInt = 0 ↔ lg_cmp (lN a) (lN b) = 0 := ⟨fun h => Int32.toInt_inj.mp (by rw [h]; rfl), fun h => by rw [h]; rfl⟩
  rw [h0, lg_cmp_eq]
  exact ⟨xi_linj ha hb, fun h => by rw [h]⟩
theorem xi_pow8 {v t : Nat} (h : v < 256 ^ t) (ht : t ≤ 8) : v < 18446744073709551616 :=
  Nat.lt_of_lt_of_le h (Nat.le_trans (Nat.pow_le_pow_right (by decide) ht) (by decide))
