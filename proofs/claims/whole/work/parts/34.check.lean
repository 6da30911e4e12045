/-! checking: what is asked, of the memory -/
/-- what a kept certificate's cells are within -/
def ct_K (M : xm_M) (c : Nat) : Prop := M c 7 < 2147483648 ∧ (2 ≤ M c 5 ∧ M c 5 < 2147483648) ∧ (1 ≤ M c 6 ∧ M c 6 ≤ 1000) ∧ M c 8 < 1000003 ∧ (M c 2 < 2147483648 ∧ M c 3 < 2147483648) ∧ M c 10 ≤ 4 ∧ (∀ j, j < M c 10 → M (c + 6 + 2 * j) 0 < 256 ∧ M (c + 6 + 2 * j) 1 ≤ 1) ∧ M c 11 ≤ 1 ∧ (M c 12 = 4294967295 ∨ M c 12 < 2147483648) ∧ (M c 13 = 4294967295 ∨ M c 13 < 256) ∧ (nm_ok M (c + 1) ∧ nm_ok M (c + 3)) ∧ (M (c + 14) 1 ≤ 3 ∧ ∀ k, k < M (c + 14) 1 → nm_ok M (c + 14 + 2 + 2 * k)) ∧ (M (c + 22) 1 ≤ 3 ∧ ∀ k, k < M (c + 22) 1 → nm_ok M (c + 22 + 2 + 2 * k))
def ck_same (M : xm_M) (p q : Nat) : Prop := M p 1 = M q 1 ∧ nm_wi M p q
def ck_sig (s h m e : Nat) : Prop := s < m ∧ s ^ e % m = h % m
def ck_cr (M : xm_M) (c : Nat) : Prop := ∃ j, j < M c 10 ∧ M (c + 6 + 2 * j) 1 = 1 ∧ ¬ (M (c + 6 + 2 * j) 0 = 1 ∨ M (c + 6 + 2 * j) 0 = 2 ∨ M (c + 6 + 2 * j) 0 = 3)
def ck_al (M : xm_M) (c q : Nat) : Prop := (M (c + 14) 1 = 0 ∨ ∃ k, k < M (c + 14) 1 ∧ nm_wi M q (c + 14 + 2 + 2 * k)) ∧ ¬ ∃ k, k < M (c + 22) 1 ∧ nm_wi M q (c + 22 + 2 + 2 * k)
theorem ck_mul {p q : Nat} (hp : p < 2147483648) (hq : q < 2147483648) : p * q < 9223372036854775808 := by
  have h := Nat.mul_le_mul (show p ≤ 2147483647 by omega) (show q ≤ 2147483647 by omega)
  omega
theorem ck_pow {p q x m s e : Nat} (h : p * q ^ x % m = s ^ e % m) (hx : x % 2 = 1) : (p * q % m) * (q * q % m) ^ (x / 2) % m = s ^ e % m := by
  rw [← h]
  have e1 : p * q ^ x = (p * q) * (q * q) ^ (x / 2) := by
    have : x = 2 * (x / 2) + 1 := by omega
    rw [show q * q = q ^ 2 by rw [Nat.pow_two], ← Nat.pow_mul]
    conv => lhs; rw [this, Nat.pow_succ]
    rw [Nat.mul_assoc, Nat.mul_comm q]
  rw [e1, Nat.mul_mod, Nat.mod_mod, Nat.pow_mod, Nat.mod_mod, ← Nat.pow_mod, ← Nat.mul_mod]
theorem ck_pow0 {p q x m s e : Nat} (h : p * q ^ x % m = s ^ e % m) (hx : x % 2 = 0) : p * (q * q % m) ^ (x / 2) % m = s ^ e % m := by
  rw [← h]
  have e1 : p * q ^ x = p * (q * q) ^ (x / 2) := by
    have : x = 2 * (x / 2) := by omega
    rw [show q * q = q ^ 2 by rw [Nat.pow_two], ← Nat.pow_mul]
    conv => lhs; rw [this]
  rw [e1, Nat.mul_mod, Nat.pow_mod, Nat.mod_mod, ← Nat.pow_mod, ← Nat.mul_mod]
theorem xi_ge0 {m : Nat} (h : 0 < m) (h2 : m < 2147483648) : ¬ nI m = 0 := nI_ne0 h h2
theorem xi_lne0 {m : Nat} (h : 0 < m) (h2 : m < 2147483648) : ¬ lN m = 0 := fun z => by
  have := xi_linj (show m < 18446744073709551616 by omega) (show 0 < 18446744073709551616 by decide) z
  omega
theorem xi_shr1 {x : Nat} (h : x < 2147483648) : nI x >>> (nI 1 &&& 31) = nI (x / 2) := pk_shrN h _ 1 (by decide)
theorem xi_and32 : ∀ u, u < 256 → ((nI u &&& nI 32).toInt = 0 ↔ u / 32 % 2 = 0) := by decide +kernel
theorem xi_and (a b : Nat) : nI a &&& nI b = nI (a &&& b) := by
  apply Int32.toBitVec_inj.mp
  show BitVec.ofNat 32 a &&& BitVec.ofNat 32 b = BitVec.ofNat 32 (a &&& b)
  rw [BitVec.ofNat_and]
theorem xi_subT {x : Int32} (h : -2147483648 < x.toInt) : (x - nI 1).toInt = x.toInt - 1 := by
  rw [Int32.toInt_sub, show (nI 1).toInt = 1 by decide]
  have h2 := Int32.toInt_lt x
  rw [Int.bmod_eq_of_le (by omega) (by omega)]
