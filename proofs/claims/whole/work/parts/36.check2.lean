/-! checking a path, of the memory -/
theorem ct_K.n1 {M : xm_M} {c : Nat} (h : ct_K M c) : nm_ok M (c + 1) := h.2.2.2.2.2.2.2.2.2.2.1.1
theorem ct_K.n3 {M : xm_M} {c : Nat} (h : ct_K M c) : nm_ok M (c + 3) := h.2.2.2.2.2.2.2.2.2.2.1.2
/-- the conditions 1 to 5 -/
def ck_any (M : xm_M) (h X p : Nat) (T : Int) (v : Nat) : Prop :=
  (v = 1 ∧ ¬ ck_sig (M X 7) (M X 8) (M h 5) (M h 6)) ∨ (ck_sig (M X 7) (M X 8) (M h 5) (M h 6) ∧ (
  (v = 2 ∧ ¬ ((M X 2 : Int) ≤ T ∧ T ≤ (M X 3 : Int))) ∨ (((M X 2 : Int) ≤ T ∧ T ≤ (M X 3 : Int)) ∧ (
  (v = 3 ∧ ¬ ck_same M (X + 1) (h + 3)) ∨ (ck_same M (X + 1) (h + 3) ∧ (
  (v = 4 ∧ ¬ ((p + 1 ≠ M 0 5 ∧ ck_same M (X + 1) (X + 3)) ∨ ∀ q, q < p → ck_al M (6 + 30 * M 276 q) (X + 3))) ∨ (((p + 1 ≠ M 0 5 ∧ ck_same M (X + 1) (X + 3)) ∨ ∀ q, q < p → ck_al M (6 + 30 * M 276 q) (X + 3)) ∧ (
  (v = 5 ∧ ck_cr M X) ∨ (v = 0 ∧ ¬ ck_cr M X))))))))) 
/-- the conditions 6 to 8 -/
def ck_hold (M : xm_M) (c : Nat) (rest : Int) (v : Nat) : Prop := (v = 6 ∧ M c 11 = 0) ∨ (v = 7 ∧ M c 11 = 1 ∧ ¬ ck_same M (c + 1) (c + 3) ∧ rest ≤ 0) ∨ (M c 11 = 1 ∧ (ck_same M (c + 1) (c + 3) ∨ 0 < rest) ∧ ((v = 8 ∧ M c 13 ≠ 4294967295 ∧ M c 13 / 32 % 2 = 0) ∨ (v = 0 ∧ (M c 13 = 4294967295 ∨ M c 13 / 32 % 2 = 1))))
/-- the condition 9 -/
def ck_last (M : xm_M) (c a v : Nat) : Prop := (v = 9 ∧ M c 13 ≠ 4294967295 ∧ M c 13 &&& a ≠ a) ∨ (v = 0 ∧ (M c 13 = 4294967295 ∨ M c 13 &&& a = a))
def ck_rest (M : xm_M) (c : Nat) (rest r : Int) : Prop := ∃ left : Int, ((ck_same M (c + 1) (c + 3) ∧ left = rest) ∨ (¬ ck_same M (c + 1) (c + 3) ∧ left = rest - 1)) ∧ ((M c 12 ≠ 4294967295 ∧ (M c 12 : Int) < left ∧ r = (M c 12 : Int)) ∨ (¬ (M c 12 ≠ 4294967295 ∧ (M c 12 : Int) < left) ∧ r = left))
/-- the path from place p on, n being left -/
def ck_run (M : xm_M) (T : Int) (a : Nat) : Nat → Nat → Nat → Int → Nat → Prop
  | 0, _, _, _, r => r = 0
  | n + 1, p, h, rest, r => ∃ v w, ck_any M h (6 + 30 * M 276 p) p T v ∧ ((v ≠ 0 ∧ w = v) ∨ (v = 0 ∧ ((n = 0 ∧ ck_last M (6 + 30 * M 276 p) a w) ∨ (n ≠ 0 ∧ ck_hold M (6 + 30 * M 276 p) rest w)))) ∧
    ((w ≠ 0 ∧ r = 16 * p + w) ∨ (w = 0 ∧ ∃ rest', ck_rest M (6 + 30 * M 276 p) rest rest' ∧ ck_run M T a n (p + 1) (6 + 30 * M 276 p) rest' r))
theorem ck_any_lt {M : xm_M} {h X p v : Nat} {T : Int} (g : ck_any M h X p T v) : v ≤ 5 := by
  unfold ck_any at g
  rcases g with ⟨rfl, -⟩ | ⟨-, ⟨rfl, -⟩ | ⟨-, ⟨rfl, -⟩ | ⟨-, ⟨rfl, -⟩ | ⟨-, ⟨rfl, -⟩ | ⟨rfl, -⟩⟩⟩⟩⟩ <;> decide
