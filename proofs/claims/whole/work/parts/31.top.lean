/-! numbers from outside -/
theorem xi_of {x : Int32} (h : 0 ≤ x.toInt) : ∃ j : Nat, j < 2147483648 ∧ x = nI j := by
  obtain ⟨j, hj, e⟩ := nI_of (x := x) (fun z => by have := Int32.lt_iff_toInt_lt.mp z; have h0 : (0 : Int32).toInt = 0 := rfl; omega)
  exact ⟨j, hj, e⟩
theorem xi_sub1 (m : Nat) : nI m - nI 1 = xi_pred m := by
  cases m with
  | zero => decide
  | succ m => exact pk_sub (Nat.le_add_left 1 m)
/-- byte t of w -/
def fd_b (w : Int32) (t : Nat) : Nat := w.toBitVec.toNat / 2 ^ (8 * t) % 256
theorem fd_lt (w : Int32) (t : Nat) : fd_b w t < 256 := Nat.mod_lt _ (by decide)
theorem fd_u (w : Int32) {t : Nat} (ht : t < 4) : (w.toUInt32 >>> ((nI (8 * t)).toUInt32 &&& Int32.toUInt32 31)).toInt32 &&& nI 255 = nI (fd_b w t) := by
  rw [pk_and _ (m := nI 255) 8 (by decide), pk_ushr w (nI (8 * t)) (8 * t) (xi_su _ (by omega))]
  rfl
