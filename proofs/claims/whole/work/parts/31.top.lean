/-! numbers from outside -/
theorem xi_of {x : Int32} (h : 0 ≤ x.toInt) : ∃ j : Nat, j < 2147483648 ∧ x = nI j := by
  obtain ⟨j, hj, e⟩ := nI_of (x := x) (fun z => by have := Int32.lt_iff_toInt_lt.mp z; have h0 : (0 : Int32).toInt = 0 := rfl; omega)
  exact ⟨j, hj, e⟩
theorem xi_sub1 (m : Nat) : nI m - nI 1 = xi_pred m := by
  cases m with
  | zero => decide
  | succ m => exact pk_sub (Nat.le_add_left 1 m)
/-- byte t of w -/
def fd_b (w : Int32) (t : Nat) : Nat := w.toBitVec.toNat / 2 ^ (8 * t) % 256
theorem fd_lt (w : Int32) (t : Nat) : fd_b w t < 256 := Nat.mod_lt _ (by decide)
theorem fd_u (w : Int32) {t : Nat} (ht : t < 4) : (w.toUInt32 >>> ((nI (8 * t)).toUInt32 &&& Int32.toUInt32 31)).toInt32 &&& nI 255 = nI (fd_b w t) := by
  rw [pk_and _ (m := nI 255) 8 (by decide), pk_ushr w (nI (8 * t)) (8 * t) (xi_su _ (by omega))]
  rfl
theorem xk_l5 {k : Nat} (h : k < 9) : xw_lk 5 k = some (6 + 30 * k) := if_pos h
/-- the fields by number -/
def fl_v (M : xm_M) (c : Nat) : Nat → Nat
  | 0 => M c 0
  | 1 => M c 2
  | 2 => M c 3
  | 3 => M c 5
  | 4 => M c 6
  | 5 => M c 7
  | 6 => M c 8
  | 7 => if M c 11 = 0 then 0 else 1
  | 8 => M c 12
  | 9 => M c 13
  | 10 => M c 10
  | 11 => M (c + 14) 1
  | 12 => M (c + 22) 1
  | 13 => M (c + 1) 1
  | 14 => M (c + 3) 1
  | _ => 4294967295
