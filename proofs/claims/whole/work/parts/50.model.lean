/-! the reference: its reader is a place, or wrong -/
def md_s (M : xm_M) : Option Nat := if M 277 7 = 0 then some (M 277 6) else none
def md_I (M : xm_M) : Prop := M 277 6 ≤ 1443 ∧ M 277 7 ≤ 1 ∧ ∀ j, j < 1440 → M 278 j < 256
def md_F (M M' : xm_M) : Prop := (∀ q, q ≠ 277 → M' q = M q) ∧ ∀ j, j ≠ 6 → j ≠ 7 → M' 277 j = M 277 j
theorem md_F.rf (M : xm_M) : md_F M M := ⟨fun _ _ => rfl, fun _ _ _ => rfl⟩
theorem md_F.tr {A B C : xm_M} (h : md_F A B) (g : md_F B C) : md_F A C := ⟨fun q a => (g.1 q a).trans (h.1 q a), fun j a b => (g.2 j a b).trans (h.2 j a b)⟩
theorem md_s0 {M : xm_M} (h : M 277 7 = 0) : md_s M = some (M 277 6) := if_pos h
theorem md_s1 {M : xm_M} (h : M 277 7 ≠ 0) : md_s M = none := if_neg h
def mo_hd (b : Nat → Nat) (tag l : Nat) : Option Nat → Option (Nat × Nat)
  | some i => ps_hd b tag i l
  | none => none
def mo_run {α : Type} (P : Nat → Nat → Option (α × Nat)) (l : Nat) : Option Nat → Option (α × Nat)
  | some i => P i l
  | none => none
def mo_ok {α : Type} (X : Option (α × Nat)) (s : Option Nat) (V : α → Prop) : Prop := (s = none ∧ X = none) ∨ ∃ x j, X = some (x, j) ∧ s = some j ∧ V x
/-- byte t of w, by the other shift -/
theorem fd_sh : ∀ n, n < 32 → ((nI n &&& 31).toBitVec.smod 32).toNat = n := by decide +kernel
theorem fd_s (w : Int32) {t : Nat} (ht : t < 4) : (w >>> (nI (8 * t) &&& 31)) &&& nI 255 = nI (fd_b w t) := by
  rw [pk_and _ (m := nI 255) 8 (by decide)]
  have h1 := pk_shr w (nI (8 * t) &&& 31) (8 * t) (fd_sh _ (by omega))
  obtain ⟨x, hx⟩ : ∃ x, w >>> (nI (8 * t) &&& 31) = x := ⟨_, rfl⟩
  rw [hx] at h1 ⊢
  unfold fd_b
  congr 1
  have ex : x.toInt = if 2 * x.toBitVec.toNat < 2 ^ 32 then (x.toBitVec.toNat : Int) else (x.toBitVec.toNat : Int) - (2 ^ 32 : Nat) := BitVec.toInt_eq_toNat_cond _
  have ew : w.toInt = if 2 * w.toBitVec.toNat < 2 ^ 32 then (w.toBitVec.toNat : Int) else (w.toBitVec.toNat : Int) - (2 ^ 32 : Nat) := BitVec.toInt_eq_toNat_cond _
  have lx := x.toBitVec.isLt
  have lw := w.toBitVec.isLt
  rw [Int.shiftRight_eq_div_pow] at h1
  rcases (show t = 0 ∨ t = 1 ∨ t = 2 ∨ t = 3 by omega) with rfl | rfl | rfl | rfl <;> simp at h1 ⊢ <;> split at ex <;> split at ew <;> omega
