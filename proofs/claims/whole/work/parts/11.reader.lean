/-! The reader: none after a fault, else the place and the limits of what is open, the innermost first -/
abbrev rd_S : Type := Option (Nat × List Nat)
def rd_lims (f : Nat → Nat) : Nat → List Nat
  | 0 => [f 0]
  | d + 1 => f (d + 1) :: rd_lims f d
def rd_of (M : xm_M) : rd_S := if M 1 4 = 1 then some (M 1 3, rd_lims (M 4) (M 1 2)) else none
/-- the reader's numbers are in their bounds -/
def rd_I (M : xm_M) : Prop := M 2 1 ≤ 160 ∧ (∀ j, j < 160 → M 3 j < 256) ∧ M 1 2 ≤ 10 ∧ M 1 3 ≤ M 2 1 ∧ M 1 4 ≤ 1 ∧ (∀ j, j ≤ M 1 2 → M 4 j ≤ M 2 1) ∧ (M 1 4 = 1 → M 1 3 ≤ M 4 (M 1 2))
/-- only the reader's own cells are other ones -/
def rd_F (M M' : xm_M) : Prop := ∀ q, q ≠ 1 → q ≠ 4 → M' q = M q
theorem rd_F.rf (M : xm_M) : rd_F M M := fun _ _ _ => rfl
theorem rd_F.tr {A B C : xm_M} (h : rd_F A B) (g : rd_F B C) : rd_F A C := fun q h1 h2 => (g q h1 h2).trans (h q h1 h2)
def rd_open (b : Nat → Nat) (tag : Nat) : rd_S → rd_S
  | some (i, l :: ls) => if ls.length < 10 then (match ps_hd b tag i l with
    | some (f, e) => some (f, e :: l :: ls)
    | none => none) else none
  | _ => none
def rd_close : rd_S → rd_S
  | some (i, l :: m :: ls) => if i = l then some (i, m :: ls) else none
  | _ => none
def rd_rem : rd_S → Nat
  | some (i, l :: _) => l - i
  | _ => 0
def rd_is (b : Nat → Nat) (tag : Nat) : rd_S → Bool
  | some (i, l :: _) => decide (i < l) && decide (b i = tag)
  | _ => false
def rd_byte (b : Nat → Nat) : rd_S → Nat
  | some (i, l :: _) => if i < l then b i else 0
  | _ => 0
def rd_next : rd_S → rd_S
  | some (i, l :: ls) => if i < l then some (i + 1, l :: ls) else none
  | _ => none
theorem rd_lims_eq {f g : Nat → Nat} : ∀ d, (∀ j, j ≤ d → f j = g j) → rd_lims f d = rd_lims g d
  | 0, h => by simp [rd_lims, h]
  | d + 1, h => by simp [rd_lims, h, rd_lims_eq d (fun j hj => h j (by omega))]
theorem rd_lims_len (f : Nat → Nat) : ∀ d, (rd_lims f d).length = d + 1
  | 0 => rfl
  | d + 1 => by simp [rd_lims, rd_lims_len f d]
theorem rd_lims_hd (f : Nat → Nat) : ∀ d, ∃ ls, rd_lims f d = f d :: ls ∧ ls.length = d
  | 0 => ⟨[], rfl, rfl⟩
  | d + 1 => ⟨rd_lims f d, rfl, rd_lims_len f d⟩
