/-! The reader: none after a fault, else the place and the limits of what is open, the innermost first -/
abbrev rd_S : Type := Option (Nat × List Nat)
def rd_lims (f : Nat → Nat) : Nat → List Nat
  | 0 => [f 0]
  | d + 1 => f (d + 1) :: rd_lims f d
def rd_of (M : xm_M) : rd_S := if M 1 4 = 1 then some (M 1 3, rd_lims (M 4) (M 1 2)) else none
/-- the reader's numbers are in their bounds -/
def rd_I (M : xm_M) : Prop := M 2 1 ≤ 160 ∧ (∀ j, j < 160 → M 3 j < 256) ∧ M 1 2 ≤ 10 ∧ M 1 3 ≤ M 2 1 ∧ M 1 4 ≤ 1 ∧ (∀ j, j ≤ M 1 2 → M 4 j ≤ M 2 1) ∧ (M 1 4 = 1 → M 1 3 ≤ M 4 (M 1 2) ∧ ∀ j, j < M 1 2 → M 4 (j + 1) ≤ M 4 j)
/-- only the reader's own cells are other ones -/
def rd_F (M M' : xm_M) : Prop := ∀ q, q ≠ 1 → q ≠ 4 → M' q = M q
theorem rd_F.rf (M : xm_M) : rd_F M M := fun _ _ _ => rfl
theorem rd_F.tr {A B C : xm_M} (h : rd_F A B) (g : rd_F B C) : rd_F A C := fun q h1 h2 => (g q h1 h2).trans (h q h1 h2)
def rd_open (b : Nat → Nat) (tag : Nat) : rd_S → rd_S
  | some (i, l :: ls) => if ls.length < 10 then (match ps_hd b tag i l with
    | some (f, e) => some (f, e :: l :: ls)
    | none => none) else none
  | _ => none
def rd_close : rd_S → rd_S
  | some (i, l :: m :: ls) => if i = l then some (i, m :: ls) else none
  | _ => none
def rd_rem : rd_S → Nat
  | some (i, l :: _) => l - i
  | _ => 0
def rd_is (b : Nat → Nat) (tag : Nat) : rd_S → Bool
  | some (i, l :: _) => decide (i < l) && decide (b i = tag)
  | _ => false
def rd_byte (b : Nat → Nat) : rd_S → Nat
  | some (i, l :: _) => if i < l then b i else 0
  | _ => 0
def rd_next : rd_S → rd_S
  | some (i, l :: ls) => if i < l then some (i + 1, l :: ls) else none
  | _ => none
theorem rd_lims_eq {f g : Nat → Nat} : ∀ d, (∀ j, j ≤ d → f j = g j) → rd_lims f d = rd_lims g d
  | 0, h => by simp [rd_lims, h]
  | d + 1, h => by simp [rd_lims, h, rd_lims_eq d (fun j hj => h j (by omega))]
theorem rd_lims_len (f : Nat → Nat) : ∀ d, (rd_lims f d).length = d + 1
  | 0 => rfl
  | d + 1 => by simp [rd_lims, rd_lims_len f d]
theorem rd_lims_hd (f : Nat → Nat) : ∀ d, ∃ ls, rd_lims f d = f d :: ls ∧ ls.length = d
  | 0 => ⟨[], rfl, rfl⟩
  | d + 1 => ⟨rd_lims f d, rfl, rd_lims_len f d⟩
def rd_end : rd_S → Bool
  | some (i, [l]) => decide (i = l)
  | _ => false
/-- what a step of the reader leaves -/
def rd_Q (M M' : xm_M) (s : rd_S) : Prop := rd_I M' ∧ rd_F M M' ∧ rd_of M' = s
theorem rd_of0 {M : xm_M} (h : M 1 4 = 0) : rd_of M = none := by simp [rd_of, h]
theorem rd_of1 {M : xm_M} (h : M 1 4 = 1) : ∃ ls, ls.length = M 1 2 ∧ rd_of M = some (M 1 3, M 4 (M 1 2) :: ls) ∧ rd_lims (M 4) (M 1 2) = M 4 (M 1 2) :: ls := by
  obtain ⟨ls, h1, h2⟩ := rd_lims_hd (M 4) (M 1 2)
  exact ⟨ls, h2, by simp [rd_of, h, h1], h1⟩
theorem rd_ref {M : xm_M} (h : rd_I M) : rd_Q M (xm_set M 1 4 0) none := by
  obtain ⟨h1, h2, h3, h4, h5, h6, h7⟩ := h
  exact ⟨⟨h1, h2, h3, h4, Nat.zero_le _, h6, fun h => absurd h (show ¬ 0 = 1 by decide)⟩, fun q a b => xm_oth a, rd_of0 rfl⟩
theorem rd_opN {M : xm_M} {tag : Nat} (hI : rd_I M) (h : M 1 4 = 0 ∨ 10 ≤ M 1 2 ∨ ps_hd (M 3) tag (M 1 3) (M 4 (M 1 2)) = none) : rd_Q M (xm_set M 1 4 0) (rd_open (M 3) tag (rd_of M)) := by
  have e : rd_open (M 3) tag (rd_of M) = none := by
    by_cases hs : M 1 4 = 1
    · obtain ⟨ls, hl, hr, -⟩ := rd_of1 hs
      rw [hr]
      unfold rd_open
      rcases h with h | h | h
      · omega
      · simp only []
        rw [if_neg (by omega)]
      · simp only []
        rw [h]
        split <;> rfl
    · have : M 1 4 = 0 := by
        have := hI.2.2.2.2.1
        omega
      rw [rd_of0 this]
      rfl
  rw [e]
  exact rd_ref hI
theorem rd_opY {M : xm_M} {tag f e : Nat} (hI : rd_I M) (hs : M 1 4 = 1) (hd : M 1 2 < 10) (h : ps_hd (M 3) tag (M 1 3) (M 4 (M 1 2)) = some (f, e)) : rd_Q M (xm_set (xm_set (xm_set M 1 3 f) 1 2 (M 1 2 + 1)) 4 (M 1 2 + 1) e) (rd_open (M 3) tag (rd_of M)) := by
  obtain ⟨g1, g2, g3, g4, -⟩ := ps_hd_some h
  obtain ⟨ls, hl, hr, hm⟩ := rd_of1 hs
  have e1 : rd_open (M 3) tag (rd_of M) = some (f, e :: M 4 (M 1 2) :: ls) := by
    rw [hr]
    unfold rd_open
    simp only []
    rw [if_pos (by omega), h]
  obtain ⟨h1, h2, h3, h4, h5, h6, h7⟩ := hI
  have h6' := h6 (M 1 2) (Nat.le_refl _)
  refine ⟨⟨h1, h2, show M 1 2 + 1 ≤ 10 by omega, show f ≤ M 2 1 by omega, h5, ?_, ?_⟩, ?_, ?_⟩
  · intro j hj
    have hj : j ≤ M 1 2 + 1 := hj
    show (if j = M 1 2 + 1 then e else M 4 j) ≤ M 2 1
    split
    · omega
    · exact h6 j (by omega)
  · intro _
    refine ⟨?_, fun j hj => ?_⟩
    · show f ≤ (if M 1 2 + 1 = M 1 2 + 1 then e else _)
      rw [if_pos rfl]
      exact g3
    · have hj : j < M 1 2 + 1 := hj
      show (if j + 1 = M 1 2 + 1 then e else M 4 (j + 1)) ≤ (if j = M 1 2 + 1 then e else M 4 j)
      rw [if_neg (show ¬ j = M 1 2 + 1 by omega)]
      split
      · rw [show j = M 1 2 by omega]
        exact g4
      · exact (h7 hs).2 j (by omega)
  · intro q a b
    rw [xm_oth b, xm_oth a, xm_oth a]
  · rw [e1]
    have : rd_lims ((xm_set (xm_set (xm_set M 1 3 f) 1 2 (M 1 2 + 1)) 4 (M 1 2 + 1) e) 4) (M 1 2 + 1) = e :: M 4 (M 1 2) :: ls := by
      unfold rd_lims
      rw [rd_lims_eq (f := (xm_set (xm_set (xm_set M 1 3 f) 1 2 (M 1 2 + 1)) 4 (M 1 2 + 1) e) 4) (g := M 4) (M 1 2) (fun j hj => (xm_nk (by omega)).trans ((xm_np (by decide)).trans (xm_np (by decide)))), hm]
      show (if M 1 2 + 1 = M 1 2 + 1 then e else _) :: _ = _
      rw [if_pos rfl]
    show (if M 1 4 = 1 then some (f, rd_lims ((xm_set (xm_set (xm_set M 1 3 f) 1 2 (M 1 2 + 1)) 4 (M 1 2 + 1) e) 4) (M 1 2 + 1)) else none) = _
    rw [if_pos hs, this]
theorem rd_clN {M : xm_M} (hI : rd_I M) (h : M 1 4 = 0 ∨ M 1 2 = 0 ∨ M 1 3 ≠ M 4 (M 1 2)) : rd_Q M (xm_set M 1 4 0) (rd_close (rd_of M)) := by
  have e : rd_close (rd_of M) = none := by
    by_cases hs : M 1 4 = 1
    · obtain ⟨ls, hl, hr, -⟩ := rd_of1 hs
      rw [hr]
      rcases h with h | h | h
      · omega
      · rw [h] at hl
        rw [List.eq_nil_of_length_eq_zero hl]
        rfl
      · cases ls with
        | nil => rfl
        | cons m ls =>
          unfold rd_close
          simp only []
          rw [if_neg h]
    · rw [rd_of0 (by have := hI.2.2.2.2.1; omega)]
      rfl
  rw [e]
  exact rd_ref hI
theorem rd_clY {M : xm_M} (hI : rd_I M) (hs : M 1 4 = 1) (hd : M 1 2 ≠ 0) (h : M 1 3 = M 4 (M 1 2)) : rd_Q M (xm_set M 1 2 (M 1 2 - 1)) (rd_close (rd_of M)) := by
  obtain ⟨d, hd⟩ : ∃ d, M 1 2 = d + 1 := ⟨M 1 2 - 1, by omega⟩
  have e1 : rd_of M = some (M 1 3, M 4 (d + 1) :: rd_lims (M 4) d) := by
    simp [rd_of, hs, hd, rd_lims]
  obtain ⟨ls, hm, hl⟩ := rd_lims_hd (M 4) d
  rw [hd] at h
  have e2 : rd_close (rd_of M) = some (M 1 3, rd_lims (M 4) d) := by
    rw [e1, hm]
    unfold rd_close
    simp only []
    rw [if_pos h]
  rw [e2, hd]
  obtain ⟨h1, h2, h3, h4, h5, h6, h7⟩ := hI
  refine ⟨⟨h1, h2, show d + 1 - 1 ≤ 10 by omega, h4, h5, fun j hj => h6 j ?_, fun _ => ?_⟩, fun q a b => xm_oth a, ?_⟩
  · have hj : j ≤ d + 1 - 1 := hj
    omega
  · have h8 := (h7 hs).2 d (by omega)
    refine ⟨?_, fun j hj => (h7 hs).2 j ?_⟩
    · show M 1 3 ≤ M 4 (d + 1 - 1)
      rw [Nat.add_sub_cancel]
      omega
    · have hj : j < d + 1 - 1 := hj
      omega
  · show (if M 1 4 = 1 then some (M 1 3, rd_lims (M 4) (d + 1 - 1)) else none) = _
    rw [if_pos hs]
    rfl
theorem rd_nxN {M : xm_M} (hI : rd_I M) (h : M 1 4 = 0 ∨ M 4 (M 1 2) ≤ M 1 3) : rd_Q M (xm_set M 1 4 0) (rd_next (rd_of M)) ∧ rd_byte (M 3) (rd_of M) = 0 := by
  by_cases hs : M 1 4 = 1
  · obtain ⟨ls, hl, hr, -⟩ := rd_of1 hs
    have h : M 4 (M 1 2) ≤ M 1 3 := by omega
    rw [hr]
    unfold rd_next rd_byte
    simp only []
    rw [if_neg (by omega), if_neg (by omega)]
    exact ⟨rd_ref hI, rfl⟩
  · rw [rd_of0 (by have := hI.2.2.2.2.1; omega)]
    exact ⟨rd_ref hI, rfl⟩
theorem rd_nxY {M : xm_M} (hI : rd_I M) (hs : M 1 4 = 1) (h : M 1 3 < M 4 (M 1 2)) : rd_Q M (xm_set M 1 3 (M 1 3 + 1)) (rd_next (rd_of M)) ∧ rd_byte (M 3) (rd_of M) = M 3 (M 1 3) := by
  obtain ⟨ls, hl, hr, hm⟩ := rd_of1 hs
  rw [hr]
  unfold rd_next rd_byte
  simp only []
  rw [if_pos h, if_pos h]
  obtain ⟨h1, h2, h3, h4, h5, h6, h7⟩ := hI
  have h6' := h6 (M 1 2) (Nat.le_refl _)
  refine ⟨⟨⟨h1, h2, h3, show M 1 3 + 1 ≤ M 2 1 by omega, h5, h6, fun _ => ⟨show M 1 3 + 1 ≤ M 4 (M 1 2) by omega, (h7 hs).2⟩⟩, fun q a b => xm_oth a, ?_⟩, rfl⟩
  show (if M 1 4 = 1 then some (M 1 3 + 1, rd_lims (M 4) (M 1 2)) else none) = _
  rw [if_pos hs, hm]
theorem rd_st {M : xm_M} (h1 : M 2 1 ≤ 160) (h2 : ∀ j, j < 160 → M 3 j < 256) : rd_Q M (xm_set (xm_set (xm_set (xm_set M 1 2 0) 4 0 (M 2 1)) 1 3 0) 1 4 1) (some (0, [M 2 1])) := by
  refine ⟨⟨h1, h2, Nat.zero_le _, Nat.zero_le _, Nat.le_refl _, fun j hj => ?_, fun _ => ⟨Nat.zero_le _, fun j hj => absurd hj (Nat.not_lt_zero _)⟩⟩, ?_, rfl⟩
  · have hj : j ≤ 0 := hj
    rw [show j = 0 by omega]
    exact Nat.le_refl _
  · intro q a b
    rw [xm_oth a, xm_oth a, xm_oth b, xm_oth a]
theorem rd_remE {M : xm_M} (hI : rd_I M) : rd_rem (rd_of M) = if M 1 4 = 0 then 0 else M 4 (M 1 2) - M 1 3 := by
  by_cases hs : M 1 4 = 1
  · obtain ⟨ls, hl, hr, hm⟩ := rd_of1 hs
    rw [hr, if_neg (by omega)]
    rfl
  · have h0 : M 1 4 = 0 := by have := hI.2.2.2.2.1; omega
    rw [rd_of0 h0, if_pos h0]
    rfl
theorem rd_isE {M : xm_M} (hI : rd_I M) (tag : Nat) : rd_is (M 3) tag (rd_of M) = (decide (M 1 4 = 1) && (decide (M 1 3 < M 4 (M 1 2)) && decide (M 3 (M 1 3) = tag))) := by
  by_cases hs : M 1 4 = 1
  · obtain ⟨ls, hl, hr, hm⟩ := rd_of1 hs
    rw [hr, hs]
    rfl
  · have h0 : M 1 4 = 0 := by have := hI.2.2.2.2.1; omega
    rw [rd_of0 h0, h0]
    rfl
theorem rd_endE {M : xm_M} (hI : rd_I M) : rd_end (rd_of M) = (decide (M 1 4 = 1) && (decide (M 1 2 = 0) && decide (M 1 3 = M 4 0))) := by
  by_cases hs : M 1 4 = 1
  · by_cases hd : M 1 2 = 0
    · simp [rd_of, hs, hd, rd_lims, rd_end]
    · obtain ⟨d, hd⟩ : ∃ d, M 1 2 = d + 1 := ⟨M 1 2 - 1, by omega⟩
      obtain ⟨ls, hm, hl⟩ := rd_lims_hd (M 4) d
      simp [rd_of, hs, hd, rd_lims, hm, rd_end]
  · have h0 : M 1 4 = 0 := by have := hI.2.2.2.2.1; omega
    rw [rd_of0 h0, h0]
    rfl
