/-! INTEGER and TRUE, as the reader reads them -/
theorem rd_Q.tr {A B C : xm_M} {s t : rd_S} (h : rd_Q A B s) (g : rd_Q B C t) : rd_Q A C t := ⟨g.1, h.2.1.tr g.2.1, g.2.2⟩
theorem rd_openI {b : Nat → Nat} {tag f : Nat} {st : rd_S} {L : List Nat} (h : rd_open b tag st = some (f, L)) : ∃ i e l ls, st = some (i, l :: ls) ∧ ls.length < 10 ∧ ps_hd b tag i l = some (f, e) ∧ L = e :: l :: ls := by
  rcases st with _ | ⟨i, _ | ⟨l, ls⟩⟩
  · cases h
  · cases h
  · unfold rd_open at h
    simp only [] at h
    split at h
    · rename_i hl
      split at h
      · rename_i f' e' hh
        simp only [Option.some.injEq, Prod.mk.injEq] at h
        obtain ⟨rfl, rfl⟩ := h
        exact ⟨i, e', l, ls, rfl, hl, hh, rfl⟩
      · cases h
    · cases h
theorem rd_remP {st : rd_S} (h : 1 ≤ rd_rem st) : ∃ f e ls, st = some (f, e :: ls) ∧ rd_rem st = e - f := by
  rcases st with _ | ⟨i, _ | ⟨l, ls⟩⟩
  · exact absurd h (by simp [rd_rem])
  · exact absurd h (by simp [rd_rem])
  · exact ⟨i, l, ls, rfl, rfl⟩
theorem rd_rem_le {M : xm_M} (hI : rd_I M) : rd_rem (rd_of M) ≤ 160 := by
  rw [rd_remE hI]
  have h1 := hI.1
  have h6 := hI.2.2.2.2.2.1 (M 1 2) (Nat.le_refl _)
  split <;> omega
theorem rd_byte_lt {M : xm_M} (hI : rd_I M) : rd_byte (M 3) (rd_of M) < 256 := by
  by_cases hs : M 1 4 = 1
  · obtain ⟨ls, hl, hr, hm⟩ := rd_of1 hs
    rw [hr]
    unfold rd_byte
    simp only []
    have h6 := hI.2.2.2.2.2.1 (M 1 2) (Nat.le_refl _)
    have h1 := hI.1
    split
    · exact hI.2.1 _ (by omega)
    · decide
  · rw [rd_of0 (by have := hI.2.2.2.2.1; omega)]
    exact (show 0 < 256 by decide)
def rd_int (b : Nat → Nat) (lo hi : Nat) : rd_S → rd_S × Nat
  | some (i, l :: ls) => if ls.length < 10 then (match ps_int b i l with
    | some (v, j) => if lo ≤ v ∧ v ≤ hi then (some (j, l :: ls), v) else (none, lo)
    | none => (none, lo)) else (none, lo)
  | _ => (none, lo)
theorem rd_intA {b : Nat → Nat} {lo hi : Nat} {st : rd_S} (h : ¬ (1 ≤ rd_rem (rd_open b 2 st) ∧ rd_rem (rd_open b 2 st) ≤ 4)) : rd_int b lo hi st = (none, lo) := by
  rcases st with _ | ⟨i, _ | ⟨l, ls⟩⟩
  · rfl
  · rfl
  · unfold rd_open at h
    unfold rd_int ps_int
    simp only [] at h ⊢
    by_cases hl : ls.length < 10
    · rw [if_pos hl] at h ⊢
      cases hh : ps_hd b 2 i l with
      | none => rfl
      | some p =>
        obtain ⟨f, e⟩ := p
        rw [hh] at h
        simp only [rd_rem] at h
        simp only []
        rw [if_neg (fun z => h ⟨z.1, z.2.1⟩)]
    · rw [if_neg hl]
theorem rd_intB {b : Nat → Nat} {lo hi f e : Nat} {ls : List Nat} {st : rd_S} (h : rd_open b 2 st = some (f, e :: ls)) (hn : 1 ≤ e - f ∧ e - f ≤ 4) : rd_int b lo hi st = if b f ≤ 127 ∧ ¬ (1 < e - f ∧ b f = 0 ∧ b (f + 1) < 128) ∧ lo ≤ ps_be b f (e - f) ∧ ps_be b f (e - f) ≤ hi then (some (e, ls), ps_be b f (e - f)) else (none, lo) := by
  obtain ⟨i, e', l, ls', rfl, hl, hh, he⟩ := rd_openI h
  simp only [List.cons.injEq] at he
  obtain ⟨rfl, rfl⟩ := he
  unfold rd_int ps_int
  simp only [hh]
  rw [if_pos hl]
  by_cases h1 : b f ≤ 127 ∧ ¬ (1 < e - f ∧ b f = 0 ∧ b (f + 1) < 128)
  · rw [if_pos ⟨hn.1, hn.2, h1.1, h1.2⟩]
    simp only []
    by_cases h2 : lo ≤ ps_be b f (e - f) ∧ ps_be b f (e - f) ≤ hi
    · rw [if_pos h2, if_pos ⟨h1.1, h1.2, h2.1, h2.2⟩]
    · rw [if_neg h2, if_neg (fun z => h2 z.2.2)]
  · rw [if_neg (fun z => h1 ⟨z.2.2.1, z.2.2.2⟩), if_neg (fun z => h1 ⟨z.1, z.2.1⟩)]
/-- the reader within an INTEGER, j + 1 bytes being read -/
def rd_ib (b : Nat → Nat) (f e : Nat) (ls : List Nat) (j : Nat) : rd_S := if 1 ≤ j ∧ b f = 0 ∧ b (f + 1) < 128 then none else some (f + (j + 1), e :: ls)
theorem rd_ib_next {b : Nat → Nat} {f e j : Nat} {ls : List Nat} (hj : j + 1 < e - f) (h : 1 ≤ j ∨ b f ≠ 0 ∨ 128 ≤ b (f + 1)) : rd_next (rd_ib b f e ls j) = rd_ib b f e ls (j + 1) := by
  unfold rd_ib
  by_cases c : 1 ≤ j ∧ b f = 0 ∧ b (f + 1) < 128
  · rw [if_pos c, if_pos ⟨by omega, c.2⟩]
    rfl
  · rw [if_neg c, if_neg (by omega)]
    unfold rd_next
    simp only []
    rw [if_pos (by omega)]
    rfl
theorem rd_ib_byte {b : Nat → Nat} {f e j : Nat} {ls : List Nat} (hj : j + 1 < e - f) (h : ¬ (1 ≤ j ∧ b f = 0 ∧ b (f + 1) < 128)) : rd_byte b (rd_ib b f e ls j) = b (f + (j + 1)) := by
  unfold rd_ib
  rw [if_neg h]
  unfold rd_byte
  simp only []
  rw [if_pos (by omega)]
theorem rd_ib_close {b : Nat → Nat} {f e j : Nat} {m : Nat} {ls : List Nat} (hj : j + 1 = e - f) : rd_close (rd_ib b f e (m :: ls) j) = if 1 < e - f ∧ b f = 0 ∧ b (f + 1) < 128 then none else some (e, m :: ls) := by
  unfold rd_ib
  by_cases c : 1 ≤ j ∧ b f = 0 ∧ b (f + 1) < 128
  · rw [if_pos c, if_pos ⟨by omega, c.2⟩]
    rfl
  · rw [if_neg c, if_neg (by omega)]
    unfold rd_close
    simp only []
    rw [if_pos (by omega)]
    simp only [Option.some.injEq, Prod.mk.injEq, and_true]
    omega
theorem rd_pow4 {x v j : Nat} (hx : x ≤ 127) (hj : j ≤ 3) (h : v < (x + 1) * 256 ^ j) : v < 2147483648 := by
  rcases (show j = 0 ∨ j = 1 ∨ j = 2 ∨ j = 3 by omega) with rfl | rfl | rfl | rfl <;> simp at h <;> omega
def rd_tru (b : Nat → Nat) : rd_S → rd_S × Bool
  | some (i, l :: ls) => if i < l ∧ b i = 1 then (if ls.length < 10 then (match ps_tru b i l with
    | some (t, j) => (some (j, l :: ls), t)
    | none => (none, true)) else (none, true)) else (some (i, l :: ls), false)
  | st => (st, false)
theorem rd_isP {b : Nat → Nat} {tag : Nat} {st : rd_S} (h : rd_is b tag st = true) : ∃ i l ls, st = some (i, l :: ls) ∧ i < l ∧ b i = tag := by
  rcases st with _ | ⟨i, _ | ⟨l, ls⟩⟩
  · cases h
  · cases h
  · simp only [rd_is, Bool.and_eq_true, decide_eq_true_eq] at h
    exact ⟨i, l, ls, rfl, h.1, h.2⟩
theorem rd_truF {b : Nat → Nat} {st : rd_S} (h : rd_is b 1 st = false) : rd_tru b st = (st, false) := by
  rcases st with _ | ⟨i, _ | ⟨l, ls⟩⟩
  · rfl
  · rfl
  · simp only [rd_is] at h
    unfold rd_tru
    simp only []
    rw [if_neg]
    intro z
    simp [z.1, z.2] at h
theorem rd_truT {b : Nat → Nat} {st : rd_S} (h : rd_is b 1 st = true) : (rd_tru b st).1 = rd_close (if rd_byte b (rd_open b 1 st) = 255 then rd_next (rd_open b 1 st) else none) := by
  obtain ⟨i, l, ls, rfl, h1, h2⟩ := rd_isP h
  have hc : i < l ∧ b i = 1 := ⟨h1, h2⟩
  by_cases hl : ls.length < 10
  · cases hh : ps_hd b 1 i l with
    | none =>
      have ho : rd_open b 1 (some (i, l :: ls)) = none := by unfold rd_open; simp only [if_pos hl, hh]
      have ht : (rd_tru b (some (i, l :: ls))).1 = none := by unfold rd_tru ps_tru; simp only [if_pos hc, if_pos hl, hh]
      rw [ho, ht]
      rfl
    | some p =>
      obtain ⟨f, e⟩ := p
      obtain ⟨g1, g2, g3, g4, -⟩ := ps_hd_some hh
      have ho : rd_open b 1 (some (i, l :: ls)) = some (f, e :: l :: ls) := by unfold rd_open; simp only [if_pos hl, hh]
      have ht : (rd_tru b (some (i, l :: ls))).1 = if e = f + 1 ∧ b f = 255 then some (e, l :: ls) else none := by
        unfold rd_tru ps_tru
        simp only [if_pos hc, if_pos hl, hh]
        split
        · rename_i h9
          split at h9
          · rename_i h8
            rw [if_pos h8]
            simp only [Option.some.injEq, Prod.mk.injEq] at h9
            rw [h9.2]
          · cases h9
        · rename_i h9
          split at h9
          · cases h9
          · rename_i h8
            rw [if_neg h8]
      rw [ho, ht]
      by_cases hfe : f < e
      · have hb : rd_byte b (some (f, e :: l :: ls)) = b f := if_pos hfe
        have hx : rd_next (some (f, e :: l :: ls)) = some (f + 1, e :: l :: ls) := if_pos hfe
        rw [hb, hx]
        by_cases hb : b f = 255
        · rw [if_pos hb]
          unfold rd_close
          simp only []
          by_cases hx : f + 1 = e
          · rw [if_pos hx, if_pos ⟨hx.symm, hb⟩, hx]
          · rw [if_neg hx, if_neg (fun z => hx z.1.symm)]
        · rw [if_neg hb, if_neg (fun z => hb z.2)]
          rfl
      · have hb : rd_byte b (some (f, e :: l :: ls)) = 0 := if_neg hfe
        rw [hb, if_neg (show ¬ (e = f + 1 ∧ b f = 255) by omega), if_neg (show ¬ (0 = 255) by decide)]
        rfl
  · have ho : rd_open b 1 (some (i, l :: ls)) = none := by unfold rd_open; simp only [if_neg hl]
    have ht : (rd_tru b (some (i, l :: ls))).1 = none := by unfold rd_tru; simp only [if_pos hc, if_neg hl]
    rw [ho, ht]
    rfl
