/-! the shape of names, lists of names, extensions and certificates -/
def xk_nm (p : Nat) : Prop := xw_K p = (0, 3, 2) ∧ xw_K (p + 1) = (2, 1, 4) ∧ xw_lk p 0 = some (p + 1) ∧ 6 ≤ p ∧ p + 1 < 276
def xk_ex (p : Nat) : Prop := xw_K p = (0, 5, 4) ∧ xw_K (p + 1) = (1, 0, 20) ∧ xw_lk p 2 = some (p + 1) ∧ 6 ≤ p ∧ p + 1 < 276
def xk_nl (p : Nat) : Prop := xw_K p = (0, 4, 2) ∧ xw_K (p + 1) = (3, 3, 3) ∧ xw_lk p 0 = some (p + 1) ∧ (∀ k, k < 3 → xw_lk (p + 1) k = some (p + 2 + 2 * k) ∧ xk_nm (p + 2 + 2 * k)) ∧ 6 ≤ p ∧ p + 7 < 276
def xk_ct (c : Nat) : Prop := xw_K c = (0, 6, 16) ∧ (xw_lk c 1 = some (c + 1) ∧ xk_nm (c + 1)) ∧ (xw_lk c 4 = some (c + 3) ∧ xk_nm (c + 3)) ∧ (xw_lk c 9 = some (c + 5) ∧ xw_K (c + 5) = (3, 4, 4) ∧ ∀ k, k < 4 → xw_lk (c + 5) k = some (c + 6 + 2 * k) ∧ xk_ex (c + 6 + 2 * k)) ∧ (xw_lk c 14 = some (c + 14) ∧ xk_nl (c + 14)) ∧ (xw_lk c 15 = some (c + 22) ∧ xk_nl (c + 22)) ∧ 6 ≤ c ∧ c + 29 < 276
theorem xk_K {i j : Nat} (hi : i < 9) (hj : j < 30) : xw_K (6 + 30 * i + j) = xw_Kc j := by
  unfold xw_K
  rw [if_neg (by omega), if_pos (by omega), show (6 + 30 * i + j - 6) % 30 = j by omega]
theorem xk_lk {i j : Nat} (hi : i < 9) (hj : j < 30) (k : Nat) : xw_lk (6 + 30 * i + j) k = xw_lc (6 + 30 * i + j) j k := by
  unfold xw_lk
  rw [if_neg (by omega), if_pos (by omega), show (6 + 30 * i + j - 6) % 30 = j by omega]
theorem xk_nm' {i j : Nat} (hi : i < 9) (hj : j + 1 < 30) (h1 : xw_Kc j = (0, 3, 2)) (h2 : xw_Kc (j + 1) = (2, 1, 4)) (h3 : ∀ q, xw_lc q j 0 = some (q + 1)) : xk_nm (6 + 30 * i + j) :=
  ⟨(xk_K hi (by omega)).trans h1, (xk_K (j := j + 1) hi hj).trans h2, (xk_lk hi (by omega) 0).trans (h3 _), by omega, by omega⟩
theorem xk_ex' {i j : Nat} (hi : i < 9) (hj : j + 1 < 30) (h1 : xw_Kc j = (0, 5, 4)) (h2 : xw_Kc (j + 1) = (1, 0, 20)) (h3 : ∀ q, xw_lc q j 2 = some (q + 1)) : xk_ex (6 + 30 * i + j) :=
  ⟨(xk_K hi (by omega)).trans h1, (xk_K (j := j + 1) hi hj).trans h2, (xk_lk hi (by omega) 2).trans (h3 _), by omega, by omega⟩
theorem xk_nl' {i j : Nat} (hi : i < 9) (hj : j + 7 < 30) (h1 : xw_Kc j = (0, 4, 2)) (h2 : xw_Kc (j + 1) = (3, 3, 3)) (h3 : ∀ q, xw_lc q j 0 = some (q + 1)) (h4 : ∀ q k, k < 3 → xw_lc q (j + 1) k = some (q + 1 + 2 * k))
    (h5 : ∀ k, k < 3 → xw_Kc (j + 2 + 2 * k) = (0, 3, 2) ∧ xw_Kc (j + 2 + 2 * k + 1) = (2, 1, 4) ∧ ∀ q, xw_lc q (j + 2 + 2 * k) 0 = some (q + 1)) : xk_nl (6 + 30 * i + j) := by
  refine ⟨(xk_K hi (by omega)).trans h1, (xk_K (j := j + 1) hi (by omega)).trans h2, (xk_lk hi (by omega) 0).trans (h3 _), fun k hk => ⟨?_, ?_⟩, by omega, by omega⟩
  · rw [show 6 + 30 * i + j + 1 = 6 + 30 * i + (j + 1) by omega, xk_lk hi (by omega), h4 _ _ hk]
    congr 1
  · obtain ⟨a, b, c⟩ := h5 k hk
    have := xk_nm' (i := i) (j := j + 2 + 2 * k) hi (by omega) a b c
    rw [show 6 + 30 * i + j + 2 + 2 * k = 6 + 30 * i + (j + 2 + 2 * k) by omega]
    exact this
theorem xk_k3 {P : Nat → Prop} (h0 : P 0) (h1 : P 1) (h2 : P 2) : ∀ k, k < 3 → P k := by
  intro k hk
  rcases (show k = 0 ∨ k = 1 ∨ k = 2 by omega) with rfl | rfl | rfl
  · exact h0
  · exact h1
  · exact h2
theorem xk_cert {i : Nat} (hi : i < 9) : xk_ct (6 + 30 * i) := by
  refine ⟨xk_K (j := 0) hi (by decide), ⟨xk_lk (j := 0) hi (by decide) 1, xk_nm' (j := 1) hi (by decide) rfl rfl (fun _ => rfl)⟩, ⟨xk_lk (j := 0) hi (by decide) 4, xk_nm' (j := 3) hi (by decide) rfl rfl (fun _ => rfl)⟩, ⟨xk_lk (j := 0) hi (by decide) 9, xk_K (j := 5) hi (by decide), fun k hk => ⟨?_, ?_⟩⟩, ⟨xk_lk (j := 0) hi (by decide) 14, ?_⟩, ⟨xk_lk (j := 0) hi (by decide) 15, ?_⟩, by omega, by omega⟩
  · rw [xk_lk (j := 5) hi (by decide) k]
    show (if k < 4 then some (6 + 30 * i + 5 + 1 + 2 * k) else none) = _
    rw [if_pos hk]
  · rcases (show k = 0 ∨ k = 1 ∨ k = 2 ∨ k = 3 by omega) with rfl | rfl | rfl | rfl
    · exact xk_ex' (j := 6) hi (by decide) rfl rfl (fun _ => rfl)
    · exact xk_ex' (j := 8) hi (by decide) rfl rfl (fun _ => rfl)
    · exact xk_ex' (j := 10) hi (by decide) rfl rfl (fun _ => rfl)
    · exact xk_ex' (j := 12) hi (by decide) rfl rfl (fun _ => rfl)
  · refine xk_nl' (j := 14) hi (by decide) rfl rfl (fun _ => rfl) (fun q k hk => ?_) (xk_k3 ⟨rfl, rfl, fun _ => rfl⟩ ⟨rfl, rfl, fun _ => rfl⟩ ⟨rfl, rfl, fun _ => rfl⟩)
    show (if k < 3 then some (q + 1 + 2 * k) else none) = _
    rw [if_pos hk]
  · refine xk_nl' (j := 22) hi (by decide) rfl rfl (fun _ => rfl) (fun q k hk => ?_) (xk_k3 ⟨rfl, rfl, fun _ => rfl⟩ ⟨rfl, rfl, fun _ => rfl⟩ ⟨rfl, rfl, fun _ => rfl⟩)
    show (if k < 3 then some (q + 1 + 2 * k) else none) = _
    rw [if_pos hk]
theorem xk_N {p : Nat} (h : p < 276) : p < xw_N := Nat.lt_trans h (by decide)
/-- the reader does not see what is written elsewhere -/
theorem rd_I.cg {M M' : xm_M} (h : ∀ q, q < 6 → M' q = M q) (hI : rd_I M) : rd_I M' := by
  unfold rd_I at *
  rw [h 1 (by decide), h 2 (by decide), h 3 (by decide), h 4 (by decide)]
  exact hI
theorem rd_of_cg {M M' : xm_M} (h : ∀ q, q < 6 → M' q = M q) : rd_of M' = rd_of M := by
  unfold rd_of
  rw [h 1 (by decide), h 4 (by decide)]
theorem rd_at_le {M : xm_M} {i l : Nat} {ls : List Nat} (hI : rd_I M) (h : rd_of M = some (i, l :: ls)) : i ≤ l ∧ l ≤ M 2 1 := by
  by_cases hs : M 1 4 = 1
  · obtain ⟨ls', hl, hr, hm⟩ := rd_of1 hs
    rw [hr] at h
    simp only [Option.some.injEq, Prod.mk.injEq, List.cons.injEq] at h
    have h7 := (hI.2.2.2.2.2.2 hs).1
    have h6 := hI.2.2.2.2.2.1 (M 1 2) (Nat.le_refl _)
    omega
  · rw [rd_of0 (by have := hI.2.2.2.2.1; omega)] at h
    cases h
/-- how deep the reader may still go -/
def rd_D (k : Nat) (s : rd_S) : Prop := ∀ i l ls, s = some (i, l :: ls) → ls.length + k ≤ 10
/-- a part of the encoding, where the reader stands -/
def rd_run {α : Type} (P : Nat → Nat → Option (α × Nat)) : rd_S → Option (α × Nat × List Nat)
  | some (i, l :: ls) => match P i l with
    | some (v, j) => some (v, j, l :: ls)
    | none => none
  | _ => none
