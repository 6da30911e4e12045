/-! the shapes that constructors make -/
theorem xn_lk_ob {q ci n : Nat} (h : xw_K q = (0, ci, n)) : xn_lk q = xw_lk q := if_pos (Or.inl (by rw [h]))
theorem xn_lk_ar {q t n : Nat} (h : xw_K q = (3, t, n)) : xn_lk q = xw_lk q := if_pos (Or.inr (by rw [h]))
theorem xn_lk_i {q t n : Nat} (h : xw_K q = (1, t, n)) : xn_lk q = fun _ => none := if_neg (by rw [h]; simp)
theorem xn_lk_l {q t n : Nat} (h : xw_K q = (2, t, n)) : xn_lk q = fun _ => none := if_neg (by rw [h]; simp)
theorem xn_end {Y : xw_Y} {M : xm_M} {N : Nat} : xw_ws Y xn_lk M N = xw_ws Y xw_lk M N := by
  unfold xw_ws
  apply List.map_congr_left
  intro q _
  congr 1
  unfold xw_cell
  by_cases h : (xw_K q).1 = 0 ∨ (xw_K q).1 = 3
  · rw [show xn_lk q = xw_lk q from if_pos h]
  · rcases hK : xw_K q with ⟨t, c, n⟩
    rw [hK] at h
    rcases t with _ | _ | _ | _ | t
    · exact absurd (Or.inl rfl) h
    · rfl
    · rfl
    · exact absurd (Or.inr rfl) h
    · exfalso
      revert hK
      unfold xw_K
      (repeat' split) <;> (try unfold xw_Kc) <;> (repeat' split) <;> simp
def xs_in (b N : Nat) : Prop := ∀ z, b ≤ z → z < N → ∀ k t, xn_lk z k = some t → t < N
theorem xs_in.app {a b c : Nat} (h : xs_in a b) (g : xs_in b c) (hbc : b ≤ c) : xs_in a c := by
  intro z h1 h2 k t ht
  by_cases hz : z < b
  · exact Nat.lt_of_lt_of_le (h z h1 hz k t ht) hbc
  · exact g z (by omega) h2 k t ht
theorem xn_cl_b {lk : xl_L} {b : Nat} (h : xn_cl lk b) (g : lk b = fun _ => none) : xn_cl lk (b + 1) := by
  intro q hq k z hz
  by_cases e : q = b
  · rw [e, g] at hz; cases hz
  · have := h q (by omega) k z hz; omega
theorem xn_cl_l0 {lk : xl_L} {N : Nat} (h : xn_cl lk N) : xn_cl (xn_l lk N) N := by
  intro q hq k z hz
  rw [xn_l_ne (by omega)] at hz
  exact h q hq k z hz
theorem xn_cl_l {lk : xl_L} {N : Nat} (h : xn_cl lk N) : xn_cl (xn_l lk N) (N + 1) := xn_cl_b (xn_cl_l0 h) xn_l_eq
theorem xn_cl_s {lk : xl_L} {N q k v : Nat} (h : xn_cl lk N) (hv : v < N) : xn_cl (xl_set lk q k (some v)) N := by
  intro z hz j t ht
  unfold xl_set at ht
  split at ht
  · split at ht
    · cases ht; exact hv
    · exact h z hz j t ht
  · exact h z hz j t ht
theorem xn_cl_f {lk : xl_L} {b N : Nat} (h : xn_cl lk b) (hb : b ≤ N) (g : xs_in b N) : xn_cl (xn_fl lk b) N := by
  intro q hq k z hz
  by_cases e : q < b
  · rw [xn_fl_lt e] at hz
    exact Nat.lt_of_lt_of_le (h q e k z hz) hb
  · rw [xn_fl_ge (by omega)] at hz
    exact g q (by omega) hq k z hz
/-- an object with one array of no references -/
def xs_p (b ci n k : Nat) (A : Nat × Nat × Nat) : Prop := xw_K b = (0, ci, n) ∧ xw_K (b + 1) = A ∧ xn_lk b = (fun j => if j = k then some (b + 1) else none) ∧ xn_lk (b + 1) = fun _ => none
abbrev xs_nm (b : Nat) : Prop := xs_p b 3 2 0 (2, 1, 4)
abbrev xs_ex (b : Nat) : Prop := xs_p b 5 4 2 (1, 0, 20)
def xs_nl (p : Nat) : Prop := xw_K p = (0, 4, 2) ∧ xw_K (p + 1) = (3, 3, 3) ∧ xn_lk p = (fun j => if j = 0 then some (p + 1) else none) ∧ xn_lk (p + 1) = (fun k => if k < 3 then some (p + 2 + 2 * k) else none) ∧ ∀ k, k < 3 → xs_nm (p + 2 + 2 * k)
def xs_ct (c : Nat) : Prop := xw_K c = (0, 6, 16) ∧ xn_lk c = (fun k => if k = 1 then some (c + 1) else if k = 4 then some (c + 3) else if k = 9 then some (c + 5) else if k = 14 then some (c + 14) else if k = 15 then some (c + 22) else none) ∧ xs_nm (c + 1) ∧ xs_nm (c + 3) ∧ xw_K (c + 5) = (3, 4, 4) ∧ xn_lk (c + 5) = (fun k => if k < 4 then some (c + 6 + 2 * k) else none) ∧ (∀ k, k < 4 → xs_ex (c + 6 + 2 * k)) ∧ xs_nl (c + 14) ∧ xs_nl (c + 22)
theorem xs_p.in {b ci n k : Nat} {A : Nat × Nat × Nat} (h : xs_p b ci n k A) : xs_in b (b + 2) := by
  intro z h1 h2 j t ht
  rcases (show z = b ∨ z = b + 1 by omega) with rfl | rfl
  · rw [h.2.2.1] at ht
    dsimp only at ht
    split at ht
    · cases ht; omega
    · cases ht
  · rw [h.2.2.2] at ht
    cases ht
theorem xs_in0 (b : Nat) : xs_in b b := fun z h1 h2 => absurd h1 (by omega)
theorem xs_nl.in1 {p : Nat} (h : xs_nl p) : ∀ j, j ≤ 3 → xs_in (p + 2) (p + 2 + 2 * j)
  | 0, _ => xs_in0 _
  | j + 1, hj => (xs_nl.in1 h j (by omega)).app (h.2.2.2.2 j (by omega)).in (by omega)
theorem xs_nl.in {p : Nat} (h : xs_nl p) : xs_in p (p + 8) := by
  intro z h1 h2 j t ht
  by_cases e : z = p
  · rw [e, h.2.2.1] at ht
    dsimp only at ht
    split at ht
    · cases ht; omega
    · cases ht
  · by_cases e1 : z = p + 1
    · rw [e1, h.2.2.2.1] at ht
      dsimp only at ht
      split at ht
      · cases ht; omega
      · cases ht
    · exact h.in1 3 (by omega) z (by omega) (by omega) j t ht
theorem xs_ct.in1 {c : Nat} (h : xs_ct c) : ∀ j, j ≤ 4 → xs_in (c + 6) (c + 6 + 2 * j)
  | 0, _ => xs_in0 _
  | j + 1, hj => (xs_ct.in1 h j (by omega)).app (h.2.2.2.2.2.2.1 j (by omega)).in (by omega)
theorem xs_ct.in {c : Nat} (h : xs_ct c) : xs_in c (c + 30) := by
  obtain ⟨-, h2, h3, h4, -, h6, -, h8, h9⟩ := id h
  intro z z1 z2 j t ht
  by_cases e : z = c
  · rw [e, h2] at ht
    dsimp only at ht
    (repeat' split at ht) <;> cases ht <;> omega
  · by_cases e1 : z < c + 3
    · have := h3.in z (by omega) (by omega) j t ht; omega
    · by_cases e2 : z < c + 5
      · have := h4.in z (by omega) (by omega) j t ht; omega
      · by_cases e3 : z = c + 5
        · rw [e3, h6] at ht
          dsimp only at ht
          split at ht
          · cases ht; omega
          · cases ht
        · by_cases e4 : z < c + 14
          · have := h.in1 4 (by omega) z (by omega) (by omega) j t ht; omega
          · by_cases e5 : z < c + 22
            · have := h8.in z (by omega) (by omega) j t ht; omega
            · exact h9.in z (by omega) (by omega) j t ht
theorem xs_p' {i j ci n k : Nat} {A : Nat × Nat × Nat} (hi : i < 9) (hj : j + 1 < 30) (h1 : xw_Kc j = (0, ci, n)) (h2 : xw_Kc (j + 1) = A) (hA : A.1 = 1 ∨ A.1 = 2) (h3 : ∀ q m, xw_lc q j m = if m = k then some (q + 1) else none) : xs_p (6 + 30 * i + j) ci n k A := by
  have e1 := (xk_K hi (show j < 30 by omega)).trans h1
  have e2 : xw_K (6 + 30 * i + j + 1) = A := (xk_K (j := j + 1) hi hj).trans h2
  refine ⟨e1, e2, ?_, ?_⟩
  · rw [xn_lk_ob e1]
    funext m
    rw [xk_lk hi (by omega), h3]
  · obtain ⟨t, c, m⟩ := A
    rcases hA with hA | hA
    · have hA : t = 1 := hA
      subst hA
      exact xn_lk_i e2
    · have hA : t = 2 := hA
      subst hA
      exact xn_lk_l e2
theorem xs_nl' {i j : Nat} (hi : i < 9) (hj : j + 7 < 30) (h1 : xw_Kc j = (0, 4, 2)) (h2 : xw_Kc (j + 1) = (3, 3, 3)) (h3 : ∀ q m, xw_lc q j m = if m = 0 then some (q + 1) else none) (h4 : ∀ q m, xw_lc q (j + 1) m = if m < 3 then some (q + 1 + 2 * m) else none)
    (h5 : ∀ k, k < 3 → xw_Kc (j + 2 + 2 * k) = (0, 3, 2) ∧ xw_Kc (j + 2 + 2 * k + 1) = (2, 1, 4) ∧ ∀ q m, xw_lc q (j + 2 + 2 * k) m = if m = 0 then some (q + 1) else none) : xs_nl (6 + 30 * i + j) := by
  have e1 := (xk_K hi (show j < 30 by omega)).trans h1
  have e2 : xw_K (6 + 30 * i + j + 1) = (3, 3, 3) := (xk_K (j := j + 1) hi (by omega)).trans h2
  refine ⟨e1, e2, ?_, ?_, fun k hk => ?_⟩
  · rw [xn_lk_ob e1]
    funext m
    rw [xk_lk hi (by omega), h3]
  · rw [xn_lk_ar e2]
    funext m
    rw [show 6 + 30 * i + j + 1 = 6 + 30 * i + (j + 1) by omega, xk_lk hi (by omega), h4]
    rw [show 6 + 30 * i + (j + 1) + 1 + 2 * m = 6 + 30 * i + j + 2 + 2 * m by omega]
  · obtain ⟨a, b, c⟩ := h5 k hk
    have := xs_p' (i := i) (j := j + 2 + 2 * k) (k := 0) hi (by omega) a b (Or.inr rfl) c
    rw [show 6 + 30 * i + j + 2 + 2 * k = 6 + 30 * i + (j + 2 + 2 * k) by omega]
    exact this
theorem xs_cert {i : Nat} (hi : i < 9) : xs_ct (6 + 30 * i) := by
  have e1 : xw_K (6 + 30 * i) = (0, 6, 16) := xk_K (j := 0) hi (by decide)
  have e5 : xw_K (6 + 30 * i + 5) = (3, 4, 4) := xk_K (j := 5) hi (by decide)
  refine ⟨e1, ?_, xs_p' (j := 1) hi (by decide) rfl rfl (Or.inr rfl) (fun _ _ => rfl), xs_p' (j := 3) hi (by decide) rfl rfl (Or.inr rfl) (fun _ _ => rfl), e5, ?_, fun k hk => ?_, xs_nl' (j := 14) hi (by decide) rfl rfl (fun _ _ => rfl) (fun _ _ => rfl) ?_, xs_nl' (j := 22) hi (by decide) rfl rfl (fun _ _ => rfl) (fun _ _ => rfl) ?_⟩
  · rw [xn_lk_ob e1]
    funext m
    refine (xk_lk (j := 0) hi (by decide) m).trans ?_
    show (match m with | 1 => some (6 + 30 * i + 1) | 4 => some (6 + 30 * i + 3) | 9 => some (6 + 30 * i + 5) | 14 => some (6 + 30 * i + 14) | 15 => some (6 + 30 * i + 22) | _ => none) = _
    split <;> simp_all
  · rw [xn_lk_ar e5]
    funext m
    rw [xk_lk (j := 5) hi (by decide)]
    show (if m < 4 then some (6 + 30 * i + 5 + 1 + 2 * m) else none) = _
    rfl
  · rcases (show k = 0 ∨ k = 1 ∨ k = 2 ∨ k = 3 by omega) with rfl | rfl | rfl | rfl
    · exact xs_p' (j := 6) hi (by decide) rfl rfl (Or.inl rfl) (fun _ _ => rfl)
    · exact xs_p' (j := 8) hi (by decide) rfl rfl (Or.inl rfl) (fun _ _ => rfl)
    · exact xs_p' (j := 10) hi (by decide) rfl rfl (Or.inl rfl) (fun _ _ => rfl)
    · exact xs_p' (j := 12) hi (by decide) rfl rfl (Or.inl rfl) (fun _ _ => rfl)
  · intro k hk
    rcases (show k = 0 ∨ k = 1 ∨ k = 2 by omega) with rfl | rfl | rfl <;> exact ⟨rfl, rfl, fun _ _ => rfl⟩
  · intro k hk
    rcases (show k = 0 ∨ k = 1 ∨ k = 2 by omega) with rfl | rfl | rfl <;> exact ⟨rfl, rfl, fun _ _ => rfl⟩
