/-! lists of names -/
def nl_is (M : xm_M) (p : Nat) (x : List ps_N) : Prop := M p 1 = x.length ∧ ∀ k, k < x.length → nm_is M (p + 2 + 2 * k) (x.getD k [])
/-- only the reader's cells and those of the list at p are other ones -/
def nl_F (p : Nat) (M M' : xm_M) : Prop := ∀ q, q ≠ 1 → q ≠ 4 → (q < p ∨ p + 8 ≤ q) → M' q = M q
theorem nl_F.tr {p : Nat} {A B C : xm_M} (h : nl_F p A B) (g : nl_F p B C) : nl_F p A C := fun q h1 h2 h3 => (g q h1 h2 h3).trans (h q h1 h2 h3)
theorem nl_F.of {p : Nat} {A B : xm_M} (h : rd_F A B) : nl_F p A B := fun q h1 h2 _ => h q h1 h2
/-- what is left of a list at place i, a name being next; pre: those before it -/
def nl_X (b : Nat → Nat) (i e k : Nat) (L : List Nat) (pre : List ps_N) : Option (List ps_N × Nat × List Nat) := match ps_name b i e with
  | some (x, j) => (match ps_names b e (2 - k) j with
    | some r => some (pre ++ x :: r, e, L)
    | none => none)
  | none => none
/-- within a list, a name being next -/
def nl_O (b : Nat → Nat) (X : Option (List ps_N × Nat × List Nat)) (M : xm_M) (p : Nat) (s : rd_S) (k : Nat) : Prop :=
  (s = none ∧ X = none) ∨ ∃ i e m L pre, s = some (i, e :: m :: L) ∧ L.length + 3 ≤ 10 ∧ pre.length = k ∧ (∀ q, q < k → nm_is M (p + 2 + 2 * q) (pre.getD q [])) ∧ X = nl_X b i e k (m :: L) pre
/-- within a list, behind a name -/
def nl_P (b : Nat → Nat) (X : Option (List ps_N × Nat × List Nat)) (M : xm_M) (p : Nat) (s : rd_S) (k : Nat) : Prop :=
  (s = none ∧ X = none) ∨ ∃ j e m L pre, s = some (j, e :: m :: L) ∧ L.length + 3 ≤ 10 ∧ pre.length = k ∧ (∀ q, q < k → nm_is M (p + 2 + 2 * q) (pre.getD q [])) ∧ X = (match ps_names b e (3 - k) j with
    | some r => some (pre ++ r, e, m :: L)
    | none => none)
theorem ps_hd_end {b : Nat → Nat} {tag e : Nat} : ps_hd b tag e e = none := by
  unfold ps_hd
  rw [if_neg (by omega)]
theorem nl_O0 {b : Nat → Nat} {M : xm_M} {p tag : Nat} {st : rd_S} (hd : rd_D 3 st) (h : rd_is b tag st = true) : nl_O b (rd_run (ps_list b tag) st) M p (rd_open b tag st) 0 := by
  obtain ⟨i, l, ls, rfl, h1, h2⟩ := rd_isP h
  have hl := hd i l ls rfl
  have hl' : ls.length < 10 := by omega
  have hc : i < l ∧ b i = tag := ⟨h1, h2⟩
  cases hh : ps_hd b tag i l with
  | none =>
    refine Or.inl ⟨?_, ?_⟩
    · unfold rd_open
      simp only [if_pos hl', hh]
    · simp only [rd_run, ps_list, if_pos hc, hh]
  | some q =>
    obtain ⟨g, e⟩ := q
    refine Or.inr ⟨g, e, l, ls, [], ?_, hl, rfl, fun q hq => absurd hq (Nat.not_lt_zero _), ?_⟩
    · unfold rd_open
      simp only [if_pos hl', hh]
    · simp only [rd_run, ps_list, if_pos hc, hh, nl_X]
      by_cases hge : g = e
      · rw [if_pos hge, hge]
        have : ps_name b e e = none := by unfold ps_name; rw [ps_hd_end]
        rw [this]
      · rw [if_neg hge]
        have h3 : ps_names b e 3 g = (match ps_name b g e with
          | none => none
          | some (x, j) => match ps_names b e 2 j with
            | none => none
            | some l => some (x :: l)) := if_neg hge
        rw [h3]
        cases ps_name b g e with
        | none => rfl
        | some q =>
          obtain ⟨x, j⟩ := q
          simp only []
          cases ps_names b e 2 j <;> rfl
theorem nl_O1 {b : Nat → Nat} {X : Option (List ps_N × Nat × List Nat)} {M M' : xm_M} {p k : Nat} {s s' : rd_S} (h : nl_O b X M p s k) (hk : k ≤ 2) (hM : ∀ q, q < k → M' (p + 2 + 2 * q) = M (p + 2 + 2 * q) ∧ M' (p + 2 + 2 * q + 1) = M (p + 2 + 2 * q + 1))
    (hn : (s' = none ∧ rd_run (ps_name b) s = none) ∨ ∃ x t, rd_run (ps_name b) s = some (x, t) ∧ s' = some t ∧ nm_is M' (p + 2 + 2 * k) x) : nl_P b X M' p s' (k + 1) := by
  rcases h with ⟨rfl, h⟩ | ⟨i, e, m, L, pre, rfl, hL, hp, hf, hX⟩
  · rcases hn with ⟨h1, -⟩ | ⟨x, t, h1, -⟩
    · exact Or.inl ⟨h1, h⟩
    · cases h1
  · simp only [rd_run] at hn
    unfold nl_X at hX
    cases hh : ps_name b i e with
    | none =>
      rw [hh] at hn hX
      rcases hn with ⟨h1, -⟩ | ⟨x, t, h1, -⟩
      · exact Or.inl ⟨h1, hX⟩
      · cases h1
    | some q =>
      obtain ⟨x, j⟩ := q
      rw [hh] at hn hX
      simp only [] at hn hX
      rcases hn with ⟨-, h1⟩ | ⟨x', t, h1, h2, h3⟩
      · cases h1
      · simp only [Option.some.injEq, Prod.mk.injEq] at h1
        obtain ⟨rfl, rfl⟩ := h1
        refine Or.inr ⟨j, e, m, L, pre ++ [x], h2, hL, by simp [hp], fun q hq => ?_, ?_⟩
        · by_cases hqk : q = k
          · rw [hqk]
            have : (pre ++ [x]).getD k [] = x := by
              rw [← hp]
              simp
            rw [this]
            exact h3
          · have h9 := hf q (by omega)
            have : (pre ++ [x]).getD q [] = pre.getD q [] := by
              simp only [List.getD_eq_getElem?_getD]
              rw [List.getElem?_append_left (by omega)]
            rw [this]
            obtain ⟨e1, e2⟩ := hM q (by omega)
            unfold nm_is at h9 ⊢
            rw [e1, e2]
            exact h9
        · rw [hX, show 3 - (k + 1) = 2 - k by omega]
          cases ps_names b e (2 - k) j with
          | none => rfl
          | some r => simp
theorem nl_P1 {b : Nat → Nat} {X : Option (List ps_N × Nat × List Nat)} {M : xm_M} {p k : Nat} {s : rd_S} (h : nl_P b X M p s k) (hk : k < 3) (hr : 0 < rd_rem s) : nl_O b X M p s k := by
  rcases h with ⟨rfl, h⟩ | ⟨i, e, m, L, pre, rfl, hL, hp, hf, hX⟩
  · exact Or.inl ⟨rfl, h⟩
  · simp only [rd_rem] at hr
    refine Or.inr ⟨i, e, m, L, pre, rfl, hL, hp, hf, ?_⟩
    rw [hX, show 3 - k = (2 - k) + 1 by omega]
    unfold ps_names nl_X
    rw [if_neg (by omega)]
    cases ps_name b i e with
    | none => rfl
    | some q =>
      obtain ⟨x, j⟩ := q
      simp only []
      cases ps_names b e (2 - k) j <;> rfl
theorem nl_P2 {b : Nat → Nat} {X : Option (List ps_N × Nat × List Nat)} {M : xm_M} {p k : Nat} {s : rd_S} (h : nl_P b X M p s k) (hx : 3 ≤ k ∨ rd_rem s = 0) (hk : k ≤ 3) (hle : ∀ i l ls, s = some (i, l :: ls) → i ≤ l) :
    (rd_close s = none ∧ X = none) ∨ ∃ x j, X = some (x, j) ∧ rd_close s = some j ∧ x.length = k ∧ ∀ q, q < k → nm_is M (p + 2 + 2 * q) (x.getD q []) := by
  rcases h with ⟨rfl, h⟩ | ⟨i, e, m, L, pre, rfl, hL, hp, hf, hX⟩
  · exact Or.inl ⟨rfl, h⟩
  · simp only [rd_rem] at hx
    have hle := hle i e (m :: L) rfl
    unfold rd_close
    simp only []
    by_cases he : i = e
    · have : ps_names b e (3 - k) i = some [] := by
        unfold ps_names
        split <;> rw [if_pos he]
      rw [this] at hX
      simp only [List.append_nil] at hX
      rw [if_pos he, he]
      exact Or.inr ⟨pre, _, hX, rfl, hp, hf⟩
    · have h4 : k = 3 := by omega
      rw [h4] at hX
      simp only [Nat.sub_self, ps_names, if_neg he] at hX
      rw [if_neg he]
      exact Or.inl ⟨rfl, hX⟩
theorem nl_D {b : Nat → Nat} {X : Option (List ps_N × Nat × List Nat)} {M : xm_M} {p k : Nat} {s : rd_S} (h : nl_O b X M p s k) : rd_D 2 s := by
  rcases h with ⟨rfl, h⟩ | ⟨i, e, m, L, pre, rfl, hL, -⟩
  · intro i l ls h
    cases h
  · intro i' l' ls' h'
    simp only [Option.some.injEq, Prod.mk.injEq, List.cons.injEq] at h'
    obtain ⟨-, -, rfl⟩ := h'
    simp only [List.length_cons]
    omega
theorem nl_none {b : Nat → Nat} {tag : Nat} {st : rd_S} (h : rd_is b tag st = false) : (st = none ∧ rd_run (ps_list b tag) st = none) ∨ (∃ i, st = some (i, [])) ∨ ∃ t, st = some t ∧ rd_run (ps_list b tag) st = some ([], t) := by
  rcases st with _ | ⟨i, _ | ⟨l, ls⟩⟩
  · exact Or.inl ⟨rfl, rfl⟩
  · exact Or.inr (Or.inl ⟨i, rfl⟩)
  · refine Or.inr (Or.inr ⟨_, rfl, ?_⟩)
    simp only [rd_is] at h
    simp only [rd_run, ps_list]
    rw [if_neg]
    intro z
    simp [z.1, z.2] at h
theorem rd_of_nil {M : xm_M} {i : Nat} (h : rd_of M = some (i, [])) : False := by
  unfold rd_of at h
  split at h
  · simp only [Option.some.injEq, Prod.mk.injEq] at h
    have := congrArg List.length h.2
    rw [rd_lims_len] at this
    cases this
  · cases h
