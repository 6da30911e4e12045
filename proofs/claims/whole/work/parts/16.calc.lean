/-! how the reader's steps fit together -/
/-- the reader has gone on as X says, or has found a fault -/
def rs_ok {α : Type} (X : Option (α × Nat × List Nat)) (s : rd_S) (V : α → Prop) : Prop := (s = none ∧ X = none) ∨ ∃ x t, X = some (x, t) ∧ s = some t ∧ V x
theorem rs_ok.imp {α : Type} {X : Option (α × Nat × List Nat)} {s : rd_S} {V W : α → Prop} (h : rs_ok X s V) (f : ∀ x, V x → W x) : rs_ok X s W := by
  rcases h with h | ⟨x, t, h1, h2, h3⟩
  · exact Or.inl h
  · exact Or.inr ⟨x, t, h1, h2, f x h3⟩
theorem rs_none {α : Type} {P : Nat → Nat → Option (α × Nat)} {s : rd_S} {V : α → Prop} (h : rs_ok (rd_run P none) s V) : s = none := by
  rcases h with h | ⟨x, t, h1, -⟩
  · exact h.1
  · cases h1
theorem rs_and {α β : Type} {P : Nat → Nat → Option (α × Nat)} {Q : Nat → Nat → Option (β × Nat)} {s s1 s2 : rd_S} {V : α → Prop} {W : β → Prop} (h1 : rs_ok (rd_run P s) s1 V) (h2 : rs_ok (rd_run Q s1) s2 W) : rs_ok (rd_run (pq_and P Q) s) s2 (fun z => V z.1 ∧ W z.2) := by
  rcases h1 with ⟨rfl, hX⟩ | ⟨x, t, hX, rfl, hV⟩
  · rw [rs_none h2]
    refine Or.inl ⟨rfl, ?_⟩
    rcases s with _ | ⟨i, _ | ⟨l, ls⟩⟩
    · rfl
    · rfl
    · simp only [rd_run] at hX ⊢
      unfold pq_and
      cases hp : P i l with
      | none => rfl
      | some q => rw [hp] at hX; cases hX
  · rcases s with _ | ⟨i, _ | ⟨l, ls⟩⟩
    · cases hX
    · cases hX
    · simp only [rd_run] at hX
      cases hp : P i l with
      | none => rw [hp] at hX; cases hX
      | some q =>
        obtain ⟨x', j⟩ := q
        rw [hp] at hX
        simp only [Option.some.injEq, Prod.mk.injEq] at hX
        obtain ⟨rfl, rfl⟩ := hX
        simp only [rd_run] at h2 ⊢
        unfold pq_and
        rw [hp]
        simp only []
        cases hq : Q j l with
        | none =>
          rw [hq] at h2
          rcases h2 with h | ⟨y, u, h, -⟩
          · exact Or.inl ⟨h.1, rfl⟩
          · cases h
        | some r =>
          obtain ⟨y, k⟩ := r
          rw [hq] at h2
          rcases h2 with h | ⟨y', u, h, h', h''⟩
          · cases h.2
          · simp only [Option.some.injEq, Prod.mk.injEq] at h
            obtain ⟨rfl, rfl⟩ := h
            exact Or.inr ⟨(x', y), _, rfl, h', hV, h''⟩
theorem rs_in {α : Type} {b : Nat → Nat} {tag : Nat} {P : Nat → Nat → Option (α × Nat)} {s s2 : rd_S} {V : α → Prop} (hd : rd_D 1 s) (h : rs_ok (rd_run P (rd_open b tag s)) s2 V) : rs_ok (rd_run (pq_in b tag P) s) (rd_close s2) V := by
  rcases s with _ | ⟨i, _ | ⟨l, ls⟩⟩
  · rw [rs_none h]
    exact Or.inl ⟨rfl, rfl⟩
  · rw [rs_none h]
    exact Or.inl ⟨rfl, rfl⟩
  · have hl : ls.length < 10 := hd i l ls rfl
    simp only [rd_run]
    unfold pq_in
    cases hh : ps_hd b tag i l with
    | none =>
      have ho : rd_open b tag (some (i, l :: ls)) = none := by unfold rd_open; simp only [if_pos hl, hh]
      rw [ho] at h
      rw [rs_none h]
      exact Or.inl ⟨rfl, rfl⟩
    | some q =>
      obtain ⟨f, e⟩ := q
      have ho : rd_open b tag (some (i, l :: ls)) = some (f, e :: l :: ls) := by unfold rd_open; simp only [if_pos hl, hh]
      rw [ho] at h
      simp only [rd_run] at h
      simp only []
      cases hp : P f e with
      | none =>
        rw [hp] at h
        rcases h with h | ⟨y, u, h, -⟩
        · rw [h.1]
          exact Or.inl ⟨rfl, rfl⟩
        · cases h
      | some r =>
        obtain ⟨x, j⟩ := r
        rw [hp] at h
        rcases h with h | ⟨y, u, h, h', h''⟩
        · cases h.2
        · simp only [Option.some.injEq, Prod.mk.injEq] at h
          obtain ⟨rfl, rfl⟩ := h
          rw [h']
          unfold rd_close
          simp only []
          by_cases hj : j = e
          · rw [if_pos hj, if_pos hj, hj]
            exact Or.inr ⟨x, _, rfl, rfl, h''⟩
          · rw [if_neg hj, if_neg hj]
            exact Or.inl ⟨rfl, rfl⟩
theorem rs_int {b : Nat → Nat} {lo hi : Nat} {s s' : rd_S} {w : Nat} (hd : rd_D 1 s) (h : s' = (rd_int b lo hi s).1) (hw : (rd_int b lo hi s).1 ≠ none → w = (rd_int b lo hi s).2) : rs_ok (rd_run (ps_intr b lo hi) s) s' (fun v => v = w) := by
  rw [h]
  rcases s with _ | ⟨i, _ | ⟨l, ls⟩⟩
  · exact Or.inl ⟨rfl, rfl⟩
  · exact Or.inl ⟨rfl, rfl⟩
  · have hl : ls.length < 10 := hd i l ls rfl
    simp only [rd_run]
    unfold ps_intr
    unfold rd_int at hw ⊢
    simp only [if_pos hl] at hw ⊢
    cases hp : ps_int b i l with
    | none => exact Or.inl ⟨rfl, rfl⟩
    | some q =>
      obtain ⟨v, j⟩ := q
      rw [hp] at hw
      simp only [] at hw ⊢
      by_cases hc : lo ≤ v ∧ v ≤ hi
      · rw [if_pos hc] at hw
        rw [if_pos hc, if_pos hc]
        exact Or.inr ⟨v, _, rfl, rfl, (hw (by simp)).symm⟩
      · rw [if_neg hc, if_neg hc]
        exact Or.inl ⟨rfl, rfl⟩
theorem rs_tru {b : Nat → Nat} {s s' : rd_S} (hd : rd_D 1 s) (hs : ∀ i, s ≠ some (i, [])) (h : s' = (rd_tru b s).1) : rs_ok (rd_run (ps_tru b) s) s' (fun t => t = rd_is b 1 s) := by
  rw [h]
  rcases s with _ | ⟨i, _ | ⟨l, ls⟩⟩
  · exact Or.inl ⟨rfl, rfl⟩
  · exact absurd rfl (hs i)
  · have hl : ls.length < 10 := hd i l ls rfl
    simp only [rd_run]
    by_cases hc : i < l ∧ b i = 1
    · unfold rd_tru
      simp only [if_pos hc, if_pos hl]
      cases hp : ps_tru b i l with
      | none => exact Or.inl ⟨rfl, rfl⟩
      | some q =>
        obtain ⟨t, j⟩ := q
        refine Or.inr ⟨t, _, rfl, rfl, ?_⟩
        unfold ps_tru at hp
        rw [if_pos hc] at hp
        have ht : t = true := by
          repeat' split at hp
          all_goals first
            | (cases hp; done)
            | (simp only [Option.some.injEq, Prod.mk.injEq] at hp; exact hp.1.symm)
        rw [ht]
        simp [rd_is, hc.1, hc.2]
    · have ht : ps_tru b i l = some (false, i) := by unfold ps_tru; rw [if_neg hc]
      rw [ht]
      unfold rd_tru
      simp only [if_neg hc]
      refine Or.inr ⟨false, _, rfl, rfl, ?_⟩
      simp only [rd_is]
      by_cases h1 : i < l
      · have : ¬ b i = 1 := fun h2 => hc ⟨h1, h2⟩
        simp [this]
      · simp [h1]
theorem rd_D.mono {k j : Nat} {s : rd_S} (h : rd_D k s) (hj : j ≤ k) : rd_D j s := fun i l ls e => by have := h i l ls e; omega
theorem rd_D.none (k : Nat) : rd_D k none := fun _ _ _ h => by cases h
theorem rd_D.opn {k : Nat} {b : Nat → Nat} {tag : Nat} {s : rd_S} (h : rd_D (k + 1) s) : rd_D k (rd_open b tag s) := by
  intro i l ls e
  obtain ⟨i', e', l', ls', rfl, h1, -, h2⟩ := rd_openI e
  have := h i' l' ls' rfl
  simp only [List.cons.injEq] at h2
  rw [h2.2]
  simp only [List.length_cons]
  omega
theorem rs_D {α : Type} {P : Nat → Nat → Option (α × Nat)} {s s' : rd_S} {V : α → Prop} {k : Nat} (h : rs_ok (rd_run P s) s' V) (hd : rd_D k s) : rd_D k s' := by
  rcases h with ⟨rfl, -⟩ | ⟨x, t, hX, rfl, -⟩
  · exact rd_D.none k
  · rcases s with _ | ⟨i, _ | ⟨l, ls⟩⟩
    · cases hX
    · cases hX
    · simp only [rd_run] at hX
      cases hp : P i l with
      | none => rw [hp] at hX; cases hX
      | some q =>
        rw [hp] at hX
        simp only [Option.some.injEq, Prod.mk.injEq] at hX
        intro i' l' ls' e
        simp only [Option.some.injEq] at e
        rw [← hX.2] at e
        simp only [Prod.mk.injEq, List.cons.injEq] at e
        rw [← e.2.2]
        exact hd i l ls rfl
theorem rd_D.refuse {k : Nat} {s s' : rd_S} {c : Prop} (h : rd_D k s) (e : s' = s ∨ s' = Option.none) : rd_D k s' := by
  rcases e with rfl | rfl
  · exact h
  · exact rd_D.none k
