/-! what a certificate's cells hold -/
def ex_is (M : xm_M) (p : Nat) (x : Nat × Bool × List Nat) : Prop := M p 0 = x.1 ∧ M p 1 = (if x.2.1 = true then 1 else 0) ∧ (¬ (x.1 = 1 ∨ x.1 = 2 ∨ x.1 = 3) → M p 3 = x.2.2.length ∧ ∀ j, j < x.2.2.length → M (p + 1) j = x.2.2.getD j 0)
/-- none is -1 -/
def ct_o (r : Option Nat) : Nat := match r with
  | some v => v
  | none => 4294967295
def ct_u (r : Option Nat) : Nat := match r with
  | some v => ps_mir v 8
  | none => 4294967295
def ct_E (M : xm_M) (c : Nat) (E : ps_E) : Prop := (∀ j, j < E.1.length → ex_is M (c + 6 + 2 * j) (E.1.getD j (0, false, []))) ∧ M c 11 = (if E.2.1 = true then 1 else 0) ∧ M c 12 = ct_o E.2.2.1 ∧ M c 13 = ct_u E.2.2.2.1 ∧ nl_is M (c + 14) E.2.2.2.2.1 ∧ nl_is M (c + 22) E.2.2.2.2.2
/-- only the reader's cells and those of the certificate at c are other ones -/
def ct_F (c : Nat) (M M' : xm_M) : Prop := ∀ q, q ≠ 1 → q ≠ 4 → (q < c ∨ c + 30 ≤ q) → M' q = M q
theorem ct_F.tr {c : Nat} {A B C : xm_M} (h : ct_F c A B) (g : ct_F c B C) : ct_F c A C := fun q h1 h2 h3 => (g q h1 h2 h3).trans (h q h1 h2 h3)
theorem ct_F.of {c : Nat} {A B : xm_M} (h : rd_F A B) : ct_F c A B := fun q h1 h2 _ => h q h1 h2
/-- the head stays -/
def ct_S (c : Nat) (M M' : xm_M) : Prop := (∀ j, j ≠ 10 → j ≠ 11 → j ≠ 12 → j ≠ 13 → M' c j = M c j) ∧ ∀ q, c + 1 ≤ q → q ≤ c + 5 → M' q = M q
theorem ct_S.tr {c : Nat} {A B C : xm_M} (h : ct_S c A B) (g : ct_S c B C) : ct_S c A C := ⟨fun j h1 h2 h3 h4 => (g.1 j h1 h2 h3 h4).trans (h.1 j h1 h2 h3 h4), fun q h1 h2 => (g.2 q h1 h2).trans (h.2 q h1 h2)⟩
theorem rs_map {α β : Type} {P : Nat → Nat → Option (α × Nat)} {Q : Nat → Nat → Option (β × Nat)} {f : α → β} {s s' : rd_S} {V : α → Prop} (hQ : ∀ i l, Q i l = match P i l with
    | none => none
    | some (x, k) => some (f x, k)) (h : rs_ok (rd_run P s) s' V) : rs_ok (rd_run Q s) s' (fun y => ∃ x, V x ∧ y = f x) := by
  rcases s with _ | ⟨i, _ | ⟨l, ls⟩⟩
  · rw [rs_none h]
    exact Or.inl ⟨rfl, rfl⟩
  · rw [rs_none (P := P) h]
    exact Or.inl ⟨rfl, rfl⟩
  · simp only [rd_run] at h ⊢
    rw [hQ]
    cases hp : P i l with
    | none =>
      rw [hp] at h
      rcases h with h | ⟨y, u, h, -⟩
      · exact Or.inl ⟨h.1, rfl⟩
      · cases h
    | some q =>
      obtain ⟨x, j⟩ := q
      rw [hp] at h
      rcases h with h | ⟨y, u, h, h', h''⟩
      · cases h.2
      · simp only [Option.some.injEq, Prod.mk.injEq] at h
        obtain ⟨rfl, rfl⟩ := h
        exact Or.inr ⟨_, _, rfl, h', x, h'', rfl⟩
theorem rs_con1 {b : Nat → Nat} {c : Bool} {E : ps_E} {s s' : rd_S} {V : Bool × Option Nat → Prop} (h : rs_ok (rd_run (ps_basic b) s) s' V) : rs_ok (rd_run (ps_con b 1 c E) s) s' (fun E' => ∃ z, V z ∧ E' = (E.1 ++ [(1, c, [])], z.1, ps_or z.2 E.2.2.1, E.2.2.2)) := by
  refine rs_map (f := fun z => (E.1 ++ [(1, c, [])], z.1, ps_or z.2 E.2.2.1, E.2.2.2)) (fun i l => ?_) h
  unfold ps_con
  rw [if_pos rfl]
  cases ps_basic b i l <;> rfl
theorem rs_con2 {b : Nat → Nat} {c : Bool} {E : ps_E} {s s' : rd_S} {V : Nat → Prop} (h : rs_ok (rd_run (ps_bits b) s) s' V) : rs_ok (rd_run (ps_con b 2 c E) s) s' (fun E' => ∃ z, V z ∧ E' = (E.1 ++ [(2, c, [])], E.2.1, E.2.2.1, some z, E.2.2.2.2)) := by
  refine rs_map (f := fun z => (E.1 ++ [(2, c, [])], E.2.1, E.2.2.1, some z, E.2.2.2.2)) (fun i l => ?_) h
  unfold ps_con
  rw [if_neg (by decide), if_pos rfl]
  cases ps_bits b i l <;> rfl
theorem rs_con3 {b : Nat → Nat} {c : Bool} {E : ps_E} {s s' : rd_S} {V : List ps_N × List ps_N → Prop} (h : rs_ok (rd_run (ps_bounds b) s) s' V) : rs_ok (rd_run (ps_con b 3 c E) s) s' (fun E' => ∃ z, V z ∧ E' = (E.1 ++ [(3, c, [])], E.2.1, E.2.2.1, E.2.2.2.1, z)) := by
  refine rs_map (f := fun z => (E.1 ++ [(3, c, [])], E.2.1, E.2.2.1, E.2.2.2.1, z)) (fun i l => ?_) h
  unfold ps_con
  rw [if_neg (by decide), if_neg (by decide), if_pos rfl]
  cases ps_bounds b i l <;> rfl
theorem rs_con4 {b : Nat → Nat} {c : Bool} {E : ps_E} {s s' : rd_S} {num : Nat} (hn : ¬ (num = 1 ∨ num = 2 ∨ num = 3)) (h : s' = rd_oct s) : rs_ok (rd_run (ps_con b num c E) s) s' (fun E' => ∃ i l ls, s = some (i, l :: ls) ∧ l - i ≤ 20 ∧ E' = (E.1 ++ [(num, c, ps_sl b i l)], E.2)) := by
  rw [h]
  rcases s with _ | ⟨i, _ | ⟨l, ls⟩⟩
  · exact Or.inl ⟨rfl, rfl⟩
  · exact Or.inl ⟨rfl, rfl⟩
  · simp only [rd_run]
    unfold ps_con rd_oct
    simp only []
    rw [if_neg (by omega), if_neg (by omega), if_neg (by omega)]
    by_cases hc : l - i ≤ 20
    · rw [if_pos hc, if_pos hc]
      exact Or.inr ⟨_, _, rfl, rfl, i, l, ls, rfl, hc, rfl⟩
    · rw [if_neg hc, if_neg hc]
      exact Or.inl ⟨rfl, rfl⟩
theorem rs_ext {b : Nat → Nat} {E : ps_E} {s s2 s3 s4 s6 : rd_S} {w : Nat} {tt : Bool} {V : ps_E → Prop} (hd : rd_D 2 s) (h2 : rs_ok (rd_run (ps_intr b 0 255) (rd_open b 48 s)) s2 (fun v => v = w)) (h3 : s3 = if E.1.any (fun x => x.1 == w) = true then none else s2)
    (h4 : rs_ok (rd_run (ps_tru b) s3) s4 (fun t => t = tt)) (h6 : rs_ok (rd_run (ps_con b w tt E) (rd_open b 4 s4)) s6 V) : rs_ok (rd_run (ps_ext b E) s) (rd_close (rd_close s6)) V := by
  have hd1 : rd_D 1 (rd_open b 48 s) := rd_D.opn hd
  have hd2 : rd_D 1 s2 := rs_D h2 hd1
  have hd3 : rd_D 1 s3 := by
    rw [h3]
    split
    · exact rd_D.none 1
    · exact hd2
  have hd4 : rd_D 1 s4 := rs_D h4 hd3
  have h7 := rs_in hd4 h6
  refine rs_in (hd.mono (by decide)) ?_
  generalize rd_open b 48 s = s1 at *
  rcases h2 with ⟨rfl, hX⟩ | ⟨x, t, hX, rfl, rfl⟩
  · have e3 : s3 = none := by rw [h3]; split <;> rfl
    rw [e3] at h4
    rw [rs_none h4] at h7
    rw [rs_none h7]
    refine Or.inl ⟨rfl, ?_⟩
    rcases s1 with _ | ⟨i, _ | ⟨l, ls⟩⟩
    · rfl
    · rfl
    · simp only [rd_run] at hX ⊢
      unfold ps_exc
      cases hp : ps_intr b 0 255 i l with
      | none => rfl
      | some q => rw [hp] at hX; cases hX
  · rcases s1 with _ | ⟨i, _ | ⟨l, ls⟩⟩
    · cases hX
    · cases hX
    · simp only [rd_run] at hX
      cases hp : ps_intr b 0 255 i l with
      | none => rw [hp] at hX; cases hX
      | some q =>
        obtain ⟨x', j⟩ := q
        rw [hp] at hX
        simp only [Option.some.injEq, Prod.mk.injEq] at hX
        obtain ⟨rfl, rfl⟩ := hX
        simp only [rd_run]
        unfold ps_exc
        rw [hp]
        simp only []
        by_cases hc : E.1.any (fun y => y.1 == x') = true
        · rw [if_pos hc] at h3
          rw [h3] at h4
          rw [rs_none h4] at h7
          rw [rs_none h7, if_pos hc]
          exact Or.inl ⟨rfl, rfl⟩
        · rw [if_neg hc] at h3
          rw [if_neg hc]
          rw [h3] at h4
          simp only [rd_run] at h4
          cases hq : ps_tru b j l with
          | none =>
            rw [hq] at h4
            rcases h4 with h | ⟨y, u, h, -⟩
            · rw [h.1] at h7
              rw [rs_none h7]
              exact Or.inl ⟨rfl, rfl⟩
            · cases h
          | some r =>
            obtain ⟨t', k⟩ := r
            rw [hq] at h4
            rcases h4 with h | ⟨y, u, h, h', h''⟩
            · cases h.2
            · simp only [Option.some.injEq, Prod.mk.injEq] at h
              obtain ⟨rfl, rfl⟩ := h
              rw [h'] at h7
              simp only [rd_run] at h7
              rw [h'']
              exact h7
theorem nl_is_cg {M M' : xm_M} {p : Nat} {x : List ps_N} (hx : x.length ≤ 3) (h : ∀ q, p ≤ q → q < p + 8 → M' q = M q) (hx' : nl_is M p x) : nl_is M' p x := by
  unfold nl_is nm_is at *
  refine ⟨by rw [h p (by omega) (by omega)]; exact hx'.1, fun k hk => ?_⟩
  rw [h _ (by omega) (by omega), h _ (by omega) (by omega)]
  exact hx'.2 k hk
theorem nl_is_cg2 {M M' : xm_M} {p : Nat} {x : List ps_N} (hl : M p 1 ≤ 3) (h : ∀ q, p ≤ q → q < p + 8 → M' q = M q) (hx' : nl_is M p x) : nl_is M' p x := nl_is_cg (by have := hx'.1; omega) h hx'
theorem ex_is_cg {M M' : xm_M} {p : Nat} {x : Nat × Bool × List Nat} (h1 : M' p = M p) (h2 : M' (p + 1) = M (p + 1)) (hx : ex_is M p x) : ex_is M' p x := by
  unfold ex_is at *
  rw [h1, h2]
  exact hx
theorem ct_app {M Mz : xm_M} {c k : Nat} {l : List (Nat × Bool × List Nat)} {x : Nat × Bool × List Nat} (hE : ∀ j, j < l.length → ex_is M (c + 6 + 2 * j) (l.getD j (0, false, []))) (hl : l.length = k) (ha : ∀ j, j < k → Mz (c + 6 + 2 * j) = M (c + 6 + 2 * j) ∧ Mz (c + 6 + 2 * j + 1) = M (c + 6 + 2 * j + 1)) (hx : ex_is Mz (c + 6 + 2 * k) x) : ∀ j, j < (l ++ [x]).length → ex_is Mz (c + 6 + 2 * j) ((l ++ [x]).getD j (0, false, [])) := by
  intro j hj
  simp only [List.length_append, List.length_cons, List.length_nil] at hj
  by_cases hjk : j = k
  · rw [hjk]
    have : (l ++ [x]).getD k (0, false, []) = x := by
      rw [← hl]
      simp
    rw [this]
    exact hx
  · have : (l ++ [x]).getD j (0, false, []) = l.getD j (0, false, []) := by
      simp only [List.getD_eq_getElem?_getD]
      rw [List.getElem?_append_left (by omega)]
    rw [this]
    obtain ⟨e1, e2⟩ := ha j (by omega)
    exact ex_is_cg e1 e2 (hE j (by omega))
theorem ct_any {M : xm_M} {c k w : Nat} {l : List (Nat × Bool × List Nat)} (hE : ∀ j, j < l.length → ex_is M (c + 6 + 2 * j) (l.getD j (0, false, []))) (hl : l.length = k) : l.any (fun x => x.1 == w) = true ↔ ∃ j, j < k ∧ M (c + 6 + 2 * j) 0 = w := by
  rw [List.any_eq_true]
  constructor
  · rintro ⟨x, hx, hw⟩
    obtain ⟨j, hj, he⟩ := List.getElem_of_mem hx
    refine ⟨j, by omega, ?_⟩
    have := (hE j hj).1
    rw [this]
    simp only [List.getD_eq_getElem?_getD, List.getElem?_eq_getElem hj, Option.getD_some, he]
    simpa using hw
  · rintro ⟨j, hj, hw⟩
    have hj' : j < l.length := by omega
    refine ⟨l[j], List.getElem_mem hj', ?_⟩
    have := (hE j hj').1
    rw [hw] at this
    simp only [List.getD_eq_getElem?_getD, List.getElem?_eq_getElem hj', Option.getD_some] at this
    simp [← this]
theorem rs_sound {α : Type} {P : Nat → Nat → Option (α × Nat)} {s s' : rd_S} {V : α → Prop} (h : rs_ok (rd_run P s) s' V) (hs : s' ≠ none) : s ≠ none := by
  intro e
  rw [e] at h
  exact hs (rs_none h)
theorem rd_open_sound {b : Nat → Nat} {tag : Nat} {s : rd_S} (h : rd_open b tag s ≠ none) : s ≠ none := by
  intro e
  rw [e] at h
  exact h rfl
