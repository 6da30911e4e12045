/-! head, body, certificate -/
def ct_H (M : xm_M) (c : Nat) (H : ps_H) : Prop := M c 0 = H.1 ∧ nm_is M (c + 1) H.2.1 ∧ (M c 2 = H.2.2.1.1 ∧ M c 3 = H.2.2.1.2) ∧ nm_is M (c + 3) H.2.2.2.1 ∧ M c 5 = H.2.2.2.2.1 ∧ M c 6 = H.2.2.2.2.2
theorem nm_is_cg {M M' : xm_M} {p : Nat} {x : ps_N} (h1 : M' p = M p) (h2 : M' (p + 1) = M (p + 1)) (h : nm_is M p x) : nm_is M' p x := by
  unfold nm_is at *
  rw [h1, h2]
  exact h
theorem ct_E_cg {M M' : xm_M} {c : Nat} {E : ps_E} (hE : ct_E M c E) (h1 : M' c 11 = M c 11) (h2 : M' c 12 = M c 12) (h3 : M' c 13 = M c 13) (hl : E.1.length ≤ 4) (h5 : M (c + 14) 1 ≤ 3) (h6 : M (c + 22) 1 ≤ 3) (h : ∀ q, c + 6 ≤ q → q < c + 30 → M' q = M q) : ct_E M' c E := by
  obtain ⟨q1, q2, q3, q4, q5, q6⟩ := hE
  exact ⟨fun j hj => ex_is_cg (h _ (by omega) (by omega)) (h _ (by omega) (by omega)) (q1 j hj), by rw [h1]; exact q2, by rw [h2]; exact q3, by rw [h3]; exact q4, nl_is_cg2 h5 (fun q a b => h q (by omega) (by omega)) q5, nl_is_cg2 h6 (fun q a b => h q (by omega) (by omega)) q6⟩
theorem ct_E00 {M : xm_M} {c : Nat} (h1 : M c 11 = 0) (h2 : M c 12 = 4294967295) (h3 : M c 13 = 4294967295) (h5 : M (c + 14) 1 = 0) (h6 : M (c + 22) 1 = 0) : ct_E M c ps_E0 :=
  ⟨fun j hj => absurd hj (Nat.not_lt_zero _), h1, h2, h3, ⟨h5, fun k hk => absurd hk (Nat.not_lt_zero _)⟩, ⟨h6, fun k hk => absurd hk (Nat.not_lt_zero _)⟩⟩
theorem rs_pos {α : Type} {P : Nat → Nat → Option (α × Nat)} {s s' : rd_S} {V : α → Prop} (h : rs_ok (rd_run P s) s' V) : rs_ok (rd_run (pq_pos P) s) s' (fun z => V z.1 ∧ (∃ L, s = some (z.2.1, L)) ∧ ∃ L, s' = some (z.2.2, L)) := by
  rcases s with _ | ⟨i, _ | ⟨l, ls⟩⟩
  · rw [rs_none h]
    exact Or.inl ⟨rfl, rfl⟩
  · rw [rs_none (P := P) h]
    exact Or.inl ⟨rfl, rfl⟩
  · simp only [rd_run] at h ⊢
    unfold pq_pos
    cases hp : P i l with
    | none =>
      rw [hp] at h
      rcases h with h | ⟨y, u, h, -⟩
      · exact Or.inl ⟨h.1, rfl⟩
      · cases h
    | some q =>
      obtain ⟨x, j⟩ := q
      rw [hp] at h
      rcases h with h | ⟨y, u, h, h', h''⟩
      · cases h.2
      · simp only [Option.some.injEq, Prod.mk.injEq] at h
        obtain ⟨rfl, rfl⟩ := h
        exact Or.inr ⟨_, _, rfl, h', h'', ⟨_, rfl⟩, _, h'⟩
theorem rs_moreF {b : Nat → Nat} {s : rd_S} (hs : ∀ i, s ≠ some (i, [])) (h : rd_is b 163 s = false) : rs_ok (rd_run (ps_more b) s) s (fun E => E = ps_E0) := by
  rcases s with _ | ⟨i, _ | ⟨l, ls⟩⟩
  · exact Or.inl ⟨rfl, rfl⟩
  · exact absurd rfl (hs i)
  · simp only [rd_run]
    unfold ps_more
    rw [if_neg]
    · exact Or.inr ⟨_, _, rfl, rfl, rfl⟩
    · intro z
      simp [rd_is, z.1, z.2] at h
theorem rs_moreT {b : Nat → Nat} {s s' : rd_S} {V : ps_E → Prop} (h : rd_is b 163 s = true) (h1 : rs_ok (rd_run (pq_in b 163 (pq_in b 48 (ps_exts b 3 ps_E0))) s) s' V) : rs_ok (rd_run (ps_more b) s) s' V := by
  obtain ⟨i, l, ls, rfl, a1, a2⟩ := rd_isP h
  have e : rd_run (ps_more b) (some (i, l :: ls)) = rd_run (pq_in b 163 (pq_in b 48 (ps_exts b 3 ps_E0))) (some (i, l :: ls)) := by
    simp only [rd_run]
    unfold ps_more
    rw [if_pos ⟨a1, a2⟩]
  rw [e]
  exact h1
theorem rs_exts0 {b : Nat → Nat} {E : ps_E} {s s' : rd_S} {k : Nat} {V : ps_E → Prop} (hk : k ≤ 3) (h : rs_ok (rd_run (ps_ext b E) s) s' V) (hx : 3 ≤ k ∨ rd_rem s' = 0) : rs_ok (rd_run (ps_exts b (3 - k) E) s) s' V := by
  by_cases h3 : k = 3
  · rw [h3]
    exact h
  · have hx : rd_rem s' = 0 := by omega
    obtain ⟨n, hn⟩ : ∃ n, 3 - k = n + 1 := ⟨2 - k, by omega⟩
    rw [hn]
    rcases s with _ | ⟨i, _ | ⟨l, ls⟩⟩
    · rw [rs_none h]
      exact Or.inl ⟨rfl, rfl⟩
    · rw [rs_none (P := ps_ext b E) h]
      exact Or.inl ⟨rfl, rfl⟩
    · simp only [rd_run] at h ⊢
      unfold ps_exts
      cases hp : ps_ext b E i l with
      | none =>
        rw [hp] at h
        rcases h with h | ⟨y, u, h, -⟩
        · exact Or.inl ⟨h.1, rfl⟩
        · cases h
      | some q =>
        obtain ⟨x, j⟩ := q
        rw [hp] at h
        rcases h with h | ⟨y, u, h, h', h''⟩
        · cases h.2
        · simp only [Option.some.injEq, Prod.mk.injEq] at h
          obtain ⟨rfl, rfl⟩ := h
          rw [h'] at hx
          simp only [rd_rem] at hx
          simp only []
          rw [if_neg (by omega)]
          exact Or.inr ⟨_, _, rfl, h', h''⟩
theorem rs_exts1 {b : Nat → Nat} {E : ps_E} {s s' : rd_S} {k : Nat} {V : ps_E → Prop} (hk : k < 3) (h : rs_ok (rd_run (ps_ext b E) s) s' V) (hx : 0 < rd_rem s') : ∃ E', V E' ∧ rd_run (ps_exts b (3 - k) E) s = rd_run (ps_exts b (3 - (k + 1)) E') s' := by
  obtain ⟨n, hn⟩ : ∃ n, 3 - k = n + 1 := ⟨2 - k, by omega⟩
  rw [hn, show 3 - (k + 1) = n by omega]
  rcases h with ⟨rfl, -⟩ | ⟨E', t, hX, rfl, hV⟩
  · exact absurd hx (by simp [rd_rem])
  · refine ⟨E', hV, ?_⟩
    rcases s with _ | ⟨i, _ | ⟨l, ls⟩⟩
    · cases hX
    · cases hX
    · simp only [rd_run] at hX ⊢
      unfold ps_exts
      cases hp : ps_ext b E i l with
      | none => rw [hp] at hX; cases hX
      | some q =>
        obtain ⟨x, j⟩ := q
        rw [hp] at hX
        simp only [Option.some.injEq, Prod.mk.injEq] at hX
        obtain ⟨rfl, rfl⟩ := hX
        simp only [rd_rem] at hx
        simp only []
        rw [if_pos (by omega)]
        cases n <;> rfl
/-- a certificate's cells hold it; b: the bytes it was read from -/
def ct_C (b : Nat → Nat) (M : xm_M) (c : Nat) (C : ps_C) : Prop := ct_H M c C.1.1.1 ∧ ct_E M c C.1.1.2 ∧ M c 10 = C.1.1.2.1.length ∧ M c 8 = ps_hash b C.1.2.1 (C.1.2.2 - C.1.2.1) ∧ M c 7 = C.2
theorem rs_cert {b : Nat → Nat} {n : Nat} {s : rd_S} {V : ps_C → Prop} (h : rs_ok (rd_run (ps_crt b) (some (0, [n]))) s V) : (rd_end s = true ∧ ∃ C, ps_cert b 0 n = some C ∧ V C) ∨ (rd_end s = false ∧ ps_cert b 0 n = none) := by
  simp only [rd_run] at h
  unfold ps_cert
  cases hp : ps_crt b 0 n with
  | none =>
    rw [hp] at h
    rcases h with h | ⟨y, u, h, -⟩
    · rw [h.1]
      exact Or.inr ⟨rfl, rfl⟩
    · cases h
  | some q =>
    obtain ⟨x, j⟩ := q
    rw [hp] at h
    rcases h with h | ⟨y, u, h, h', h''⟩
    · cases h.2
    · simp only [Option.some.injEq, Prod.mk.injEq] at h
      obtain ⟨rfl, rfl⟩ := h
      rw [h']
      simp only [rd_end]
      by_cases hj : j = n
      · simp only [hj, decide_true, if_true]
        exact Or.inl ⟨trivial, x, rfl, h''⟩
      · simp only [hj, decide_false, if_false]
        exact Or.inr ⟨trivial, trivial⟩
theorem rd_of_at {M : xm_M} {i : Nat} {L : List Nat} (h : rd_of M = some (i, L)) : M 1 3 = i := by
  unfold rd_of at h
  split at h
  · simp only [Option.some.injEq, Prod.mk.injEq] at h
    exact h.1
  · cases h
