/-! the reference: extensions one behind the other, the body, the certificate -/
theorem pq_in_some {α : Type} {b : Nat → Nat} {tag i l j : Nat} {P : Nat → Nat → Option (α × Nat)} {x : α} (h : pq_in b tag P i l = some (x, j)) : i + 2 ≤ j ∧ j ≤ l ∧ b i = tag ∧ ∃ f, ps_hd b tag i l = some (f, j) ∧ P f j = some (x, j) := by
  unfold pq_in at h
  cases hh : ps_hd b tag i l with
  | none => rw [hh] at h; cases h
  | some p =>
    obtain ⟨f, e⟩ := p
    rw [hh] at h
    simp only [] at h
    have h2 := ps_hd_some hh
    cases hp : P f e with
    | none => rw [hp] at h; cases h
    | some q =>
      obtain ⟨y, k⟩ := q
      rw [hp] at h
      simp only [] at h
      by_cases hk : k = e
      · rw [if_pos hk] at h
        simp only [Option.some.injEq, Prod.mk.injEq] at h
        obtain ⟨rfl, rfl⟩ := h
        subst hk
        exact ⟨by omega, by omega, h2.2.2.2.2.1, f, rfl, hp⟩
      · rw [if_neg hk] at h
        cases h
theorem ps_con_len {b : Nat → Nat} {num : Nat} {c : Bool} {E E' : ps_E} {i l j : Nat} (h : ps_con b num c E i l = some (E', j)) : E'.1.length = E.1.length + 1 := by
  unfold ps_con at h
  repeat' split at h
  all_goals first
    | (cases h; done)
    | (simp only [Option.some.injEq, Prod.mk.injEq] at h; obtain ⟨rfl, -⟩ := h; simp)
theorem ps_ext_len {b : Nat → Nat} {E E' : ps_E} {i l j : Nat} (h : ps_ext b E i l = some (E', j)) : i + 2 ≤ j ∧ j ≤ l ∧ E'.1.length = E.1.length + 1 := by
  obtain ⟨h1, h2, -, f, -, h3⟩ := pq_in_some h
  refine ⟨h1, h2, ?_⟩
  unfold ps_exc at h3
  repeat' split at h3
  all_goals first
    | (cases h3; done)
    | (obtain ⟨-, -, -, g, -, h4⟩ := pq_in_some h3; exact ps_con_len h4)
def mx_z {α : Type} (e : Nat) (r : Option (α × Nat)) : Option (α × Nat) := match r with
  | some (x, j) => if j = e then some (x, e) else none
  | none => none
def mx_O (b : Nat → Nat) (Z : Option (ps_E × Nat)) (e : Nat) (s : Option Nat) (E : ps_E) : Prop :=
  (s = none ∧ Z = none) ∨ ∃ i, s = some i ∧ i ≤ e ∧ E.1.length ≤ 4 ∧ Z = mx_z e (if E.1.length = 0 then ps_exts b 3 E i e else if i < e then (if E.1.length = 4 then none else ps_exts b (3 - E.1.length) E i e) else some (E, i))
theorem mx_O0 {b : Nat → Nat} {l e : Nat} {s s1 : Option Nat} (h : mo_en b 48 l s s1 e) : mx_O b (mo_run (pq_in b 48 (ps_exts b 3 ps_E0)) l s) e s1 ps_E0 := by
  rcases h with ⟨rfl, h⟩ | ⟨f, h, rfl⟩
  · refine Or.inl ⟨rfl, ?_⟩
    cases s with
    | none => rfl
    | some i =>
      simp only [mo_hd] at h
      simp only [mo_run, pq_in, h]
  · have hle := (mo_hd_some h).1
    cases s with
    | none => cases h
    | some i =>
      simp only [mo_hd] at h
      refine Or.inr ⟨f, rfl, hle, by decide, ?_⟩
      simp only [mo_run, pq_in, h]
      rw [if_pos (show ps_E0.1.length = 0 from rfl)]
      unfold mx_z
      cases ps_exts b 3 ps_E0 f e <;> rfl
theorem ps_exts_none {b : Nat → Nat} {E : ps_E} {i l : Nat} (h : ps_ext b E i l = none) : ∀ n, ps_exts b n E i l = none
  | 0 => h
  | n + 1 => by
    unfold ps_exts
    rw [h]
theorem mx_O1 {b : Nat → Nat} {Z : Option (ps_E × Nat)} {e i : Nat} {s' : Option Nat} {E : ps_E} {V : ps_E → Prop} (h : mx_O b Z e (some i) E) (hi : i < e) (hx : mo_ok (if E.1.length = 4 then none else mo_run (ps_ext b E) e (some i)) s' V) : ∃ E', (s' ≠ none → V E') ∧ mx_O b Z e s' E' ∧ ∀ j, s' = some j → i < j ∧ j ≤ e := by
  rcases h with ⟨h, -⟩ | ⟨i', h, hie, hl, hZ⟩
  · cases h
  · cases h
    rcases hx with ⟨rfl, hx⟩ | ⟨E', j, hx, rfl, hV⟩
    · refine ⟨E, fun z => absurd rfl z, Or.inl ⟨rfl, ?_⟩, fun j hj => by cases hj⟩
      rw [hZ]
      by_cases h4 : E.1.length = 4
      · rw [if_neg (by omega), if_pos hi, if_pos h4]
        rfl
      · rw [if_neg h4] at hx
        simp only [mo_run] at hx
        rw [ps_exts_none hx, if_pos hi, if_neg h4, ps_exts_none hx]
        split <;> rfl
    · by_cases h4 : E.1.length = 4
      · rw [if_pos h4] at hx
        cases hx
      · rw [if_neg h4] at hx
        simp only [mo_run] at hx
        obtain ⟨g1, g2, g3⟩ := ps_ext_len hx
        refine ⟨E', fun _ => hV, Or.inr ⟨j, rfl, g2, by omega, ?_⟩, fun j' hj => by cases hj; omega⟩
        rw [hZ, if_pos hi, if_neg h4, if_neg (show ¬ E'.1.length = 0 by omega)]
        have key : mx_z e (ps_exts b (3 - E.1.length) E i e) = mx_z e (if j < e then (if E'.1.length = 4 then none else ps_exts b (3 - E'.1.length) E' j e) else some (E', j)) := by
          by_cases h3 : E.1.length = 3
          · rw [show 3 - E.1.length = 0 by omega]
            unfold ps_exts
            rw [hx]
            by_cases hj : j < e
            · rw [if_pos hj, if_pos (by omega)]
              unfold mx_z
              simp only []
              rw [if_neg (by omega)]
            · rw [if_neg hj]
          · rw [show 3 - E.1.length = (3 - E'.1.length) + 1 by omega, ps_exts, hx]
            simp only []
            by_cases hj : j < e
            · rw [if_pos hj, if_pos hj, if_neg (by omega)]
            · rw [if_neg hj, if_neg hj]
        rw [← key]
        by_cases h0 : E.1.length = 0
        · rw [if_pos h0, h0]
        · rw [if_neg h0]
theorem mx_O2 {b : Nat → Nat} {Z : Option (ps_E × Nat)} {e : Nat} {s s2 : Option Nat} {E : ps_E} (h : mx_O b Z e s E) (hx : s = none ∨ s = some e) (hs : s2 = if E.1.length = 0 then none else s) : mo_ok Z (mo_lv e s2) (fun x => x = E) := by
  rcases h with ⟨rfl, h⟩ | ⟨i, rfl, hie, hl, hZ⟩
  · refine Or.inl ⟨?_, h⟩
    rw [hs]
    split <;> rfl
  · rcases hx with hx | hx
    · cases hx
    · cases hx
      by_cases h0 : E.1.length = 0
      · rw [if_pos h0] at hs hZ
        rw [hs]
        refine Or.inl ⟨rfl, ?_⟩
        rw [hZ, ps_exts_none]
        · rfl
        · cases hh : ps_ext b E e e with
          | none => rfl
          | some p =>
            obtain ⟨x, j⟩ := p
            have := ps_ext_len hh
            omega
      · rw [if_neg h0] at hs hZ
        rw [hs]
        refine Or.inr ⟨E, e, ?_, ?_, rfl⟩
        · rw [hZ, if_neg (Nat.lt_irrefl _)]
          unfold mx_z
          simp
        · unfold mo_lv
          simp
theorem mo_more0 {b : Nat → Nat} {l : Nat} {s : Option Nat} (h : ∀ i, s = some i → ¬ i < l) : mo_ok (mo_run (ps_more b) l s) s (fun x => x = ps_E0) := by
  cases s with
  | none => exact Or.inl ⟨rfl, rfl⟩
  | some i =>
    refine Or.inr ⟨ps_E0, i, ?_, rfl, rfl⟩
    simp only [mo_run, ps_more]
    rw [if_neg (fun z => h i rfl z.1)]
theorem mo_more1 {b : Nat → Nat} {l i : Nat} {s' : Option Nat} {V : ps_E → Prop} (hi : i < l) (h : mo_ok (mo_run (pq_in b 163 (pq_in b 48 (ps_exts b 3 ps_E0))) l (some i)) s' V) : ∃ s9, mo_ok (mo_run (ps_more b) l (some i)) s9 (fun E => s' ≠ none → V E) ∧ mo_lv l s9 = mo_lv l s' := by
  by_cases hb : b i = 163
  · refine ⟨s', ?_, rfl⟩
    simp only [mo_run, ps_more] at h ⊢
    rw [if_pos ⟨hi, hb⟩]
    exact h.imp (fun E hE _ => hE)
  · have hn : s' = none := by
      rcases h with h | ⟨x, j, h, -, -⟩
      · exact h.1
      · exact absurd (pq_in_some h).2.2.1 hb
    subst hn
    refine ⟨some i, Or.inr ⟨ps_E0, i, ?_, rfl, fun z => absurd rfl z⟩, ?_⟩
    · simp only [mo_run, ps_more]
      rw [if_neg (fun z => hb z.2)]
    · unfold mo_lv
      simp only []
      rw [if_neg (by omega)]
theorem mo_pos {α : Type} {P : Nat → Nat → Option (α × Nat)} {l : Nat} {s s' : Option Nat} {V : α → Prop} (h : mo_ok (mo_run P l s) s' V) : mo_ok (mo_run (pq_pos P) l s) s' (fun z => V z.1 ∧ s = some z.2.1 ∧ s' = some z.2.2) := by
  cases s with
  | none =>
    rw [mo_none h]
    exact Or.inl ⟨rfl, rfl⟩
  | some i =>
    simp only [mo_run] at h ⊢
    unfold pq_pos
    rcases h with ⟨rfl, h⟩ | ⟨x, j, h, rfl, hV⟩
    · rw [h]
      exact Or.inl ⟨rfl, rfl⟩
    · rw [h]
      exact Or.inr ⟨_, _, rfl, rfl, hV, rfl, rfl⟩
/-- the fields of a name -/
def md_n (b : Nat → Nat) (f t n : Nat) (x : ps_N) : Prop := ps_labels b t 4 f = some x ∧ n = x.length ∧ f ≤ t ∧ t ≤ 1440
theorem mo_nm {b : Nat → Nat} {l n f t : Nat} {s s1 : Option Nat} (hl : l ≤ 1440) (h : mo_ok (mo_run (ps_name b) l s) s1 (fun x => x.length = n ∧ mo_hd b 48 l s = some (f, t))) : mo_ok (mo_run (ps_name b) l s) s1 (fun x => md_n b f t n x) := by
  rcases h with h | ⟨x, j, h, hj, h1, h2⟩
  · exact Or.inl h
  · refine Or.inr ⟨x, j, h, hj, ?_⟩
    obtain ⟨g1, g2, -⟩ := mo_hd_some h2
    refine ⟨?_, h1.symm, g1, by omega⟩
    cases s with
    | none => cases h
    | some i =>
      simp only [mo_hd] at h2
      simp only [mo_run, ps_name, h2] at h
      cases hq : ps_labels b t 4 f with
      | none => rw [hq] at h; cases h
      | some q =>
        rw [hq] at h
        simp only [Option.some.injEq, Prod.mk.injEq] at h
        rw [h.1]
def md_H (b : Nat → Nat) (M : xm_M) (H : ps_H) : Prop := M 277 8 = H.1 ∧ md_n b (M 277 19) (M 277 20) (M 277 21) H.2.1 ∧ (M 277 9 = H.2.2.1.1 ∧ M 277 10 = H.2.2.1.2) ∧ md_n b (M 277 22) (M 277 23) (M 277 24) H.2.2.2.1 ∧ M 277 11 = H.2.2.2.2.1 ∧ M 277 12 = H.2.2.2.2.2
def md_C (b : Nat → Nat) (M : xm_M) (C : ps_C) : Prop := md_H b M C.1.1.1 ∧ md_E b M C.1.1.2 ∧ M 277 14 = C.1.2.1 ∧ M 277 15 = C.1.2.2 ∧ M 277 13 = C.2
def md_al : List Nat := [6, 7, 8, 9, 10, 11, 12, 13, 14, 15, 16, 17, 18, 19, 20, 21, 22, 23, 24, 25, 26, 27, 28, 29, 30, 31, 32, 33, 34, 35, 36, 37]
theorem md_E00 {b : Nat → Nat} {M : xm_M} (h25 : M 277 25 = 0) (h27 : M 277 27 = 0) (h28 : M 277 28 = 0) (h29 : M 277 29 = 0) (h30 : M 277 30 = 4294967295) (h31 : M 277 31 = 4294967295) (h32 : M 277 32 = 0) (h35 : M 277 35 = 0) : md_E b M ps_E0 := by
  refine ⟨⟨by decide, h25, fun j hj => absurd hj (Nat.not_lt_zero _), by omega, ?_⟩, ⟨by omega, fun z => (by cases z), h29, h30, h31, ⟨h32, fun z => absurd rfl z⟩, ⟨h35, fun z => absurd rfl z⟩⟩, fun _ => rfl⟩
  rw [h27]
  constructor
  · intro z
    cases z
  · rintro ⟨x, hx, -⟩
    cases hx
theorem mo_cert {b : Nat → Nat} {f l : Nat} {s : Option Nat} {V : ps_C → Prop} (h : mo_ok (mo_run (ps_crt b) l (some f)) s V) : (mo_lv l s = none ∧ ps_cert b f l = none) ∨ ∃ C, ps_cert b f l = some C ∧ V C ∧ mo_lv l s = some l := by
  simp only [mo_run] at h
  unfold ps_cert
  rcases h with ⟨rfl, h⟩ | ⟨x, j, h, rfl, hV⟩
  · rw [h]
    exact Or.inl ⟨rfl, rfl⟩
  · rw [h]
    unfold mo_lv
    simp only []
    by_cases hj : j = l
    · rw [if_pos hj, if_pos hj]
      exact Or.inr ⟨x, rfl, hV, by rw [hj]⟩
    · rw [if_neg hj, if_neg hj]
      exact Or.inl ⟨rfl, rfl⟩
