/-! the reference: extensions -/
def md_Y (S : List Nat) (M M' : xm_M) : Prop := (∀ q, q ≠ 277 → q ≠ 281 → M' q = M q) ∧ ∀ j, j ∉ S → M' 277 j = M 277 j
theorem md_Y.up {S U : List Nat} {A B : xm_M} (h : md_Y S A B) (hS : ∀ x ∈ S, x ∈ U) : md_Y U A B := ⟨h.1, fun j a => h.2 j (fun z => a (hS j z))⟩
theorem md_Y.tt {U : List Nat} {A B C : xm_M} (h : md_Y U A B) (g : md_Y U B C) : md_Y U A C := ⟨fun q a b => (g.1 q a b).trans (h.1 q a b), fun j a => (g.2 j a).trans (h.2 j a)⟩
theorem md_Y.rf (U : List Nat) (A : xm_M) : md_Y U A A := ⟨fun _ _ _ => rfl, fun _ _ => rfl⟩
theorem md_X.y {S : List Nat} {A B : xm_M} (h : md_X S A B) : md_Y S A B := ⟨fun q a _ => h.1 q a, h.2⟩
theorem md_Y.num (M : xm_M) (k v : Nat) : md_Y [] M (xm_set M 281 k v) := ⟨fun q _ b => xm_oth b, fun j _ => by rw [xm_oth (by decide)]⟩
def md_sl : List Nat := [6, 7, 16, 17, 18, 25, 27, 28, 29, 30, 31, 32, 33, 34, 35, 36, 37]
def md_L (M : xm_M) (l : List (Nat × Bool × List Nat)) : Prop := l.length ≤ 4 ∧ M 277 25 = l.length ∧ (∀ j, j < l.length → M 281 j = (l.getD j (0, false, [])).1 ∧ M 281 j < 256) ∧ M 277 27 ≤ 1 ∧ (M 277 27 = 1 ↔ ∃ x ∈ l, x.2.1 = true ∧ ¬ (x.1 = 1 ∨ x.1 = 2 ∨ x.1 = 3))
def md_R (b : Nat → Nat) (M : xm_M) (R : Bool × Option Nat × Option Nat × List ps_N × List ps_N) : Prop := M 277 28 ≤ 1 ∧ (R.1 = true → M 277 28 = 1) ∧ M 277 29 = (if R.1 = true then 1 else 0) ∧ M 277 30 = ct_o R.2.1 ∧ M 277 31 = ct_u R.2.2.1 ∧ md_l b (M 277 32) (M 277 33) (M 277 34) R.2.2.2.1 ∧ md_l b (M 277 35) (M 277 36) (M 277 37) R.2.2.2.2
def md_E (b : Nat → Nat) (M : xm_M) (E : ps_E) : Prop := md_L M E.1 ∧ md_R b M E.2 ∧ (E.1.any (fun x => x.1 == 3) = false → E.2.2.2.2 = ([], []))
theorem md_E_cg {b : Nat → Nat} {M M' : xm_M} {E : ps_E} (h1 : M' 281 = M 281) (h2 : ∀ j, 25 ≤ j → M' 277 j = M 277 j) (h : md_E b M E) : md_E b M' E := by
  unfold md_E md_L md_R at *
  rw [h1, h2 25 (by decide), h2 27 (by decide), h2 28 (by decide), h2 29 (by decide), h2 30 (by decide), h2 31 (by decide), h2 32 (by decide), h2 33 (by decide), h2 34 (by decide), h2 35 (by decide), h2 36 (by decide), h2 37 (by decide)]
  exact h
theorem md_any {M : xm_M} {l : List (Nat × Bool × List Nat)} {w : Nat} (hL : md_L M l) : l.any (fun x => x.1 == w) = true ↔ ∃ j, j < l.length ∧ M 281 j = w := by
  have hE := hL.2.2.1
  rw [List.any_eq_true]
  constructor
  · rintro ⟨x, hx, hw⟩
    obtain ⟨j, hj, he⟩ := List.getElem_of_mem hx
    refine ⟨j, hj, ?_⟩
    rw [(hE j hj).1]
    simp only [List.getD_eq_getElem?_getD, List.getElem?_eq_getElem hj, Option.getD_some, he]
    simpa using hw
  · rintro ⟨j, hj, hw⟩
    refine ⟨l[j], List.getElem_mem hj, ?_⟩
    have := (hE j hj).1
    rw [hw] at this
    simp only [List.getD_eq_getElem?_getD, List.getElem?_eq_getElem hj, Option.getD_some] at this
    simp [← this]
theorem md_L_app {M M' : xm_M} {l : List (Nat × Bool × List Nat)} {num v : Nat} {c : Bool} {o : List Nat} (hL : md_L M l) (h4 : l.length ≠ 4) (hn : num < 256) (h25 : M' 277 25 = l.length + 1) (h81 : ∀ j, j ≠ l.length → M' 281 j = M 281 j) (h81' : M' 281 l.length = num) (h27 : M' 277 27 = v) (hv : v ≤ 1) (hvi : v = 1 ↔ (M 277 27 = 1 ∨ (c = true ∧ ¬ (num = 1 ∨ num = 2 ∨ num = 3)))) : md_L M' (l ++ [(num, c, o)]) := by
  obtain ⟨a1, a2, a3, a4, a5⟩ := hL
  refine ⟨by simp; omega, by simp; exact h25, fun j hj => ?_, by omega, ?_⟩
  · simp at hj
    by_cases hjl : j = l.length
    · subst hjl
      rw [h81']
      simp [hn]
    · rw [h81 j hjl]
      have := a3 j (by omega)
      simp only [List.getD_eq_getElem?_getD, List.getElem?_append_left (show j < l.length by omega)] at this ⊢
      exact this
  · rw [h27, hvi, a5]
    constructor
    · rintro (⟨x, hx, h⟩ | h)
      · exact ⟨x, List.mem_append_left _ hx, h⟩
      · exact ⟨(num, c, o), by simp, h⟩
    · rintro ⟨x, hx, h⟩
      rcases List.mem_append.mp hx with hx | hx
      · exact Or.inl ⟨x, hx, h⟩
      · simp at hx
        subst hx
        exact Or.inr h
theorem mo_map {α β : Type} {P : Nat → Nat → Option (α × Nat)} {Q : Nat → Nat → Option (β × Nat)} {f : α → β} {l : Nat} {s s' : Option Nat} {V : α → Prop} (hQ : ∀ i l, Q i l = match P i l with
    | none => none
    | some (x, k) => some (f x, k)) (h : mo_ok (mo_run P l s) s' V) : mo_ok (mo_run Q l s) s' (fun y => ∃ x, V x ∧ y = f x) := by
  cases s with
  | none =>
    rw [mo_none h]
    exact Or.inl ⟨rfl, rfl⟩
  | some i =>
    simp only [mo_run] at h ⊢
    rw [hQ]
    rcases h with ⟨rfl, h⟩ | ⟨x, j, h, rfl, hV⟩
    · rw [h]
      exact Or.inl ⟨rfl, rfl⟩
    · rw [h]
      exact Or.inr ⟨_, _, rfl, rfl, x, hV, rfl⟩
theorem mo_con1 {b : Nat → Nat} {c : Bool} {E : ps_E} {l : Nat} {s s' : Option Nat} {V : Bool × Option Nat → Prop} (h : mo_ok (mo_run (ps_basic b) l s) s' V) : mo_ok (mo_run (ps_con b 1 c E) l s) s' (fun E' => ∃ z, V z ∧ E' = (E.1 ++ [(1, c, [])], z.1, ps_or z.2 E.2.2.1, E.2.2.2)) := by
  refine mo_map (f := fun z => (E.1 ++ [(1, c, [])], z.1, ps_or z.2 E.2.2.1, E.2.2.2)) (fun i l => ?_) h
  unfold ps_con
  rw [if_pos rfl]
  cases ps_basic b i l <;> rfl
theorem mo_con2 {b : Nat → Nat} {c : Bool} {E : ps_E} {l : Nat} {s s' : Option Nat} {V : Nat → Prop} (h : mo_ok (mo_run (ps_bits b) l s) s' V) : mo_ok (mo_run (ps_con b 2 c E) l s) s' (fun E' => ∃ z, V z ∧ E' = (E.1 ++ [(2, c, [])], E.2.1, E.2.2.1, some z, E.2.2.2.2)) := by
  refine mo_map (f := fun z => (E.1 ++ [(2, c, [])], E.2.1, E.2.2.1, some z, E.2.2.2.2)) (fun i l => ?_) h
  unfold ps_con
  rw [if_neg (by decide), if_pos rfl]
  cases ps_bits b i l <;> rfl
theorem mo_con3 {b : Nat → Nat} {c : Bool} {E : ps_E} {l : Nat} {s s' : Option Nat} {V : List ps_N × List ps_N → Prop} (h : mo_ok (mo_run (ps_bounds b) l s) s' V) : mo_ok (mo_run (ps_con b 3 c E) l s) s' (fun E' => ∃ z, V z ∧ E' = (E.1 ++ [(3, c, [])], E.2.1, E.2.2.1, E.2.2.2.1, z)) := by
  refine mo_map (f := fun z => (E.1 ++ [(3, c, [])], E.2.1, E.2.2.1, E.2.2.2.1, z)) (fun i l => ?_) h
  unfold ps_con
  rw [if_neg (by decide), if_neg (by decide), if_pos rfl]
  cases ps_bounds b i l <;> rfl
theorem mo_con4 {b : Nat → Nat} {c : Bool} {E : ps_E} {l num : Nat} {s s' : Option Nat} (hn : ¬ (num = 1 ∨ num = 2 ∨ num = 3)) (h0 : s = none → s' = none) (h : ∀ i, s = some i → s' = if l - i ≤ 20 then some l else none) : mo_ok (mo_run (ps_con b num c E) l s) s' (fun E' => ∃ o, E' = (E.1 ++ [(num, c, o)], E.2)) := by
  cases s with
  | none =>
    rw [h0 rfl]
    exact Or.inl ⟨rfl, rfl⟩
  | some i =>
    rw [h i rfl]
    simp only [mo_run]
    unfold ps_con
    rw [if_neg (by omega), if_neg (by omega), if_neg (by omega)]
    by_cases hc : l - i ≤ 20
    · rw [if_pos hc, if_pos hc]
      exact Or.inr ⟨_, _, rfl, rfl, _, rfl⟩
    · rw [if_neg hc, if_neg hc]
      exact Or.inl ⟨rfl, rfl⟩
theorem mo_int255 {b : Nat → Nat} {i l j num : Nat} (h : ps_int b i l = some (num, j)) (hn : num ≤ 255) : ps_intr b 0 255 i l = some (num, j) := by
  unfold ps_intr
  rw [h]
  simp only []
  rw [if_pos ⟨by omega, hn⟩]
theorem mo_exc {b : Nat → Nat} {E : ps_E} {e num : Nat} {c : Bool} {s s1 s2 s3 : Option Nat} {V : ps_E → Prop} (h1 : mo_ok (mo_run (ps_int b) e s) s1 (fun x => x = num)) (hs : s1 ≠ none) (hn : num ≤ 255) (hd : ¬ (E.1.any (fun x => x.1 == num)) = true) (h2 : mo_ok (mo_run (ps_tru b) e s1) s2 (fun x => x = c)) (h3 : mo_ok (mo_run (pq_in b 4 (ps_con b num c E)) e s2) s3 V) : mo_ok (mo_run (ps_exc b E) e s) s3 V := by
  cases s with
  | none => exact absurd (mo_none h1) hs
  | some i =>
    rcases h1 with ⟨rfl, -⟩ | ⟨x, j, h1, rfl, rfl⟩
    · exact absurd rfl hs
    · simp only [mo_run] at h1 h2 ⊢
      unfold ps_exc
      rw [mo_int255 h1 hn]
      simp only []
      rw [if_neg hd]
      rcases h2 with ⟨rfl, h2⟩ | ⟨y, k, h2, rfl, rfl⟩
      · rw [h2, mo_none h3]
        exact Or.inl ⟨rfl, rfl⟩
      · rw [h2]
        exact h3
/-- a number that is not one, or is there already, makes the extension wrong -/
theorem mo_excF {b : Nat → Nat} {E : ps_E} {l e num : Nat} {s s0 s1 : Option Nat} (hen : mo_en b 48 l s s0 e) (h1 : mo_ok (mo_run (ps_int b) e s0) s1 (fun x => x = num)) (hb : s1 = none ∨ 255 < num ∨ (E.1.any (fun x => x.1 == num)) = true) : mo_run (ps_ext b E) l s = none := by
  have h : mo_ok (mo_run (ps_exc b E) e s0) none (fun _ => True) := by
    cases s0 with
    | none => exact Or.inl ⟨rfl, rfl⟩
    | some i =>
      refine Or.inl ⟨rfl, ?_⟩
      simp only [mo_run] at h1 ⊢
      unfold ps_exc ps_intr
      rcases h1 with ⟨rfl, h1⟩ | ⟨x, j, h1, rfl, rfl⟩
      · rw [h1]
      · rw [h1]
        simp only []
        rcases hb with hb | hb | hb
        · cases hb
        · rw [if_neg (by omega)]
        · by_cases hc : 0 ≤ x ∧ x ≤ 255
          · rw [if_pos hc]
            simp only []
            rw [if_pos hb]
          · rw [if_neg hc]
  rcases mo_in hen h with h | ⟨x, j, -, h, -⟩
  · exact h.2
  · cases h
