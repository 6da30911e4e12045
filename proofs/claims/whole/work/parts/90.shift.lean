/-! the same bytes at another place: the same encoding -/
section SH
variable {b b' : Nat → Nat} {n d : Nat}
def sh_b (n d : Nat) (b b' : Nat → Nat) : Prop := ∀ j, j < n → b' (d + j) = b j
def sh_R {α β : Type} (n d : Nat) (g : α → β) (P : Nat → Nat → Option (α × Nat)) (P' : Nat → Nat → Option (β × Nat)) : Prop := ∀ i l, i ≤ l → l ≤ n → P' (d + i) (d + l) = (P i l).map (fun q => (g q.1, d + q.2)) ∧ ∀ x j, P i l = some (x, j) → i ≤ j ∧ j ≤ l
theorem sh_hd (hb : sh_b n d b b') {tag i l : Nat} (hl : l ≤ n) : ps_hd b' tag (d + i) (d + l) = (ps_hd b tag i l).map (fun q => (d + q.1, d + q.2)) := by
  unfold ps_hd
  by_cases h2 : i + 2 ≤ l
  · have e0 : b' (d + i) = b i := hb i (by omega)
    have e1 : b' (d + i + 1) = b (i + 1) := hb (i + 1) (by omega)
    rw [e0, e1]
    by_cases h3 : i + 3 ≤ l
    · have e2 : b' (d + i + 2) = b (i + 2) := hb (i + 2) (by omega)
      rw [e2]
      (repeat' split) <;> first
        | rfl
        | (exfalso; omega)
        | (simp only [Option.map_some, Option.some.injEq, Prod.mk.injEq]; omega)
    · (repeat' split) <;> first
        | rfl
        | (exfalso; omega)
        | (simp only [Option.map_some, Option.some.injEq, Prod.mk.injEq]; omega)
  · rw [if_neg (by omega), if_neg (by omega)]
    rfl
theorem sh_be (hb : sh_b n d b b') {f : Nat} : ∀ k, f + k ≤ n → ps_be b' (d + f) k = ps_be b f k
  | 0, _ => rfl
  | k + 1, h => by
    unfold ps_be
    rw [sh_be hb k (by omega), show d + f + k = d + (f + k) by omega, hb (f + k) (by omega)]
theorem sh_hash (hb : sh_b n d b b') {f : Nat} : ∀ k, f + k ≤ n → ps_hash b' (d + f) k = ps_hash b f k
  | 0, _ => rfl
  | k + 1, h => by
    unfold ps_hash
    rw [sh_hash hb k (by omega), show d + f + k = d + (f + k) by omega, hb (f + k) (by omega)]
theorem sh_sl (hb : sh_b n d b b') {f g : Nat} (hg : g ≤ n) : ps_sl b' (d + f) (d + g) = ps_sl b f g := by
  unfold ps_sl
  rw [show d + g - (d + f) = g - f by omega]
  apply List.map_congr_left
  intro j hj
  have := List.mem_range.mp hj
  rw [show d + f + j = d + (f + j) by omega, hb (f + j) (by omega)]
theorem sh_int (hb : sh_b n d b b') : sh_R n d (fun x => x) (ps_int b) (ps_int b') := by
  intro i l hi hl
  unfold ps_int
  rw [sh_hd hb hl]
  cases hh : ps_hd b 2 i l with
  | none => exact ⟨rfl, fun x j h => by cases h⟩
  | some q =>
    obtain ⟨f, e⟩ := q
    have hq := ps_hd_some hh
    simp only [Option.map_some]
    rw [show d + e - (d + f) = e - f by omega]
    by_cases hz : 1 ≤ e - f
    · have e0 : b' (d + f) = b f := hb f (by omega)
      by_cases hz2 : 1 < e - f
      · have e1 : b' (d + f + 1) = b (f + 1) := hb (f + 1) (by omega)
        rw [e0, e1]
        split
        · refine ⟨?_, fun x j h => ?_⟩
          · simp only [Option.map_some, Option.some.injEq, Prod.mk.injEq]
            exact ⟨sh_be hb _ (by omega), trivial⟩
          · simp only [Option.some.injEq, Prod.mk.injEq] at h
            omega
        · exact ⟨rfl, fun x j h => by cases h⟩
      · rw [e0]
        have e1 : (1 ≤ e - f ∧ e - f ≤ 4 ∧ b f ≤ 127 ∧ ¬ (1 < e - f ∧ b f = 0 ∧ b' (d + f + 1) < 128)) ↔ (1 ≤ e - f ∧ e - f ≤ 4 ∧ b f ≤ 127 ∧ ¬ (1 < e - f ∧ b f = 0 ∧ b (f + 1) < 128)) := by omega
        simp only [e1]
        split
        · refine ⟨?_, fun x j h => ?_⟩
          · simp only [Option.map_some, Option.some.injEq, Prod.mk.injEq]
            exact ⟨sh_be hb _ (by omega), trivial⟩
          · simp only [Option.some.injEq, Prod.mk.injEq] at h
            omega
        · exact ⟨rfl, fun x j h => by cases h⟩
    · rw [if_neg (by omega), if_neg (by omega)]
      exact ⟨rfl, fun x j h => by cases h⟩
theorem sh_tru (hb : sh_b n d b b') : sh_R n d (fun x => x) (ps_tru b) (ps_tru b') := by
  intro i l hi hl
  unfold ps_tru
  by_cases hz : i < l
  · rw [hb i (by omega), sh_hd hb hl]
    by_cases h1 : b i = 1
    · rw [if_pos ⟨by omega, h1⟩, if_pos ⟨hz, h1⟩]
      cases hh : ps_hd b 1 i l with
      | none => exact ⟨rfl, fun x j h => by cases h⟩
      | some q =>
        obtain ⟨f, e⟩ := q
        have hq := ps_hd_some hh
        simp only [Option.map_some]
        by_cases he : e = f + 1
        · rw [hb f (by omega)]
          by_cases h255 : b f = 255
          · rw [if_pos ⟨by omega, h255⟩, if_pos ⟨he, h255⟩]
            refine ⟨rfl, fun x j h => ?_⟩
            simp only [Option.some.injEq, Prod.mk.injEq] at h
            omega
          · rw [if_neg (fun z => h255 z.2), if_neg (fun z => h255 z.2)]
            exact ⟨rfl, fun x j h => by cases h⟩
        · rw [if_neg (fun z => he (by omega)), if_neg (fun z => he z.1)]
          exact ⟨rfl, fun x j h => by cases h⟩
    · rw [if_neg (fun z => h1 z.2), if_neg (fun z => h1 z.2)]
      refine ⟨rfl, fun x j h => ?_⟩
      simp only [Option.some.injEq, Prod.mk.injEq] at h
      omega
  · rw [if_neg (fun z => hz (by omega)), if_neg (fun z => hz z.1)]
    refine ⟨rfl, fun x j h => ?_⟩
    simp only [Option.some.injEq, Prod.mk.injEq] at h
    omega
theorem sh_label (hb : sh_b n d b b') : sh_R n d (fun x => x) (ps_label b) (ps_label b') := by
  intro i l hi hl
  unfold ps_label
  rw [sh_hd hb hl]
  cases hh : ps_hd b 19 i l with
  | none => exact ⟨rfl, fun x j h => by cases h⟩
  | some q =>
    obtain ⟨f, e⟩ := q
    have hq := ps_hd_some hh
    simp only [Option.map_some]
    rw [show d + e - (d + f) = e - f by omega, sh_sl hb (by omega)]
    split
    · refine ⟨rfl, fun x j h => ?_⟩
      simp only [Option.some.injEq, Prod.mk.injEq] at h
      omega
    · exact ⟨rfl, fun x j h => by cases h⟩
theorem sh_labels (hb : sh_b n d b b') {e : Nat} (he : e ≤ n) : ∀ k i, i ≤ e → ps_labels b' (d + e) k (d + i) = ps_labels b e k i
  | 0, i, hi => by
    unfold ps_labels
    by_cases h : i = e
    · rw [if_pos (by omega), if_pos h]
    · rw [if_neg (by omega), if_neg h]
  | k + 1, i, hi => by
    unfold ps_labels
    by_cases h : i = e
    · rw [if_pos (by omega), if_pos h]
    · rw [if_neg (by omega), if_neg h]
      obtain ⟨h1, h2⟩ := sh_label hb i e hi he
      rw [h1]
      cases hp : ps_label b i e with
      | none => rfl
      | some q =>
        obtain ⟨x, j⟩ := q
        have := h2 x j hp
        simp only [Option.map_some]
        rw [sh_labels hb he k j (by omega)]
theorem sh_name (hb : sh_b n d b b') : sh_R n d (fun x => x) (ps_name b) (ps_name b') := by
  intro i l hi hl
  unfold ps_name
  rw [sh_hd hb hl]
  cases hh : ps_hd b 48 i l with
  | none => exact ⟨rfl, fun x j h => by cases h⟩
  | some q =>
    obtain ⟨f, e⟩ := q
    have hq := ps_hd_some hh
    simp only [Option.map_some]
    rw [sh_labels hb (by omega) 4 f (by omega)]
    cases ps_labels b e 4 f with
    | none => exact ⟨rfl, fun x j h => by cases h⟩
    | some y =>
      refine ⟨rfl, fun x j h => ?_⟩
      simp only [Option.some.injEq, Prod.mk.injEq] at h
      omega
theorem sh_names (hb : sh_b n d b b') {e : Nat} (he : e ≤ n) : ∀ k i, i ≤ e → ps_names b' (d + e) k (d + i) = ps_names b e k i
  | 0, i, hi => by
    unfold ps_names
    by_cases h : i = e
    · rw [if_pos (by omega), if_pos h]
    · rw [if_neg (by omega), if_neg h]
  | k + 1, i, hi => by
    unfold ps_names
    by_cases h : i = e
    · rw [if_pos (by omega), if_pos h]
    · rw [if_neg (by omega), if_neg h]
      obtain ⟨h1, h2⟩ := sh_name hb i e hi he
      rw [h1]
      cases hp : ps_name b i e with
      | none => rfl
      | some q =>
        obtain ⟨x, j⟩ := q
        have := h2 x j hp
        simp only [Option.map_some]
        rw [sh_names hb he k j (by omega)]
theorem sh_list (hb : sh_b n d b b') (tag : Nat) : sh_R n d (fun x => x) (ps_list b tag) (ps_list b' tag) := by
  intro i l hi hl
  unfold ps_list
  by_cases hz : i < l
  · rw [hb i (by omega), sh_hd hb hl]
    by_cases h1 : b i = tag
    · rw [if_pos ⟨by omega, h1⟩, if_pos ⟨hz, h1⟩]
      cases hh : ps_hd b tag i l with
      | none => exact ⟨rfl, fun x j h => by cases h⟩
      | some q =>
        obtain ⟨f, e⟩ := q
        have hq := ps_hd_some hh
        simp only [Option.map_some]
        by_cases hfe : f = e
        · rw [if_pos (by omega), if_pos hfe]
          exact ⟨rfl, fun x j h => by cases h⟩
        · rw [if_neg (by omega), if_neg hfe, sh_names hb (by omega) 3 f (by omega)]
          cases ps_names b e 3 f with
          | none => exact ⟨rfl, fun x j h => by cases h⟩
          | some y =>
            refine ⟨rfl, fun x j h => ?_⟩
            simp only [Option.some.injEq, Prod.mk.injEq] at h
            omega
    · rw [if_neg (fun z => h1 z.2), if_neg (fun z => h1 z.2)]
      refine ⟨rfl, fun x j h => ?_⟩
      simp only [Option.some.injEq, Prod.mk.injEq] at h
      omega
  · rw [if_neg (fun z => hz (by omega)), if_neg (fun z => hz z.1)]
    refine ⟨rfl, fun x j h => ?_⟩
    simp only [Option.some.injEq, Prod.mk.injEq] at h
    omega
theorem sh_in {α β : Type} {g : α → β} {P : Nat → Nat → Option (α × Nat)} {P' : Nat → Nat → Option (β × Nat)} (hb : sh_b n d b b') (tag : Nat) (h : sh_R n d g P P') : sh_R n d g (pq_in b tag P) (pq_in b' tag P') := by
  intro i l hi hl
  unfold pq_in
  rw [sh_hd hb hl]
  cases hh : ps_hd b tag i l with
  | none => exact ⟨rfl, fun x j h => by cases h⟩
  | some q =>
    obtain ⟨f, e⟩ := q
    have hq := ps_hd_some hh
    simp only [Option.map_some]
    obtain ⟨h1, h2⟩ := h f e (by omega) (by omega)
    rw [h1]
    cases hp : P f e with
    | none => exact ⟨rfl, fun x j h => by cases h⟩
    | some y =>
      obtain ⟨x, j⟩ := y
      simp only [Option.map_some]
      by_cases hj : j = e
      · rw [if_pos (by omega), if_pos hj]
        refine ⟨rfl, fun x j h => ?_⟩
        simp only [Option.some.injEq, Prod.mk.injEq] at h
        omega
      · rw [if_neg (by omega), if_neg hj]
        exact ⟨rfl, fun x j h => by cases h⟩
theorem sh_and {α β γ δ : Type} {g : α → β} {k : γ → δ} {P : Nat → Nat → Option (α × Nat)} {P' : Nat → Nat → Option (β × Nat)} {Q : Nat → Nat → Option (γ × Nat)} {Q' : Nat → Nat → Option (δ × Nat)} (h : sh_R n d g P P') (h' : sh_R n d k Q Q') : sh_R n d (fun x => (g x.1, k x.2)) (pq_and P Q) (pq_and P' Q') := by
  intro i l hi hl
  unfold pq_and
  obtain ⟨h1, h2⟩ := h i l hi hl
  rw [h1]
  cases hp : P i l with
  | none => exact ⟨rfl, fun x j h => by cases h⟩
  | some q =>
    obtain ⟨x, j⟩ := q
    have hj := h2 x j hp
    simp only [Option.map_some]
    obtain ⟨h3, h4⟩ := h' j l (by omega) hl
    rw [h3]
    cases hq : Q j l with
    | none => exact ⟨rfl, fun x j h => by cases h⟩
    | some q =>
      obtain ⟨y, m⟩ := q
      have hm := h4 y m hq
      refine ⟨rfl, fun x j h => ?_⟩
      simp only [Option.some.injEq, Prod.mk.injEq] at h
      omega
theorem sh_pos {α β : Type} {g : α → β} {P : Nat → Nat → Option (α × Nat)} {P' : Nat → Nat → Option (β × Nat)} (h : sh_R n d g P P') : sh_R n d (fun x => (g x.1, d + x.2.1, d + x.2.2)) (pq_pos P) (pq_pos P') := by
  intro i l hi hl
  unfold pq_pos
  obtain ⟨h1, h2⟩ := h i l hi hl
  rw [h1]
  cases hp : P i l with
  | none => exact ⟨rfl, fun x j h => by cases h⟩
  | some q =>
    obtain ⟨x, j⟩ := q
    have hj := h2 x j hp
    refine ⟨rfl, fun x j h => ?_⟩
    simp only [Option.some.injEq, Prod.mk.injEq] at h
    omega
theorem sh_intr (hb : sh_b n d b b') (lo hi : Nat) : sh_R n d (fun x => x) (ps_intr b lo hi) (ps_intr b' lo hi) := by
  intro i l hi2 hl
  unfold ps_intr
  obtain ⟨h1, h2⟩ := sh_int hb i l hi2 hl
  rw [h1]
  cases hp : ps_int b i l with
  | none => exact ⟨rfl, fun x j h => by cases h⟩
  | some q =>
    obtain ⟨x, j⟩ := q
    have hj := h2 x j hp
    simp only [Option.map_some]
    split
    · refine ⟨rfl, fun x j h => ?_⟩
      simp only [Option.some.injEq, Prod.mk.injEq] at h
      omega
    · exact ⟨rfl, fun x j h => by cases h⟩
theorem sh_two (hb : sh_b n d b b') (lo hi lo' hi' : Nat) : sh_R n d (fun x => x) (ps_two b lo hi lo' hi') (ps_two b' lo hi lo' hi') := sh_in hb 48 (sh_and (sh_intr hb lo hi) (sh_intr hb lo' hi'))
theorem sh_bnd (hb : sh_b n d b b') : sh_R n d (fun x => x) (ps_bnd b) (ps_bnd b') := by
  intro i l hi hl
  unfold ps_bnd
  obtain ⟨h1, h2⟩ := sh_and (sh_list hb 160) (sh_list hb 161) i l hi hl
  rw [h1]
  cases hp : pq_and (ps_list b 160) (ps_list b 161) i l with
  | none => exact ⟨rfl, fun x j h => by cases h⟩
  | some q =>
    obtain ⟨⟨x, y⟩, j⟩ := q
    have hj := h2 _ j hp
    simp only [Option.map_some]
    split
    · exact ⟨rfl, fun x j h => by cases h⟩
    · refine ⟨rfl, fun x j h => ?_⟩
      simp only [Option.some.injEq, Prod.mk.injEq] at h
      omega
theorem sh_bounds (hb : sh_b n d b b') : sh_R n d (fun x => x) (ps_bounds b) (ps_bounds b') := sh_in hb 48 (sh_bnd hb)
theorem sh_bit (hb : sh_b n d b b') : sh_R n d (fun x => x) (ps_bit b) (ps_bit b') := by
  intro i l hi hl
  unfold ps_bit
  by_cases h1 : i < l
  · rw [if_pos (by omega), if_pos h1, hb i (by omega)]
    by_cases h2 : i + 1 < l
    · rw [if_pos (by omega), if_pos h2, show d + i + 1 = d + (i + 1) by omega, hb (i + 1) (by omega)]
      split
      · refine ⟨rfl, fun x j h => ?_⟩
        simp only [Option.some.injEq, Prod.mk.injEq] at h
        omega
      · exact ⟨rfl, fun x j h => by cases h⟩
    · rw [if_neg (by omega), if_neg h2]
      split
      · refine ⟨rfl, fun x j h => ?_⟩
        simp only [Option.some.injEq, Prod.mk.injEq] at h
        omega
      · exact ⟨rfl, fun x j h => by cases h⟩
  · rw [if_neg (by omega), if_neg h1]
    exact ⟨rfl, fun x j h => by cases h⟩
theorem sh_bits (hb : sh_b n d b b') : sh_R n d (fun x => x) (ps_bits b) (ps_bits b') := sh_in hb 3 (sh_bit hb)
theorem sh_bas (hb : sh_b n d b b') : sh_R n d (fun x => x) (ps_bas b) (ps_bas b') := by
  intro i l hi hl
  unfold ps_bas
  obtain ⟨h1, h2⟩ := sh_tru hb i l hi hl
  rw [h1]
  cases hp : ps_tru b i l with
  | none => exact ⟨rfl, fun x j h => by cases h⟩
  | some q =>
    obtain ⟨t, j⟩ := q
    have hj := h2 t j hp
    simp only [Option.map_some]
    by_cases hc : t = true ∧ j < l
    · rw [if_pos ⟨hc.1, by omega⟩, if_pos hc]
      obtain ⟨h3, h4⟩ := sh_intr hb 0 2147483647 j l (by omega) hl
      rw [h3]
      cases hq : ps_intr b 0 2147483647 j l with
      | none => exact ⟨rfl, fun x j h => by cases h⟩
      | some q =>
        obtain ⟨v, m⟩ := q
        have hm := h4 v m hq
        refine ⟨rfl, fun x j h => ?_⟩
        simp only [Option.some.injEq, Prod.mk.injEq] at h
        omega
    · rw [if_neg (fun z => hc ⟨z.1, by omega⟩), if_neg hc]
      refine ⟨rfl, fun x j h => ?_⟩
      simp only [Option.some.injEq, Prod.mk.injEq] at h
      omega
theorem sh_basic (hb : sh_b n d b b') : sh_R n d (fun x => x) (ps_basic b) (ps_basic b') := sh_in hb 48 (sh_bas hb)
theorem sh_con (hb : sh_b n d b b') (num : Nat) (c : Bool) (E : ps_E) : sh_R n d (fun x => x) (ps_con b num c E) (ps_con b' num c E) := by
  intro i l hi hl
  unfold ps_con
  by_cases n1 : num = 1
  · simp only [if_pos n1]
    obtain ⟨h1, h2⟩ := sh_basic hb i l hi hl
    rw [h1]
    cases hp : ps_basic b i l with
    | none => exact ⟨rfl, fun x j h => by cases h⟩
    | some q =>
      obtain ⟨⟨t, r⟩, j⟩ := q
      have hj := h2 _ j hp
      refine ⟨rfl, fun x j h => ?_⟩
      simp only [Option.some.injEq, Prod.mk.injEq] at h
      omega
  · simp only [if_neg n1]
    by_cases n2 : num = 2
    · simp only [if_pos n2]
      obtain ⟨h1, h2⟩ := sh_bits hb i l hi hl
      rw [h1]
      cases hp : ps_bits b i l with
      | none => exact ⟨rfl, fun x j h => by cases h⟩
      | some q =>
        obtain ⟨t, j⟩ := q
        have hj := h2 _ j hp
        refine ⟨rfl, fun x j h => ?_⟩
        simp only [Option.some.injEq, Prod.mk.injEq] at h
        omega
    · simp only [if_neg n2]
      by_cases n3 : num = 3
      · simp only [if_pos n3]
        obtain ⟨h1, h2⟩ := sh_bounds hb i l hi hl
        rw [h1]
        cases hp : ps_bounds b i l with
        | none => exact ⟨rfl, fun x j h => by cases h⟩
        | some q =>
          obtain ⟨⟨t, r⟩, j⟩ := q
          have hj := h2 _ j hp
          refine ⟨rfl, fun x j h => ?_⟩
          simp only [Option.some.injEq, Prod.mk.injEq] at h
          omega
      · simp only [if_neg n3]
        rw [show d + l - (d + i) = l - i by omega, sh_sl hb hl]
        split
        · refine ⟨rfl, fun x j h => ?_⟩
          simp only [Option.some.injEq, Prod.mk.injEq] at h
          omega
        · exact ⟨rfl, fun x j h => by cases h⟩
theorem sh_exc (hb : sh_b n d b b') (E : ps_E) : sh_R n d (fun x => x) (ps_exc b E) (ps_exc b' E) := by
  intro i l hi hl
  unfold ps_exc
  obtain ⟨h1, h2⟩ := sh_intr hb 0 255 i l hi hl
  rw [h1]
  cases hp : ps_intr b 0 255 i l with
  | none => exact ⟨rfl, fun x j h => by cases h⟩
  | some q =>
    obtain ⟨num, j⟩ := q
    have hj := h2 _ j hp
    simp only [Option.map_some]
    by_cases ha : (E.1.any (fun x => x.1 == num)) = true
    · rw [if_pos ha, if_pos ha]
      exact ⟨rfl, fun x j h => by cases h⟩
    · rw [if_neg ha, if_neg ha]
      obtain ⟨h3, h4⟩ := sh_tru hb j l (by omega) hl
      rw [h3]
      cases hq : ps_tru b j l with
      | none => exact ⟨rfl, fun x j h => by cases h⟩
      | some q =>
        obtain ⟨c, k⟩ := q
        have hk := h4 _ k hq
        simp only [Option.map_some]
        obtain ⟨h5, h6⟩ := sh_in hb 4 (sh_con hb num c E) k l (by omega) hl
        refine ⟨h5, fun x j h => ?_⟩
        have := h6 x j h
        omega
theorem sh_ext (hb : sh_b n d b b') (E : ps_E) : sh_R n d (fun x => x) (ps_ext b E) (ps_ext b' E) := sh_in hb 48 (sh_exc hb E)
theorem sh_exts (hb : sh_b n d b b') : ∀ k E, sh_R n d (fun x => x) (ps_exts b k E) (ps_exts b' k E)
  | 0, E => sh_ext hb E
  | k + 1, E => by
    intro i l hi hl
    unfold ps_exts
    obtain ⟨h1, h2⟩ := sh_ext hb E i l hi hl
    rw [h1]
    cases hp : ps_ext b E i l with
    | none => exact ⟨rfl, fun x j h => by cases h⟩
    | some q =>
      obtain ⟨E', j⟩ := q
      have hj := h2 _ j hp
      simp only [Option.map_some]
      by_cases hc : j < l
      · rw [if_pos (by omega), if_pos hc]
        obtain ⟨h3, h4⟩ := sh_exts hb k E' j l (by omega) hl
        refine ⟨h3, fun x m h => ?_⟩
        have := h4 x m h
        omega
      · rw [if_neg (by omega), if_neg hc]
        refine ⟨rfl, fun x j h => ?_⟩
        simp only [Option.some.injEq, Prod.mk.injEq] at h
        omega
theorem sh_more (hb : sh_b n d b b') : sh_R n d (fun x => x) (ps_more b) (ps_more b') := by
  intro i l hi hl
  unfold ps_more
  by_cases hz : i < l
  · rw [hb i (by omega)]
    by_cases h1 : b i = 163
    · rw [if_pos ⟨by omega, h1⟩, if_pos ⟨hz, h1⟩]
      exact sh_in hb 163 (sh_in hb 48 (sh_exts hb 3 ps_E0)) i l hi hl
    · rw [if_neg (fun z => h1 z.2), if_neg (fun z => h1 z.2)]
      refine ⟨rfl, fun x j h => ?_⟩
      simp only [Option.some.injEq, Prod.mk.injEq] at h
      omega
  · rw [if_neg (fun z => hz (by omega)), if_neg (fun z => hz z.1)]
    refine ⟨rfl, fun x j h => ?_⟩
    simp only [Option.some.injEq, Prod.mk.injEq] at h
    omega
theorem sh_head (hb : sh_b n d b b') : sh_R n d (fun x => x) (ps_head b) (ps_head b') := sh_and (sh_intr hb _ _) (sh_and (sh_name hb) (sh_and (sh_two hb _ _ _ _) (sh_and (sh_name hb) (sh_two hb _ _ _ _))))
theorem sh_crt (hb : sh_b n d b b') : sh_R n d (fun C : ps_C => ((C.1.1, d + C.1.2.1, d + C.1.2.2), C.2)) (ps_crt b) (ps_crt b') := sh_in hb 48 (sh_and (sh_pos (sh_in hb 48 (sh_and (sh_head hb) (sh_more hb)))) (sh_intr hb _ _))
theorem sh_cert (hb : sh_b n d b b') : ps_cert b' d (d + n) = (ps_cert b 0 n).map (fun C : ps_C => ((C.1.1, d + C.1.2.1, d + C.1.2.2), C.2)) := by
  unfold ps_cert
  obtain ⟨h1, h2⟩ := sh_crt hb 0 n (Nat.zero_le _) (Nat.le_refl _)
  rw [Nat.add_zero] at h1
  rw [h1]
  cases hp : ps_crt b 0 n with
  | none => rfl
  | some q =>
    obtain ⟨x, j⟩ := q
    simp only [Option.map_some]
    by_cases hj : j = n
    · rw [if_pos (by omega), if_pos hj]
      rfl
    · rw [if_neg (by omega), if_neg hj]
      rfl
theorem sh_ab (hb : sh_b n d b b') (h8 : ∀ j, j < n → b j < 256) {C : ps_C} (h : ps_cert b 0 n = some C) : ∃ C', ps_cert b' d (d + n) = some C' ∧ ab_of b' C' = ab_of b C ∧ C'.1.1 = C.1.1 ∧ C'.2 = C.2 := by
  refine ⟨((C.1.1, d + C.1.2.1, d + C.1.2.2), C.2), by rw [sh_cert hb, h]; rfl, ?_, rfl, rfl⟩
  obtain ⟨-, -, -, -, h1, h2, h3⟩ := ec_cert h8 (Nat.zero_le _) h
  unfold ab_of
  show (C.1.1.1, C.1.1.2, C.2, ps_hash b' (d + C.1.2.1) (d + C.1.2.2 - (d + C.1.2.1))) = _
  rw [show d + C.1.2.2 - (d + C.1.2.1) = C.1.2.2 - C.1.2.1 by omega, sh_hash hb _ (by omega)]
theorem sh_no (hb : sh_b n d b b') (h : ps_cert b 0 n = none) : ps_cert b' d (d + n) = none := by
  rw [sh_cert hb, h]
  rfl
/-- from one place to another -/
theorem sh_mv {d' : Nat} (hb : ∀ j, j < n → b' (d' + j) = b (d + j)) (h8 : ∀ j, j < n → b (d + j) < 256) {C : ps_C} (h : ps_cert b d (d + n) = some C) : ∃ C', ps_cert b' d' (d' + n) = some C' ∧ ab_of b' C' = ab_of b C := by
  have hb1 : sh_b n d (fun j => b (d + j)) b := fun j _ => rfl
  have hb2 : sh_b n d' (fun j => b (d + j)) b' := hb
  cases h0 : ps_cert (fun j => b (d + j)) 0 n with
  | none =>
    have := sh_no hb1 h0
    rw [h] at this
    cases this
  | some C0 =>
    obtain ⟨C1, e1, a1, -⟩ := sh_ab hb1 h8 h0
    obtain ⟨C2, e2, a2, -⟩ := sh_ab hb2 h8 h0
    rw [h] at e1
    cases e1
    exact ⟨C2, e2, by rw [a1, a2]⟩
end SH
