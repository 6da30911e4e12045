/-! names: labels as numbers, eight bits a letter -/
def nm_pk (l : List Nat) : Nat := l.foldl (fun a x => a * 256 + x) 0
theorem nm_pk_app (l : List Nat) (x : Nat) : nm_pk (l ++ [x]) = nm_pk l * 256 + x := by
  simp [nm_pk, List.foldl_append]
theorem ps_sl_succ (b : Nat → Nat) (g t : Nat) : ps_sl b g (g + (t + 1)) = ps_sl b g (g + t) ++ [b (g + t)] := by
  unfold ps_sl
  rw [show g + (t + 1) - g = t + 1 by omega, show g + t - g = t by omega, List.range_succ, List.map_append]
  rfl
theorem ps_sl_0 (b : Nat → Nat) (g : Nat) : ps_sl b g (g + 0) = [] := by
  unfold ps_sl
  rw [show g + 0 - g = 0 by omega]
  rfl
theorem ps_sl_len (b : Nat → Nat) (g h : Nat) : (ps_sl b g h).length = h - g := by
  simp [ps_sl]
theorem ps_abc_app (l : List Nat) (x : Nat) : ps_abc (l ++ [x]) = (ps_abc l && (decide (97 ≤ x) && decide (x ≤ 122))) := by
  simp [ps_abc, List.all_append]
theorem ps_abc_mem {l : List Nat} (h : ps_abc l = true) {x : Nat} (hx : x ∈ l) : 97 ≤ x ∧ x ≤ 122 := by
  have := List.all_eq_true.mp h x hx
  simpa using this
theorem ps_sl_mem {b : Nat → Nat} {g h j : Nat} (h1 : g ≤ j) (h2 : j < h) : b j ∈ ps_sl b g h := by
  unfold ps_sl
  refine List.mem_map.mpr ⟨j - g, List.mem_range.mpr (by omega), ?_⟩
  rw [show g + (j - g) = j by omega]
/-- within a label, t letters being read -/
def nm_J (b : Nat → Nat) (i e : Nat) (L : List Nat) (s : rd_S) (v t : Nat) : Prop :=
  (s = none ∧ ps_label b i e = none) ∨ ∃ g h, ps_hd b 19 i e = some (g, h) ∧ g + t ≤ h ∧ ps_abc (ps_sl b g (g + t)) = true ∧ s = some (g + t, h :: e :: L) ∧ v = nm_pk (ps_sl b g (g + t))
theorem nm_J0 {b : Nat → Nat} {i e : Nat} {L : List Nat} (hL : L.length < 10) : nm_J b i e L (rd_open b 19 (some (i, e :: L))) 0 0 := by
  cases hh : ps_hd b 19 i e with
  | none =>
    refine Or.inl ⟨?_, ?_⟩
    · unfold rd_open
      simp only [if_pos hL, hh]
    · unfold ps_label
      rw [hh]
  | some q =>
    obtain ⟨g, h⟩ := q
    obtain ⟨-, -, g3, -⟩ := ps_hd_some hh
    refine Or.inr ⟨g, h, hh, g3, ?_, ?_, ?_⟩
    · rw [ps_sl_0]
      rfl
    · unfold rd_open
      simp only [if_pos hL, hh]
      rfl
    · rw [ps_sl_0]
      rfl
theorem nm_J1 {b : Nat → Nat} {i e v t : Nat} {L : List Nat} {s : rd_S} (h : nm_J b i e L s v t) (hr : 0 < rd_rem s) (hw : 97 ≤ rd_byte b s ∧ rd_byte b s ≤ 122) : nm_J b i e L (rd_next s) (v * 256 + rd_byte b s) (t + 1) := by
  rcases h with ⟨rfl, h⟩ | ⟨g, h, h1, h2, h3, rfl, rfl⟩
  · exact absurd hr (by simp [rd_rem])
  · simp only [rd_rem] at hr
    have hlt : g + t < h := by omega
    have hb : rd_byte b (some (g + t, h :: e :: L)) = b (g + t) := if_pos hlt
    rw [hb] at hw ⊢
    refine Or.inr ⟨g, h, h1, by omega, ?_, ?_, ?_⟩
    · rw [ps_sl_succ, ps_abc_app, h3]
      simp [hw.1, hw.2]
    · unfold rd_next
      simp only [if_pos hlt]
      rfl
    · rw [ps_sl_succ, nm_pk_app]
theorem nm_J2 {b : Nat → Nat} {i e v t w : Nat} {L : List Nat} {s : rd_S} (h : nm_J b i e L s v t) (hr : 0 < rd_rem s) (hw : ¬ (97 ≤ rd_byte b s ∧ rd_byte b s ≤ 122)) : nm_J b i e L none w (t + 1) := by
  rcases h with ⟨rfl, h⟩ | ⟨g, h, h1, h2, h3, rfl, rfl⟩
  · exact absurd hr (by simp [rd_rem])
  · simp only [rd_rem] at hr
    have hlt : g + t < h := by omega
    have hb : rd_byte b (some (g + t, h :: e :: L)) = b (g + t) := if_pos hlt
    rw [hb] at hw
    refine Or.inl ⟨rfl, ?_⟩
    unfold ps_label
    rw [h1]
    simp only []
    rw [if_neg]
    intro z
    exact hw (ps_abc_mem z.2.2 (ps_sl_mem (by omega) hlt))
theorem nm_pk_pos {l : List Nat} (h : ps_abc l = true) (hl : nm_pk l = 0) : l = [] := by
  rcases List.eq_nil_or_concat l with h0 | ⟨l', x, rfl⟩
  · exact h0
  · rw [List.concat_eq_append] at h hl
    rw [nm_pk_app] at hl
    have := ps_abc_mem h (List.mem_concat_self)
    omega
/-- behind a label: the letters are through -/
theorem nm_J3 {b : Nat → Nat} {i e v t : Nat} {L : List Nat} {s s' : rd_S} (h : nm_J b i e L s v t) (hx : 8 ≤ t ∨ rd_rem s = 0) (ht : t ≤ 8) (hs : s' = if v = 0 then none else s) :
    (rd_close s' = none ∧ ps_label b i e = none) ∨ ∃ x j, ps_label b i e = some (x, j) ∧ rd_close s' = some (j, e :: L) ∧ v = nm_pk x := by
  rcases h with ⟨rfl, h⟩ | ⟨g, h, h1, h2, h3, rfl, rfl⟩
  · refine Or.inl ⟨?_, h⟩
    rw [hs]
    split <;> rfl
  · simp only [rd_rem] at hx
    by_cases hv : nm_pk (ps_sl b g (g + t)) = 0
    · rw [if_pos hv] at hs
      have hl := nm_pk_pos h3 hv
      have hl := congrArg List.length hl
      rw [ps_sl_len] at hl
      simp only [List.length_nil] at hl
      refine Or.inl ⟨by rw [hs]; rfl, ?_⟩
      unfold ps_label
      rw [h1]
      simp only []
      rw [if_neg (by omega)]
    · rw [if_neg hv] at hs
      have h0 : t ≠ 0 := by
        intro h0
        rw [h0, ps_sl_0] at hv
        exact hv rfl
      rw [hs]
      unfold rd_close
      simp only []
      by_cases he : g + t = h
      · rw [if_pos he]
        rw [he] at h3 ⊢
        refine Or.inr ⟨ps_sl b g h, h, ?_, rfl, rfl⟩
        unfold ps_label
        rw [h1]
        simp only []
        rw [if_pos ⟨by omega, by omega, h3⟩]
      · rw [if_neg he]
        refine Or.inl ⟨rfl, ?_⟩
        unfold ps_label
        rw [h1]
        simp only []
        rw [if_neg (by omega)]
/-- within a name, k labels being read; f: the labels as they are held -/
def nm_O (b : Nat → Nat) (X : Option (ps_N × Nat × List Nat)) (f : Nat → Nat) (s : rd_S) (k : Nat) : Prop :=
  (s = none ∧ X = none) ∨ ∃ i e m L pre, s = some (i, e :: m :: L) ∧ L.length + 2 ≤ 10 ∧ pre.length = k ∧ (∀ m, m < k → f m = nm_pk (pre.getD m [])) ∧ X = (match ps_labels b e (4 - k) i with
    | some r => some (pre ++ r, e, m :: L)
    | none => none)
theorem nm_O0 {b f : Nat → Nat} {st : rd_S} (hd : rd_D 2 st) : nm_O b (rd_run (ps_name b) st) f (rd_open b 48 st) 0 := by
  rcases st with _ | ⟨i, _ | ⟨l, ls⟩⟩
  · exact Or.inl ⟨rfl, rfl⟩
  · exact Or.inl ⟨rfl, rfl⟩
  · have hl := hd i l ls rfl
    have hl' : ls.length < 10 := by omega
    cases hh : ps_hd b 48 i l with
    | none =>
      refine Or.inl ⟨?_, ?_⟩
      · unfold rd_open
        simp only [if_pos hl', hh]
      · simp only [rd_run, ps_name, hh]
    | some q =>
      obtain ⟨g, e⟩ := q
      refine Or.inr ⟨g, e, l, ls, [], ?_, hl, rfl, fun m hm => absurd hm (Nat.not_lt_zero _), ?_⟩
      · unfold rd_open
        simp only [if_pos hl', hh]
      · simp only [rd_run, ps_name, hh]
        cases ps_labels b e 4 g <;> rfl
theorem nm_O1 {b f f' : Nat → Nat} {X : Option (ps_N × Nat × List Nat)} {i e m k v : Nat} {L : List Nat} {pre : ps_N} {s' : rd_S} (hL : L.length + 2 ≤ 10) (hp : pre.length = k) (hf : ∀ m, m < k → f m = nm_pk (pre.getD m []))
    (hX : X = (match ps_labels b e (4 - k) i with
    | some r => some (pre ++ r, e, m :: L)
    | none => none)) (hk : k < 4) (hi : i < e) (hf' : ∀ m, m < k + 1 → f' m = if m = k then v else f m)
    (h : (s' = none ∧ ps_label b i e = none) ∨ ∃ x j, ps_label b i e = some (x, j) ∧ s' = some (j, e :: m :: L) ∧ v = nm_pk x) : nm_O b X f' s' (k + 1) := by
  have e4 : 4 - k = (4 - (k + 1)) + 1 := by omega
  rw [e4] at hX
  unfold ps_labels at hX
  rw [if_neg (by omega)] at hX
  rcases h with ⟨rfl, h⟩ | ⟨x, j, h, rfl, rfl⟩
  · rw [h] at hX
    exact Or.inl ⟨rfl, hX⟩
  · rw [h] at hX
    simp only [] at hX
    refine Or.inr ⟨j, e, m, L, pre ++ [x], rfl, hL, by simp [hp], fun q hq => ?_, ?_⟩
    · rw [hf' q hq]
      by_cases hqk : q = k
      · rw [if_pos hqk, hqk, ← hp]
        simp
      · rw [if_neg hqk, hf q (by omega)]
        congr 1
        simp only [List.getD_eq_getElem?_getD]
        rw [List.getElem?_append_left (by omega)]
    · rw [hX]
      cases ps_labels b e (4 - (k + 1)) j with
      | none => rfl
      | some r => simp
theorem nm_O2 {b f : Nat → Nat} {X : Option (ps_N × Nat × List Nat)} {s : rd_S} {k : Nat} (h : nm_O b X f s k) (hx : 4 ≤ k ∨ rd_rem s = 0) (hk : k ≤ 4) (hle : ∀ i l ls, s = some (i, l :: ls) → i ≤ l) :
    (rd_close s = none ∧ X = none) ∨ ∃ x j, X = some (x, j) ∧ rd_close s = some j ∧ x.length = k ∧ ∀ m, m < k → f m = nm_pk (x.getD m []) := by
  rcases h with ⟨rfl, h⟩ | ⟨i, e, m, L, pre, rfl, hL, hp, hf, hX⟩
  · exact Or.inl ⟨rfl, h⟩
  · simp only [rd_rem] at hx
    have hle := hle i e (m :: L) rfl
    unfold rd_close
    simp only []
    by_cases he : i = e
    · have : ps_labels b e (4 - k) i = some [] := by
        unfold ps_labels
        split <;> rw [if_pos he]
      rw [this] at hX
      simp only [List.append_nil] at hX
      rw [if_pos he, he]
      exact Or.inr ⟨pre, _, hX, rfl, hp, hf⟩
    · have h4 : k = 4 := by omega
      rw [h4] at hX
      simp only [Nat.sub_self, ps_labels, if_neg he] at hX
      rw [if_neg he]
      exact Or.inl ⟨rfl, hX⟩
/-- a name's cells hold these labels -/
def nm_is (M : xm_M) (p : Nat) (x : ps_N) : Prop := M p 1 = x.length ∧ ∀ m, m < x.length → M (p + 1) m = nm_pk (x.getD m [])
/-- only the reader's cells and those of the name at p are other ones -/
def nm_F (p : Nat) (M M' : xm_M) : Prop := ∀ q, q ≠ 1 → q ≠ 4 → q ≠ p → q ≠ p + 1 → M' q = M q
theorem nm_F.tr {p : Nat} {A B C : xm_M} (h : nm_F p A B) (g : nm_F p B C) : nm_F p A C := fun q h1 h2 h3 h4 => (g q h1 h2 h3 h4).trans (h q h1 h2 h3 h4)
theorem nm_F.of {p : Nat} {A B : xm_M} (h : rd_F A B) : nm_F p A B := fun q h1 h2 _ _ => h q h1 h2
