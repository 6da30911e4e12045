/-! how the reference's steps fit together -/
def mo_en (b : Nat → Nat) (tag l : Nat) (s s1 : Option Nat) (e : Nat) : Prop := (s1 = none ∧ mo_hd b tag l s = none) ∨ ∃ f, mo_hd b tag l s = some (f, e) ∧ s1 = some f
theorem mo_enter {b : Nat → Nat} {tag l : Nat} {s s1 : Option Nat} {r : Int32} (h : (s1 = none ∧ mo_hd b tag l s = none ∧ r = nI l) ∨ ∃ f e, mo_hd b tag l s = some (f, e) ∧ s1 = some f ∧ r = nI e) : ∃ e, r = nI e ∧ e ≤ l ∧ mo_en b tag l s s1 e := by
  rcases h with ⟨a, b', c⟩ | ⟨f, e, a, b', c⟩
  · exact ⟨l, c, Nat.le_refl _, Or.inl ⟨a, b'⟩⟩
  · exact ⟨e, c, (mo_hd_some a).2.1, Or.inr ⟨f, a, b'⟩⟩
theorem mo_none {α : Type} {P : Nat → Nat → Option (α × Nat)} {l : Nat} {s : Option Nat} {V : α → Prop} (h : mo_ok (mo_run P l none) s V) : s = none := by
  rcases h with h | ⟨x, t, h1, -⟩
  · exact h.1
  · cases h1
theorem mo_ok.imp {α : Type} {X : Option (α × Nat)} {s : Option Nat} {V W : α → Prop} (h : mo_ok X s V) (f : ∀ x, V x → W x) : mo_ok X s W := by
  rcases h with h | ⟨x, t, h1, h2, h3⟩
  · exact Or.inl h
  · exact Or.inr ⟨x, t, h1, h2, f x h3⟩
theorem mo_in {α : Type} {b : Nat → Nat} {tag l e : Nat} {P : Nat → Nat → Option (α × Nat)} {s s1 s2 : Option Nat} {V : α → Prop} (h : mo_en b tag l s s1 e) (h2 : mo_ok (mo_run P e s1) s2 V) : mo_ok (mo_run (pq_in b tag P) l s) (mo_lv e s2) V := by
  rcases h with ⟨rfl, h⟩ | ⟨f, h, rfl⟩
  · rw [mo_none h2]
    refine Or.inl ⟨rfl, ?_⟩
    cases s with
    | none => rfl
    | some i =>
      simp only [mo_hd] at h
      simp only [mo_run, pq_in, h]
  · cases s with
    | none => cases h
    | some i =>
      simp only [mo_hd] at h
      simp only [mo_run] at h2
      rcases h2 with ⟨rfl, hP⟩ | ⟨x, j, hP, rfl, hV⟩
      · refine Or.inl ⟨rfl, ?_⟩
        simp only [mo_run, pq_in, h, hP]
      · simp only [mo_run, pq_in, h, hP, mo_lv]
        by_cases hj : j = e
        · rw [if_pos hj, if_pos hj]
          exact Or.inr ⟨x, e, rfl, by rw [hj], hV⟩
        · rw [if_neg hj, if_neg hj]
          exact Or.inl ⟨rfl, rfl⟩
theorem mo_and {α β : Type} {P : Nat → Nat → Option (α × Nat)} {Q : Nat → Nat → Option (β × Nat)} {l : Nat} {s s1 s2 : Option Nat} {V : α → Prop} {W : β → Prop} (h1 : mo_ok (mo_run P l s) s1 V) (h2 : mo_ok (mo_run Q l s1) s2 W) : mo_ok (mo_run (pq_and P Q) l s) s2 (fun z => V z.1 ∧ W z.2) := by
  rcases h1 with ⟨rfl, hX⟩ | ⟨x, t, hX, rfl, hV⟩
  · rw [mo_none h2]
    refine Or.inl ⟨rfl, ?_⟩
    cases s with
    | none => rfl
    | some i =>
      simp only [mo_run] at hX
      simp only [mo_run, pq_and, hX]
  · cases s with
    | none => cases hX
    | some i =>
      simp only [mo_run] at hX h2
      rcases h2 with ⟨rfl, hQ⟩ | ⟨y, j, hQ, rfl, hW⟩
      · refine Or.inl ⟨rfl, ?_⟩
        simp only [mo_run, pq_and, hX, hQ]
      · refine Or.inr ⟨(x, y), j, ?_, rfl, hV, hW⟩
        simp only [mo_run, pq_and, hX, hQ]
/-- an INTEGER lo .. hi -/
theorem mo_intr {b : Nat → Nat} {lo hi l w : Nat} {s s1 s2 : Option Nat} (h : mo_ok (mo_run (ps_int b) l s) s1 (fun v => v = w)) (hs : s2 = if lo ≤ w ∧ w ≤ hi then s1 else none) : mo_ok (mo_run (ps_intr b lo hi) l s) s2 (fun v => v = w) := by
  rcases h with ⟨rfl, hX⟩ | ⟨x, t, hX, rfl, rfl⟩
  · refine Or.inl ⟨by rw [hs]; split <;> rfl, ?_⟩
    cases s with
    | none => rfl
    | some i =>
      simp only [mo_run] at hX
      simp only [mo_run, ps_intr, hX]
  · cases s with
    | none => cases hX
    | some i =>
      simp only [mo_run] at hX
      simp only [mo_run, ps_intr, hX]
      by_cases hc : lo ≤ x ∧ x ≤ hi
      · rw [if_pos hc] at hs ⊢
        exact Or.inr ⟨x, t, rfl, hs, rfl⟩
      · rw [if_neg hc] at hs ⊢
        exact Or.inl ⟨hs, rfl⟩
/-- within a name up to e, k labels being read -/
def mn_O (b : Nat → Nat) (X : Option (ps_N × Nat)) (e : Nat) (s : Option Nat) (k : Nat) : Prop :=
  (s = none ∧ X = none) ∨ ∃ i pre, s = some i ∧ i ≤ e ∧ k ≤ 4 ∧ pre.length = k ∧ X = (match ps_labels b e (4 - k) i with
    | some r => some (pre ++ r, e)
    | none => none)
theorem mn_O0 {b : Nat → Nat} {l e : Nat} {s s1 : Option Nat} (h : mo_en b 48 l s s1 e) : mn_O b (mo_run (ps_name b) l s) e s1 0 := by
  rcases h with ⟨rfl, h⟩ | ⟨f, h, rfl⟩
  · refine Or.inl ⟨rfl, ?_⟩
    cases s with
    | none => rfl
    | some i =>
      simp only [mo_hd] at h
      simp only [mo_run, ps_name, h]
  · have hle := (mo_hd_some h).1
    cases s with
    | none => cases h
    | some i =>
      simp only [mo_hd] at h
      refine Or.inr ⟨f, [], rfl, hle, by decide, rfl, ?_⟩
      simp only [mo_run, ps_name, h]
      cases ps_labels b e 4 f <;> rfl
theorem mn_O1 {b : Nat → Nat} {X : Option (ps_N × Nat)} {e i k : Nat} {s' : Option Nat} (h : mn_O b X e (some i) k) (hi : i < e)
    (hl : (s' = none ∧ (ps_label b i e = none ∨ k = 4)) ∨ ∃ x j, ps_label b i e = some (x, j) ∧ j ≤ e ∧ k ≠ 4 ∧ s' = some j) : mn_O b X e s' (k + 1) := by
  rcases h with ⟨h, -⟩ | ⟨i', pre, h, hie, hk4, hp, hX⟩
  · cases h
  · cases h
    rcases hl with ⟨rfl, h | h⟩ | ⟨x, j, h, hj, hk, rfl⟩
    · refine Or.inl ⟨rfl, ?_⟩
      rw [hX]
      cases hk : 4 - k with
      | zero => simp only [ps_labels, if_neg (show ¬ i = e by omega)]
      | succ n => simp only [ps_labels, if_neg (show ¬ i = e by omega), h]
    · refine Or.inl ⟨rfl, ?_⟩
      rw [hX, h]
      simp only [Nat.sub_self, ps_labels, if_neg (show ¬ i = e by omega)]
    · refine Or.inr ⟨j, pre ++ [x], rfl, hj, by omega, by simp [hp], ?_⟩
      rw [hX, show 4 - k = (4 - (k + 1)) + 1 by omega]
      simp only [ps_labels, if_neg (show ¬ i = e by omega), h]
      cases ps_labels b e (4 - (k + 1)) j with
      | none => rfl
      | some r => simp
theorem mn_O2 {b : Nat → Nat} {X : Option (ps_N × Nat)} {e k : Nat} {s : Option Nat} (h : mn_O b X e s k) (hx : s = none ∨ s = some e) : mo_ok X s (fun x => x.length = k) := by
  rcases h with ⟨rfl, h⟩ | ⟨i, pre, rfl, hie, hk4, hp, hX⟩
  · exact Or.inl ⟨rfl, h⟩
  · rcases hx with hx | hx
    · cases hx
    · cases hx
      refine Or.inr ⟨pre, e, ?_, rfl, hp⟩
      rw [hX]
      cases 4 - k <;> simp [ps_labels]
theorem mn_lab {b : Nat → Nat} {i e f g : Nat} (h : ps_hd b 19 i e = some (f, g)) : ps_label b i e = if 1 ≤ g - f ∧ g - f ≤ 8 ∧ ps_abc (ps_sl b f g) = true then some (ps_sl b f g, g) else none := by
  unfold ps_label
  rw [h]
theorem mn_abc0 {b : Nat → Nat} {f g t : Nat} (h1 : f ≤ t) (h2 : t < g) (h : ¬ (97 ≤ b t ∧ b t ≤ 122)) : ¬ ps_abc (ps_sl b f g) = true := fun z => h (ps_abc_mem z (ps_sl_mem h1 h2))
