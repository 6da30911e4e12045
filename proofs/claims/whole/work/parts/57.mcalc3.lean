/-! the reference: lists of names, bits, two numbers -/
theorem ps_name_some {b : Nat → Nat} {i l j : Nat} {x : ps_N} (h : ps_name b i l = some (x, j)) : i + 2 ≤ j ∧ j ≤ l := by
  unfold ps_name at h
  cases hh : ps_hd b 48 i l with
  | none => rw [hh] at h; cases h
  | some p =>
    obtain ⟨f, e⟩ := p
    rw [hh] at h
    simp only [] at h
    have := ps_hd_some hh
    cases hl : ps_labels b e 4 f with
    | none => rw [hl] at h; cases h
    | some q =>
      rw [hl] at h
      simp only [Option.some.injEq, Prod.mk.injEq] at h
      omega
def mz_O (b : Nat → Nat) (Z : Option (List ps_N × Nat)) (e : Nat) (s : Option Nat) (k : Nat) : Prop :=
  (s = none ∧ Z = none) ∨ ∃ i pre, s = some i ∧ i ≤ e ∧ pre.length = k ∧ (k ≤ 3 → Z = (match ps_names b e (3 - k) i with
    | some r => if pre ++ r = [] then none else some (pre ++ r, e)
    | none => none)) ∧ (3 < k → Z = none)
theorem mz_O0 {b : Nat → Nat} {tag l e : Nat} {s s1 : Option Nat} (h : mo_en b tag l s s1 e) (ht : ∀ i, s = some i → i < l ∧ b i = tag) : mz_O b (mo_run (ps_list b tag) l s) e s1 0 := by
  rcases h with ⟨rfl, h⟩ | ⟨f, h, rfl⟩
  · refine Or.inl ⟨rfl, ?_⟩
    cases s with
    | none => rfl
    | some i =>
      simp only [mo_hd] at h
      simp only [mo_run, ps_list, h, if_pos (ht i rfl)]
  · have hle := (mo_hd_some h).1
    cases s with
    | none => cases h
    | some i =>
      simp only [mo_hd] at h
      refine Or.inr ⟨f, [], rfl, hle, rfl, fun _ => ?_, fun z => absurd z (by decide)⟩
      simp only [mo_run, ps_list, h, if_pos (ht i rfl), List.nil_append, Nat.sub_zero]
      by_cases hfe : f = e
      · rw [if_pos hfe, hfe]
        simp [ps_names]
      · rw [if_neg hfe]
        cases hn : ps_names b e 3 f with
        | none => rfl
        | some r =>
          have hr : r ≠ [] := by
            intro z
            subst z
            unfold ps_names at hn
            rw [if_neg hfe] at hn
            repeat' split at hn
            all_goals first
              | (cases hn; done)
              | (simp at hn)
          simp only [if_neg hr]
theorem mz_O1 {b : Nat → Nat} {Z : Option (List ps_N × Nat)} {e i k : Nat} {s' : Option Nat} {V : ps_N → Prop} (h : mz_O b Z e (some i) k) (hi : i < e) (hl : mo_ok (mo_run (ps_name b) e (some i)) s' V) : mz_O b Z e s' (k + 1) := by
  rcases h with ⟨h, -⟩ | ⟨i', pre, h, hie, hp, hX, hX'⟩
  · cases h
  · cases h
    rcases hl with ⟨rfl, h⟩ | ⟨x, j, h, rfl, -⟩
    · refine Or.inl ⟨rfl, ?_⟩
      simp only [mo_run] at h
      by_cases hk : k ≤ 3
      · rw [hX hk]
        cases hn : 3 - k with
        | zero => simp only [ps_names, if_neg (show ¬ i = e by omega)]
        | succ n => simp only [ps_names, if_neg (show ¬ i = e by omega), h]
      · exact hX' (by omega)
    · simp only [mo_run] at h
      refine Or.inr ⟨j, pre ++ [x], rfl, (ps_name_some h).2, by simp [hp], fun hk => ?_, fun hk => ?_⟩
      · rw [hX (by omega), show 3 - k = (3 - (k + 1)) + 1 by omega]
        simp only [ps_names, if_neg (show ¬ i = e by omega), h]
        cases ps_names b e (3 - (k + 1)) j with
        | none => rfl
        | some r => simp
      · by_cases hk3 : k ≤ 3
        · rw [hX hk3, show 3 - k = 0 by omega]
          simp only [ps_names, if_neg (show ¬ i = e by omega)]
        · exact hX' (by omega)
theorem mz_O2 {b : Nat → Nat} {Z : Option (List ps_N × Nat)} {e k : Nat} {s s2 : Option Nat} (h : mz_O b Z e s k) (hx : s = none ∨ s = some e) (hs : s2 = if k < 1 ∨ 3 < k then none else s) : mo_ok Z s2 (fun x => x.length = k) := by
  rcases h with ⟨rfl, h⟩ | ⟨i, pre, rfl, hie, hp, hX, hX'⟩
  · refine Or.inl ⟨?_, h⟩
    rw [hs]
    split <;> rfl
  · rcases hx with hx | hx
    · cases hx
    · cases hx
      by_cases hk : k < 1 ∨ 3 < k
      · rw [if_pos hk] at hs
        refine Or.inl ⟨hs, ?_⟩
        rcases hk with hk | hk
        · rw [hX (by omega)]
          have : pre = [] := List.length_eq_zero_iff.mp (by omega)
          rw [this]
          cases 3 - k <;> simp [ps_names]
        · exact hX' hk
      · rw [if_neg hk] at hs
        refine Or.inr ⟨pre, e, ?_, hs, hp⟩
        rw [hX (by omega)]
        have : pre ≠ [] := fun z => by rw [z] at hp; simp at hp; omega
        cases 3 - k <;> simp [ps_names, this]
theorem mo_lst0 {b : Nat → Nat} {tag l : Nat} {s : Option Nat} (h : ∀ i, s = some i → ¬ (i < l ∧ b i = tag)) : mo_ok (mo_run (ps_list b tag) l s) s (fun x => x = []) := by
  cases s with
  | none => exact Or.inl ⟨rfl, rfl⟩
  | some i =>
    refine Or.inr ⟨[], i, ?_, rfl, rfl⟩
    simp only [mo_run, ps_list]
    rw [if_neg (h i rfl)]
theorem ps_lab_len {b : Nat → Nat} {e : Nat} : ∀ {n i : Nat} {l : ps_N}, ps_labels b e n i = some l → e ≤ i + 10 * n
  | 0, i, l, h => by
    unfold ps_labels at h
    split at h
    · omega
    · cases h
  | n + 1, i, l, h => by
    unfold ps_labels at h
    split at h
    · omega
    · split at h
      · cases h
      · rename_i x j hx
        split at h
        · cases h
        · rename_i r hr
          have := ps_lab_len hr
          unfold ps_label at hx
          split at hx
          · cases hx
          · rename_i f g hh
            split at hx
            · rename_i hc
              simp only [Option.some.injEq, Prod.mk.injEq] at hx
              unfold ps_hd at hh
              repeat' split at hh
              all_goals first
                | (cases hh; done)
                | (simp only [Option.some.injEq, Prod.mk.injEq] at hh; omega)
            · cases hx
theorem ps_nam_len {b : Nat → Nat} {i e j : Nat} {x : ps_N} (h : ps_name b i e = some (x, j)) : j ≤ i + 42 := by
  unfold ps_name at h
  split at h
  · cases h
  · rename_i f g hh
    split at h
    · cases h
    · rename_i l hl
      have := ps_lab_len hl
      simp only [Option.some.injEq, Prod.mk.injEq] at h
      unfold ps_hd at hh
      repeat' split at hh
      all_goals first
        | (cases hh; done)
        | (simp only [Option.some.injEq, Prod.mk.injEq] at hh; omega)
theorem ps_nms_len {b : Nat → Nat} {e : Nat} : ∀ {n i : Nat} {l : List ps_N}, ps_names b e n i = some l → e ≤ i + 42 * n
  | 0, i, l, h => by
    unfold ps_names at h
    split at h
    · omega
    · cases h
  | n + 1, i, l, h => by
    unfold ps_names at h
    split at h
    · omega
    · split at h
      · cases h
      · rename_i x j hx
        split at h
        · cases h
        · rename_i r hr
          have := ps_nms_len hr
          have := ps_nam_len hx
          omega
/-- a list that is there: its names begin two bytes on -/
theorem ps_lst_at {b : Nat → Nat} {tag i l j : Nat} {L : List ps_N} (ht : i < l ∧ b i = tag) (h : ps_list b tag i l = some (L, j)) : ps_names b j 3 (i + 2) = some L ∧ i + 2 ≤ j ∧ j ≤ l ∧ L ≠ [] := by
  unfold ps_list at h
  rw [if_pos ht] at h
  split at h
  · cases h
  · rename_i f e hh
    split at h
    · cases h
    · rename_i hfe
      split at h
      · cases h
      · rename_i q hq
        simp only [Option.some.injEq, Prod.mk.injEq] at h
        obtain ⟨rfl, rfl⟩ := h
        have h1 := ps_nms_len hq
        have h2 := ps_hd_some hh
        have h3 : f = i + 2 := by
          unfold ps_hd at hh
          repeat' split at hh
          all_goals first
            | (cases hh; done)
            | (simp only [Option.some.injEq, Prod.mk.injEq] at hh; omega)
        subst h3
        refine ⟨hq, by omega, by omega, fun z => ?_⟩
        subst z
        unfold ps_names at hq
        rw [if_neg hfe] at hq
        repeat' split at hq
        all_goals first
          | (cases hq; done)
          | (simp at hq)
/-! what a list's field, its from and its to hold -/
def md_l (b : Nat → Nat) (n f t : Nat) (L : List ps_N) : Prop := n = L.length ∧ (L ≠ [] → ps_names b t 3 f = some L ∧ f ≤ t ∧ t ≤ 1440)
theorem mo_bnd {b : Nat → Nat} {l : Nat} {s s1 s2 s3 : Option Nat} {n m : Nat} {V W : List ps_N → Prop} (h1 : mo_ok (mo_run (ps_list b 160) l s) s1 V) (h2 : mo_ok (mo_run (ps_list b 161) l s1) s2 W) (hV : ∀ x, V x → n = x.length) (hW : ∀ x, W x → m = x.length) (hs : s3 = if n + m = 0 then none else s2) : mo_ok (mo_run (ps_bnd b) l s) s3 (fun z => V z.1 ∧ W z.2) := by
  rcases mo_and h1 h2 with ⟨rfl, h⟩ | ⟨z, j, h, rfl, hv, hw⟩
  · refine Or.inl ⟨by rw [hs]; split <;> rfl, ?_⟩
    cases s with
    | none => rfl
    | some i =>
      simp only [mo_run] at h
      simp only [mo_run, ps_bnd, h]
  · cases s with
    | none => cases h
    | some i =>
      simp only [mo_run] at h
      obtain ⟨p, x⟩ := z
      have e1 := hV _ hv
      have e2 := hW _ hw
      simp only [] at e1 e2
      by_cases hc : p = [] ∧ x = []
      · refine Or.inl ⟨?_, ?_⟩
        · rw [hs, if_pos (by rw [e1, e2, hc.1, hc.2]; rfl)]
        · simp only [mo_run, ps_bnd, h, if_pos hc]
      · refine Or.inr ⟨(p, x), j, ?_, ?_, hv, hw⟩
        · simp only [mo_run, ps_bnd, h, if_neg hc]
        · rw [hs, if_neg]
          intro z
          exact hc ⟨List.length_eq_zero_iff.mp (by omega), List.length_eq_zero_iff.mp (by omega)⟩
theorem mo_two {b : Nat → Nat} {l lo hi lo' hi' m x : Nat} {s s1 s2 : Option Nat} (h : mo_ok (mo_run (pq_in b 48 (pq_and (ps_int b) (ps_int b))) l s) s1 (fun z => z.1 = m ∧ z.2 = x)) (hs : s2 = if (lo ≤ m ∧ m ≤ hi) ∧ (lo' ≤ x ∧ x ≤ hi') then s1 else none) : mo_ok (mo_run (ps_two b lo hi lo' hi') l s) s2 (fun z => z.1 = m ∧ z.2 = x) := by
  cases s with
  | none =>
    rw [mo_none h] at hs
    refine Or.inl ⟨by rw [hs]; split <;> rfl, rfl⟩
  | some i =>
    simp only [mo_run, ps_two, pq_in, pq_and, ps_intr] at h ⊢
    cases hh : ps_hd b 48 i l with
    | none =>
      rw [hh] at h
      rcases h with ⟨rfl, -⟩ | ⟨_, _, h, _⟩
      · refine Or.inl ⟨by rw [hs]; split <;> rfl, rfl⟩
      · cases h
    | some p =>
      obtain ⟨f, e⟩ := p
      rw [hh] at h
      simp only [] at h ⊢
      cases h1 : ps_int b f e with
      | none =>
        rw [h1] at h
        rcases h with ⟨rfl, -⟩ | ⟨_, _, h, _⟩
        · refine Or.inl ⟨by rw [hs]; split <;> rfl, rfl⟩
        · cases h
      | some p =>
        obtain ⟨v, j⟩ := p
        rw [h1] at h
        simp only [] at h ⊢
        cases h2 : ps_int b j e with
        | none =>
          rw [h2] at h
          rcases h with ⟨rfl, -⟩ | ⟨_, _, h, _⟩
          · refine Or.inl ⟨by rw [hs]; split <;> rfl, ?_⟩
            by_cases c1 : lo ≤ v ∧ v ≤ hi
            · rw [if_pos c1]
              simp only [h2]
            · rw [if_neg c1]
          · cases h
        | some p =>
          obtain ⟨w, k⟩ := p
          rw [h2] at h
          simp only [] at h
          by_cases hk : k = e
          · rw [if_pos hk] at h
            rcases h with ⟨-, h⟩ | ⟨z, j2, h, rfl, hz1, hz2⟩
            · cases h
            · simp only [Option.some.injEq, Prod.mk.injEq] at h
              obtain ⟨rfl, rfl⟩ := h
              simp only [] at hz1 hz2
              subst hz1
              subst hz2
              by_cases c1 : lo ≤ v ∧ v ≤ hi
              · by_cases c2 : lo' ≤ w ∧ w ≤ hi'
                · rw [if_pos ⟨c1, c2⟩] at hs
                  rw [if_pos c1]
                  simp only [h2]
                  rw [if_pos c2]
                  simp only []
                  rw [if_pos hk]
                  exact Or.inr ⟨_, _, rfl, hs, rfl, rfl⟩
                · rw [if_neg (fun z => c2 z.2)] at hs
                  rw [if_pos c1]
                  simp only [h2]
                  rw [if_neg c2]
                  exact Or.inl ⟨hs, rfl⟩
              · rw [if_neg (fun z => c1 z.1)] at hs
                rw [if_neg c1]
                exact Or.inl ⟨hs, rfl⟩
          · rw [if_neg hk] at h
            rcases h with ⟨rfl, -⟩ | ⟨_, _, h, _⟩
            · refine Or.inl ⟨by rw [hs]; split <;> rfl, ?_⟩
              by_cases c1 : lo ≤ v ∧ v ≤ hi
              · rw [if_pos c1]
                simp only [h2]
                by_cases c2 : lo' ≤ w ∧ w ≤ hi'
                · rw [if_pos c2]
                  simp only []
                  rw [if_neg hk]
                · rw [if_neg c2]
              · rw [if_neg c1]
            · cases h
/-! BITS -/
theorem us_shr : ∀ u, u < 256 → ∀ k, k < 8 → nI u >>> (nI k &&& 31) = nI (u / 2 ^ k) := by decide +kernel
theorem us_shl : ∀ x, x < 2 → ∀ k, k < 8 → nI x <<< (nI k &&& 31) = nI (x * 2 ^ k) := by decide +kernel
def us_sum (u : Nat) : Nat → Nat
  | 0 => 0
  | k + 1 => us_sum u k + u / 2 ^ (7 - k) % 2 * 2 ^ k
theorem us_mir : ∀ u, u < 256 → us_sum u 8 = ps_mir u 8 := by decide +kernel
theorem us_tz : ∀ u, u < 256 → ps_tz u 8 0 ≤ 8 := by decide +kernel
theorem mo_bt0 {b : Nat → Nat} {l : Nat} {s : Option Nat} (h : mo_hd b 3 l s = none) : mo_run (ps_bits b) l s = none := by
  cases s with
  | none => rfl
  | some i =>
    simp only [mo_hd] at h
    simp only [mo_run, ps_bits, pq_in, h]
theorem mo_bt1 {b : Nat → Nat} {l f e : Nat} {s : Option Nat} (h : mo_hd b 3 l s = some (f, e)) : mo_run (ps_bits b) l s = if f + 1 = e then (if b f = 0 then some (0, e) else none) else if f + 2 = e then (if b (f + 1) ≠ 0 ∧ b f = ps_tz (b (f + 1)) 8 0 then some (b (f + 1), e) else none) else none := by
  cases s with
  | none => cases h
  | some i =>
    simp only [mo_hd] at h
    simp only [mo_run, ps_bits, pq_in, h, ps_bit]
    have := ps_hd_some h
    by_cases h1 : f + 1 = e
    · rw [if_pos (show f < e by omega), if_neg (show ¬ f + 1 < e by omega), if_pos h1]
      by_cases h2 : b f = 0
      · simp only [h2, if_true]
        rw [if_pos h1]
      · simp only [h2, if_false]
    · rw [if_neg h1]
      by_cases h2 : f + 2 = e
      · rw [if_pos h2, if_pos (show f < e by omega), if_pos (show f + 1 < e by omega)]
        by_cases h3 : b (f + 1) ≠ 0 ∧ b f = ps_tz (b (f + 1)) 8 0
        · rw [if_pos h3, if_pos h3]
          simp only []
          rw [if_pos h2]
        · rw [if_neg h3, if_neg h3]
      · rw [if_neg h2]
        by_cases h3 : f < e
        · rw [if_pos h3, if_pos (show f + 1 < e by omega)]
          by_cases h4 : b (f + 1) ≠ 0 ∧ b f = ps_tz (b (f + 1)) 8 0
          · rw [if_pos h4]
            simp only []
            rw [if_neg h2]
          · rw [if_neg h4]
        · rw [if_neg h3]
