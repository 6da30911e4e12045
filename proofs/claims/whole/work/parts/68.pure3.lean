/-! names as bytes: a prefix of the bytes is a prefix of the labels -/
def md_in (b : Nat → Nat) (f t f' t' : Nat) : Prop := t' - f' ≤ t - f ∧ ∀ k, k < t' - f' → b (f + k) = b (f' + k)
theorem ps_label_is {b : Nat → Nat} {i l j : Nat} {x : List Nat} (h : ps_label b i l = some (x, j)) : b i = 19 ∧ b (i + 1) ≤ 8 ∧ j = i + 2 + b (i + 1) ∧ j ≤ l ∧ x = ps_sl b (i + 2) j := by
  unfold ps_label at h
  split at h
  · cases h
  · rename_i f g hh
    split at h
    · rename_i hc
      simp only [Option.some.injEq, Prod.mk.injEq] at h
      obtain ⟨rfl, rfl⟩ := h
      unfold ps_hd at hh
      repeat' split at hh
      all_goals first
        | (cases hh; done)
        | (rename_i c1 c2 c3
           simp only [Option.some.injEq, Prod.mk.injEq] at hh
           obtain ⟨rfl, rfl⟩ := hh
           first
             | exact ⟨c1.2, by omega, rfl, c3, rfl⟩
             | (exfalso; omega))
        | (simp only [Option.some.injEq, Prod.mk.injEq] at hh; exfalso; omega)
    · cases h
theorem ps_sl_eq {b : Nat → Nat} {f g n : Nat} : ps_sl b f (f + n) = ps_sl b g (g + n) ↔ ∀ k, k < n → b (f + k) = b (g + k) := by
  unfold ps_sl
  rw [show f + n - f = n by omega, show g + n - g = n by omega]
  constructor
  · intro h k hk
    have := congrArg (fun l => l.getD k 0) h
    simpa [hk] using this
  · intro h
    apply List.map_congr_left
    intro k hk
    exact h k (List.mem_range.mp hk)
theorem nw_pre {b : Nat → Nat} {t t' : Nat} : ∀ (m n : Nat) {f f' : Nat} {x y : ps_N}, f ≤ t → f' ≤ t' → ps_labels b t n f = some x → ps_labels b t' m f' = some y → (md_in b f t f' t' ↔ y <+: x) := by
  intro m
  induction m with
  | zero =>
    intro n f f' x y hf hf' hx hy
    unfold ps_labels at hy
    split at hy
    · rename_i e
      simp only [Option.some.injEq] at hy
      subst hy
      subst e
      exact ⟨fun _ => List.nil_prefix, fun _ => ⟨by omega, fun k hk => by omega⟩⟩
    · cases hy
  | succ m ih =>
    intro n f f' x y hf hf' hx hy
    unfold ps_labels at hy
    split at hy
    · rename_i e
      simp only [Option.some.injEq] at hy
      subst hy
      subst e
      exact ⟨fun _ => List.nil_prefix, fun _ => ⟨by omega, fun k hk => by omega⟩⟩
    · rename_i hne
      split at hy
      · cases hy
      · rename_i l' j' hl'
        split at hy
        · cases hy
        · rename_i r' hr'
          simp only [Option.some.injEq] at hy
          subst hy
          obtain ⟨p1, p2, p3, p4, p5⟩ := ps_label_is hl'
          cases n with
          | zero =>
            unfold ps_labels at hx
            split at hx
            · simp only [Option.some.injEq] at hx
              subst hx
              refine ⟨fun h => absurd h.1 (by omega), fun h => ?_⟩
              have := h.length_le
              simp at this
            · cases hx
          | succ n =>
            unfold ps_labels at hx
            split at hx
            · simp only [Option.some.injEq] at hx
              subst hx
              refine ⟨fun h => absurd h.1 (by omega), fun h => ?_⟩
              have := h.length_le
              simp at this
            · split at hx
              · cases hx
              · rename_i l j hl
                split at hx
                · cases hx
                · rename_i r hr
                  simp only [Option.some.injEq] at hx
                  subst hx
                  obtain ⟨q1, q2, q3, q4, q5⟩ := ps_label_is hl
                  have hi := ih n q4 p4 hr hr'
                  rw [List.cons_prefix_cons, ← hi]
                  constructor
                  · rintro ⟨h1, h2⟩
                    have k1 := h2 1 (by omega)
                    have hjj : j - f = j' - f' := by omega
                    refine ⟨?_, by omega, fun k hk => ?_⟩
                    · rw [p5, q5, q3, p3, k1]
                      refine (ps_sl_eq.mpr (fun k hk => ?_)).symm
                      have := h2 (2 + k) (by omega)
                      rw [show f + 2 + k = f + (2 + k) by omega, show f' + 2 + k = f' + (2 + k) by omega]
                      exact this
                    · have := h2 (j' - f' + k) (by omega)
                      rw [show j + k = f + (j' - f' + k) by omega, show j' + k = f' + (j' - f' + k) by omega]
                      exact this
                  · rintro ⟨h0, h1, h2⟩
                    have hlen : b (f' + 1) = b (f + 1) := by
                      have := congrArg List.length h0
                      rw [p5, q5, ps_sl_l, ps_sl_l] at this
                      omega
                    rw [p5, q5, q3, p3, hlen] at h0
                    have h0 := ps_sl_eq.mp h0
                    refine ⟨by omega, fun k hk => ?_⟩
                    by_cases ka : k = 0
                    · rw [ka, Nat.add_zero, Nat.add_zero, q1, p1]
                    · by_cases kb : k = 1
                      · rw [kb]
                        exact hlen.symm
                      · by_cases kc : k < 2 + b (f + 1)
                        · have := h0 (k - 2) (by omega)
                          rw [show f' + 2 + (k - 2) = f' + k by omega, show f + 2 + (k - 2) = f + k by omega] at this
                          exact this.symm
                        · have := h2 (k - (2 + b (f + 1))) (by omega)
                          rw [show j + (k - (2 + b (f + 1))) = f + k by omega, show j' + (k - (2 + b (f + 1))) = f' + k by omega] at this
                          exact this
theorem nw_eq {b : Nat → Nat} {t t' n m f f' : Nat} {x y : ps_N} (hf : f ≤ t) (hf' : f' ≤ t') (hx : ps_labels b t n f = some x) (hy : ps_labels b t' m f' = some y) : (t - f = t' - f' ∧ md_in b f t f' t') ↔ x = y := by
  have h1 := nw_pre m n hf hf' hx hy
  have h2 := nw_pre n m hf' hf hy hx
  constructor
  · rintro ⟨h, g⟩
    have p1 := h1.mp g
    have p2 := h2.mp ⟨by omega, fun k hk => (g.2 k (by omega)).symm⟩
    exact (p1.eq_of_length (Nat.le_antisymm p1.length_le p2.length_le)).symm
  · rintro rfl
    have p1 := h1.mpr (List.prefix_refl _)
    have p2 := h2.mpr (List.prefix_refl _)
    exact ⟨Nat.le_antisymm p2.1 p1.1, p1⟩
/-! what is said of a certificate: head, extensions, signature, hash -/
abbrev ab_T : Type := ps_H × ps_E × Nat × Nat
def ab_of (b : Nat → Nat) (C : ps_C) : ab_T := (C.1.1.1, C.1.1.2, C.2, ps_hash b C.1.2.1 (C.1.2.2 - C.1.2.1))
/-- the name that is asked for: 0 the subject, else the issuer -/
def ab_nm (A : ab_T) (k : Nat) : ps_N := if k = 0 then A.1.2.2.2.1 else A.1.2.1
def ab_v (A : ab_T) : Prop := cv_H A.1 ∧ cv_E A.2.1 ∧ A.2.2.1 < 2147483648 ∧ A.2.2.2 < 1000003
/-- what the reference has of a certificate -/
def md_A (b : Nat → Nat) (M : xm_M) (A : ab_T) : Prop := md_H b M A.1 ∧ md_E b M A.2.1 ∧ M 277 14 ≤ M 277 15 ∧ M 277 15 ≤ 1440 ∧ ps_hash b (M 277 14) (M 277 15 - M 277 14) = A.2.2.2 ∧ M 277 13 = A.2.2.1
def md_G (M : xm_M) (As : Nat → ab_T) : Prop := M 277 2 ≤ 8 ∧ (∀ j, j < 1440 → M 278 j < 256) ∧ ∀ i, i < M 277 2 → M 279 i ≤ 160 ∧ ∃ C, ps_cert (M 278) (160 * i) (160 * i + M 279 i) = some C ∧ ab_of (M 278) C = As i
theorem md_G.y {M M' : xm_M} {As : Nat → ab_T} (h : md_G M As) (g : md_Y md_al M M') : md_G M' As := by
  unfold md_G at *
  rw [g.2 2 (by decide), g.1 278 (by decide) (by decide), g.1 279 (by decide) (by decide)]
  exact h
theorem ab_ok {b : Nat → Nat} {i l : Nat} {C : ps_C} (hb : ∀ k, k < l → b k < 256) (hil : i ≤ l) (h : ps_cert b i l = some C) : ab_v (ab_of b C) := by
  obtain ⟨-, h1, h2, h3, -⟩ := ec_cert hb hil h
  exact ⟨h1, h2, h3, ps_hash_lt _ _ _⟩
theorem md_G.v {M : xm_M} {As : Nat → ab_T} (h : md_G M As) {i : Nat} (hi : i < M 277 2) : ab_v (As i) := by
  obtain ⟨h1, h2, h3⟩ := h
  obtain ⟨h4, C, h5, h6⟩ := h3 i hi
  rw [← h6]
  exact ab_ok (fun k hk => h2 k (by omega)) (by omega) h5
theorem md_C.a {M M' : xm_M} {f l : Nat} {C : ps_C} (hb : ∀ k, k < l → M 278 k < 256) (hl : l ≤ 1440) (hf : f ≤ l) (h : ps_cert (M 278) f l = some C) (hC : md_C (M 278) M' C) : md_A (M 278) M' (ab_of (M 278) C) := by
  obtain ⟨-, -, -, -, h1, h2, h3⟩ := ec_cert hb hf h
  obtain ⟨a, b, c, d, e⟩ := hC
  refine ⟨a, b, by omega, by omega, ?_, e⟩
  rw [c, d]
  rfl
