/-! what was read is what would be written: extensions, certificate -/
def cw_E (E : ps_E) : Prop := (∀ x, x ∈ E.1 → x.1 < 256 ∧ x.2.2.length ≤ 20 ∧ (x.1 = 2 → E.2.2.2.1 ≠ none)) ∧ (∀ v, E.2.2.1 = some v → v < 2147483648) ∧ (∀ u, E.2.2.2.1 = some u → u < 256) ∧ cv_L E.2.2.2.2.1 ∧ cv_L E.2.2.2.2.2 ∧ ((∀ x, x ∈ E.1 → x.1 ≠ 1) → E.2.2.1 = none)
theorem ec_con {b : Nat → Nat} {num : Nat} {c : Bool} {E E' : ps_E} {i l j : Nat} (hb : ∀ k, k < l → b k < 256) (hil : i ≤ l) (hE : cw_E E) (hn : num < 256) (hd : ∀ x, x ∈ E.1 → x.1 ≠ num) (h : ps_con b num c E i l = some (E', j)) :
    i ≤ j ∧ j ≤ l ∧ ∃ o, E'.1 = E.1 ++ [(num, c, o)] ∧ ps_sl b i j = en_con E' (num, c, o) ∧ cw_E E' ∧ ∀ x, x ∈ E.1 → en_con E' x = en_con E x := by
  obtain ⟨e1, e2, e3, e4, e5, e6⟩ := hE
  unfold ps_con at h
  split at h
  · rename_i n1
    subst n1
    split at h
    · cases h
    · rename_i t r k hk
      obtain ⟨a1, a2, a3, a4⟩ := ec_basic b i l (t, r) k hb hil hk
      simp only [Option.some.injEq, Prod.mk.injEq] at h
      obtain ⟨rfl, rfl⟩ := h
      have hr : E.2.2.1 = none := e6 hd
      have hor : ps_or r E.2.2.1 = r := by rw [hr]; cases r <;> rfl
      refine ⟨a1, a2, [], rfl, ?_, ⟨?_, ?_, e3, e4, e5, ?_⟩, ?_⟩
      · rw [a3]
        unfold en_con
        rw [if_pos rfl]
        simp only [hor]
      · intro x hx
        rcases List.mem_append.mp hx with hx | hx
        · exact e1 x hx
        · simp only [List.mem_singleton] at hx
          subst hx
          exact ⟨by simp, by simp, fun z => by cases z⟩
      · intro v hv
        simp only [hor] at hv
        exact a4 v hv
      · intro z
        exact absurd rfl (z (1, c, []) (by simp))
      · intro x hx
        unfold en_con
        rw [if_neg (hd x hx), if_neg (hd x hx)]
  · rename_i n1
    split at h
    · rename_i n2
      subst n2
      split at h
      · cases h
      · rename_i u k hk
        obtain ⟨a1, a2, a3, a4⟩ := ec_bits b i l u k hb hil hk
        simp only [Option.some.injEq, Prod.mk.injEq] at h
        obtain ⟨rfl, rfl⟩ := h
        refine ⟨a1, a2, [], rfl, ?_, ⟨?_, e2, ?_, e4, e5, ?_⟩, ?_⟩
        · rw [a3]
          rfl
        · intro x hx
          rcases List.mem_append.mp hx with hx | hx
          · exact ⟨(e1 x hx).1, (e1 x hx).2.1, fun _ z => by cases z⟩
          · simp only [List.mem_singleton] at hx
            subst hx
            exact ⟨by simp, by simp, fun _ z => by cases z⟩
        · intro w hw
          simp only [Option.some.injEq] at hw
          omega
        · intro z
          exact e6 (fun x hx => z x (List.mem_append_left _ hx))
        · intro x hx
          unfold en_con
          by_cases h1 : x.1 = 1
          · rw [if_pos h1, if_pos h1]
          · rw [if_neg h1, if_neg h1, if_neg (hd x hx), if_neg (hd x hx)]
    · rename_i n2
      split at h
      · rename_i n3
        subst n3
        split at h
        · cases h
        · rename_i p x' k hk
          obtain ⟨a1, a2, a3, a4⟩ := ec_bounds b i l (p, x') k hb hil hk
          simp only [Option.some.injEq, Prod.mk.injEq] at h
          obtain ⟨rfl, rfl⟩ := h
          refine ⟨a1, a2, [], rfl, ?_, ⟨?_, e2, e3, a4.1, a4.2, ?_⟩, ?_⟩
          · rw [a3]
            rfl
          · intro x hx
            rcases List.mem_append.mp hx with hx | hx
            · exact e1 x hx
            · simp only [List.mem_singleton] at hx
              subst hx
              exact ⟨by simp, by simp, fun z => by cases z⟩
          · intro z
            exact e6 (fun x hx => z x (List.mem_append_left _ hx))
          · intro x hx
            unfold en_con
            by_cases h1 : x.1 = 1
            · rw [if_pos h1, if_pos h1]
            · rw [if_neg h1, if_neg h1]
              by_cases h2 : x.1 = 2
              · rw [if_pos h2, if_pos h2]
              · rw [if_neg h2, if_neg h2, if_neg (hd x hx), if_neg (hd x hx)]
      · rename_i n3
        split at h
        · rename_i h20
          simp only [Option.some.injEq, Prod.mk.injEq] at h
          obtain ⟨rfl, rfl⟩ := h
          refine ⟨hil, Nat.le_refl _, ps_sl b i l, rfl, ?_, ⟨?_, e2, e3, e4, e5, ?_⟩, fun x _ => rfl⟩
          · unfold en_con
            rw [if_neg n1, if_neg n2, if_neg n3]
          · intro x hx
            rcases List.mem_append.mp hx with hx | hx
            · exact e1 x hx
            · simp only [List.mem_singleton] at hx
              subst hx
              exact ⟨hn, by rw [ps_sl_l]; exact h20, fun z => absurd z n2⟩
          · intro z
            exact e6 (fun x hx => z x (List.mem_append_left _ hx))
        · cases h
theorem ec_ext {b : Nat → Nat} {E E' : ps_E} {i l j : Nat} (hb : ∀ k, k < l → b k < 256) (hil : i ≤ l) (hE : cw_E E) (h : ps_ext b E i l = some (E', j)) :
    i ≤ j ∧ j ≤ l ∧ ∃ y, E'.1 = E.1 ++ [y] ∧ ps_sl b i j = en_ext E' y ∧ cw_E E' ∧ ∀ x, x ∈ E.1 → en_ext E' x = en_ext E x := by
  obtain ⟨h1, h2, -, f, hh, hP⟩ := pq_in_some h
  obtain ⟨g1, g2, g3, g4⟩ := ec_hd hh
  have hb' : ∀ k, k < j → b k < 256 := fun k hk => hb k (by omega)
  unfold ps_exc at hP
  split at hP
  · cases hP
  · rename_i num k hk
    obtain ⟨a1, a2, a3, a4⟩ := ec_intr b 0 255 f j num k hb' g3 hk
    split at hP
    · cases hP
    · rename_i hany
      split at hP
      · cases hP
      · rename_i c k2 hk2
        obtain ⟨b1, b2, b3, -⟩ := ec_tru b k j c k2 hb' a2 hk2
        obtain ⟨c1, c2, -, g, hg, hQ⟩ := pq_in_some hP
        obtain ⟨d1, d2, d3, d4⟩ := ec_hd hg
        obtain ⟨q1, q2, o, q3, q4, q5, q6⟩ := ec_con hb' d3 hE (by omega) (fun x hx z => hany (List.any_eq_true.mpr ⟨x, hx, by simp [z]⟩)) hQ
        refine ⟨by omega, h2, (num, c, o), q3, ?_, q5, fun x hx => ?_⟩
        · unfold en_ext
          rw [g1, ps_sl_app a1 (show k ≤ j by omega), ps_sl_app b1 (show k2 ≤ j by omega), a3, b3, d1, q4, List.append_assoc]
        · unfold en_ext
          rw [q6 x hx]
theorem en_exts_cg {E E' : ps_E} : ∀ {L : List (Nat × Bool × List Nat)}, (∀ x, x ∈ L → en_ext E' x = en_ext E x) → en_exts E' L = en_exts E L
  | [], _ => rfl
  | y :: r, h => by
    simp only [en_exts]
    rw [h y (by simp), en_exts_cg (fun x hx => h x (by simp [hx]))]
theorem ec_exts {b : Nat → Nat} {l : Nat} (hb : ∀ k, k < l → b k < 256) : ∀ n {E E' : ps_E} {i j : Nat}, i ≤ l → cw_E E → ps_exts b n E i l = some (E', j) →
    i ≤ j ∧ j ≤ l ∧ ∃ ys, ys ≠ [] ∧ ys.length ≤ n + 1 ∧ E'.1 = E.1 ++ ys ∧ ps_sl b i j = en_exts E' ys ∧ cw_E E' ∧ ∀ x, x ∈ E.1 → en_ext E' x = en_ext E x
  | 0, E, E', i, j, hil, hE, h => by
    obtain ⟨a1, a2, y, a3, a4, a5, a6⟩ := ec_ext hb hil hE h
    exact ⟨a1, a2, [y], by simp, by simp, a3, by rw [a4]; simp [en_exts], a5, a6⟩
  | n + 1, E, E', i, j, hil, hE, h => by
    unfold ps_exts at h
    split at h
    · cases h
    · rename_i E1 k hk
      obtain ⟨a1, a2, y, a3, a4, a5, a6⟩ := ec_ext hb hil hE hk
      split at h
      · obtain ⟨b1, b2, ys, b3, b3', b4, b5, b6, b7⟩ := ec_exts hb n a2 a5 h
        refine ⟨by omega, b2, y :: ys, by simp, by simp; omega, by rw [b4, a3]; simp, ?_, b6, fun x hx => ?_⟩
        · rw [ps_sl_app a1 b1, a4, b5, ← b7 y (by rw [a3]; simp)]
          rfl
        · rw [b7 x (by rw [a3]; simp [hx]), a6 x hx]
      · simp only [Option.some.injEq, Prod.mk.injEq] at h
        obtain ⟨rfl, rfl⟩ := h
        exact ⟨a1, a2, [y], by simp, by simp, a3, by rw [a4]; simp [en_exts], a5, a6⟩
theorem cw_E0 : cw_E ps_E0 := ⟨fun x hx => (by cases hx), fun v hv => (by cases hv), fun v hv => (by cases hv), ⟨by decide, fun n hn => (by cases hn)⟩, ⟨by decide, fun n hn => (by cases hn)⟩, fun _ => rfl⟩
theorem cw_cv {E : ps_E} (h : cw_E E) (hl : E.1.length ≤ 4) : cv_E E := ⟨hl, h.1, h.2.1, h.2.2.1, h.2.2.2.1, h.2.2.2.2.1⟩
theorem ec_more (b : Nat → Nat) : ec b (ps_more b) en_more cv_E := by
  intro i l E' j hb hil h
  unfold ps_more at h
  split at h
  · obtain ⟨h1, h2, -, f, hh, hP⟩ := pq_in_some h
    obtain ⟨g1, g2, g3, g4⟩ := ec_hd hh
    obtain ⟨c1, c2, -, g, hg, hQ⟩ := pq_in_some hP
    obtain ⟨d1, d2, d3, d4⟩ := ec_hd hg
    obtain ⟨q1, q2, ys, q3, q3', q4, q5, q6, -⟩ := ec_exts (fun k hk => hb k (by omega)) 3 d3 cw_E0 hQ
    have hys : E'.1 = ys := by rw [q4]; rfl
    refine ⟨by omega, h2, ?_, cw_cv q6 (by rw [hys]; exact q3')⟩
    unfold en_more
    rw [if_neg (by rw [hys]; exact q3), g1, d1, q5, hys]
  · simp only [Option.some.injEq, Prod.mk.injEq] at h
    obtain ⟨rfl, rfl⟩ := h
    refine ⟨Nat.le_refl _, hil, by simp [ps_sl, en_more, ps_E0], cw_cv cw_E0 (by decide)⟩
theorem ec_two (b : Nat → Nat) (lo hi lo' hi' : Nat) : ec b (ps_two b lo hi lo' hi') (fun z => en_two z.1 z.2) (fun z => (z.1 < 2147483648 ∧ lo ≤ z.1 ∧ z.1 ≤ hi) ∧ (z.2 < 2147483648 ∧ lo' ≤ z.2 ∧ z.2 ≤ hi')) := ec_in (ec_and (ec_intr b lo hi) (ec_intr b lo' hi'))
theorem ec.imp {α : Type} {b : Nat → Nat} {P : Nat → Nat → Option (α × Nat)} {enc : α → List Nat} {V W : α → Prop} (h : ec b P enc V) (g : ∀ x, V x → W x) : ec b P enc W := fun i l x j hb hil hp => by
  obtain ⟨a, b', c, d⟩ := h i l x j hb hil hp
  exact ⟨a, b', c, g x d⟩
theorem ec_head (b : Nat → Nat) : ec b (ps_head b) en_head cv_H := by
  have h := ec_and (ec_intr b 0 2147483647) (ec_and (ec_name b) (ec_and (ec_two b 0 2147483647 0 2147483647) (ec_and (ec_name b) (ec_two b 2 2147483647 1 1000))))
  refine ec.imp (V := _) (enc := en_head) h (fun z hz => ?_)
  obtain ⟨h1, h2, ⟨h3, h4⟩, h5, h6, h7⟩ := hz
  exact ⟨h1.1, h2, ⟨h3.1, h4.1⟩, h5, ⟨h6.2.1, h6.1⟩, h7.2⟩
theorem ec_cert {b : Nat → Nat} {i l : Nat} {C : ps_C} (hb : ∀ k, k < l → b k < 256) (hil : i ≤ l) (h : ps_cert b i l = some C) : ps_sl b i l = en_cert C ∧ cv_H C.1.1.1 ∧ cv_E C.1.1.2 ∧ C.2 < 2147483648 ∧ i ≤ C.1.2.1 ∧ C.1.2.1 ≤ C.1.2.2 ∧ C.1.2.2 ≤ l := by
  unfold ps_cert at h
  split at h
  · cases h
  · rename_i x j hx
    split at h
    · rename_i hj
      simp only [Option.some.injEq] at h
      subst h
      subst hj
      obtain ⟨h1, h2, -, f, hh, hP⟩ := pq_in_some hx
      obtain ⟨g1, g2, g3, g4⟩ := ec_hd hh
      unfold pq_and at hP
      split at hP
      · cases hP
      · rename_i z k hz
        split at hP
        · cases hP
        · rename_i s k2 hs
          simp only [Option.some.injEq, Prod.mk.injEq] at hP
          obtain ⟨rfl, rfl⟩ := hP
          unfold pq_pos at hz
          split at hz
          · cases hz
          · rename_i y k3 hy
            simp only [Option.some.injEq, Prod.mk.injEq] at hz
            obtain ⟨rfl, rfl⟩ := hz
            obtain ⟨a1, a2, a3, a4⟩ := ec_in (ec_and (ec_head b) (ec_more b)) f k2 y k3 hb g3 hy
            obtain ⟨b1, b2, b3, b4⟩ := ec_intr b 0 2147483647 k3 k2 s k2 hb a2 hs
            refine ⟨?_, a4.1, a4.2, b4.1, ?_, a1, a2⟩
            · unfold en_cert
              rw [g1, ps_sl_app a1 b1, a3, b3]
            · simp only []
              omega
    · cases h
