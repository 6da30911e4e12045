/-! the class's cells, and what is said of a certificate -/
def lw_A (M : xm_M) (c : Nat) (A : ab_T) : Prop := ct_H M c A.1 ∧ ct_E M c A.2.1 ∧ M c 10 = A.2.1.1.length ∧ M c 8 = A.2.2.2 ∧ M c 7 = A.2.2.1
theorem lw_A.cg {M M' : xm_M} {c : Nat} {A : ab_T} (hV : ab_v A) (h : ∀ q, c ≤ q → q < c + 30 → M' q = M q) (g : lw_A M c A) : lw_A M' c A := by
  obtain ⟨hH, hE, h1, h2, h3⟩ := g
  have hc := h c (by omega) (by omega)
  refine ⟨?_, ?_, by rw [hc]; exact h1, by rw [hc]; exact h2, by rw [hc]; exact h3⟩
  · obtain ⟨a1, a2, a3, a4, a5, a6⟩ := hH
    exact ⟨by rw [hc]; exact a1, nm_is_cg (h _ (by omega) (by omega)) (h _ (by omega) (by omega)) a2, by rw [hc]; exact a3, nm_is_cg (h _ (by omega) (by omega)) (h _ (by omega) (by omega)) a4, by rw [hc]; exact a5, by rw [hc]; exact a6⟩
  · have l1 := hE.2.2.2.2.1.1
    have l2 := hE.2.2.2.2.2.1
    have v1 := hV.2.1.2.2.2.2.1.1
    have v2 := hV.2.1.2.2.2.2.2.1
    exact ct_E_cg hE (by rw [hc]) (by rw [hc]) (by rw [hc]) hV.2.1.1 (by omega) (by omega) (fun q a b => h q (by omega) b)
theorem pk_inj : ∀ (n : Nat) {l l' : List Nat}, l.length = n → ps_abc l = true → ps_abc l' = true → nm_pk l = nm_pk l' → l = l'
  | 0, l, l', hn, h, h', e => by
    have hl := List.length_eq_zero_iff.mp hn
    subst hl
    exact (nm_pk_pos h' e.symm).symm
  | n + 1, l, l', hn, h, h', e => by
    rcases List.eq_nil_or_concat l with h0 | ⟨a, x, h0⟩
    · subst h0
      simp at hn
    · rw [List.concat_eq_append] at h0
      subst h0
      rcases List.eq_nil_or_concat l' with h1 | ⟨a', y, h1⟩
      · subst h1
        exact nm_pk_pos h e
      · rw [List.concat_eq_append] at h1
        subst h1
        rw [nm_pk_app, nm_pk_app] at e
        simp only [ps_abc, List.all_append, List.all_cons, List.all_nil, Bool.and_true, Bool.and_eq_true, decide_eq_true_eq] at h h'
        have e1 : x = y := by omega
        have e2 : nm_pk a = nm_pk a' := by omega
        have e3 := pk_inj n (by simpa using hn) h.1 h'.1 e2
        rw [e1, e3]
theorem nv_at {x : ps_N} (h : nv_n x) {m : Nat} (hm : m < x.length) : nv_l (x.getD m []) := by
  rw [List.getD_eq_getElem?_getD, List.getElem?_eq_getElem hm]
  exact h.2 _ (List.getElem_mem hm)
theorem nm_wi_pre {M : xm_M} {p q : Nat} {x y : ps_N} (hp : nm_is M p x) (hq : nm_is M q y) (hx : nv_n x) (hy : nv_n y) : nm_wi M p q ↔ y <+: x := by
  unfold nm_wi
  rw [hp.1, hq.1]
  constructor
  · rintro ⟨hl, h⟩
    rw [List.prefix_iff_eq_take]
    apply List.ext_getElem
    · rw [List.length_take]
      omega
    · intro m h1 h2
      have e := h m h1
      rw [hp.2 m (by omega), hq.2 m h1] at e
      have e2 := pk_inj _ rfl (nv_at hx (show m < x.length by omega)).2.2 (nv_at hy h1).2.2 e
      rw [List.getD_eq_getElem?_getD, List.getD_eq_getElem?_getD, List.getElem?_eq_getElem (show m < x.length by omega), List.getElem?_eq_getElem h1] at e2
      simp only [Option.getD_some] at e2
      rw [List.getElem_take]
      exact e2.symm
  · rintro ⟨t, rfl⟩
    refine ⟨by simp, fun m hm => ?_⟩
    rw [hp.2 m (by rw [List.length_append]; omega), hq.2 m hm, List.getD_eq_getElem?_getD, List.getD_eq_getElem?_getD, List.getElem?_append_left hm]
theorem ck_same_eq {M : xm_M} {p q : Nat} {x y : ps_N} (hp : nm_is M p x) (hq : nm_is M q y) (hx : nv_n x) (hy : nv_n y) : ck_same M p q ↔ x = y := by
  unfold ck_same
  rw [nm_wi_pre hp hq hx hy, hp.1, hq.1]
  constructor
  · rintro ⟨h1, h2⟩
    exact (h2.eq_of_length h1.symm).symm
  · rintro rfl
    exact ⟨rfl, List.prefix_refl _⟩
theorem nm_ok_of {M : xm_M} {p : Nat} {x : ps_N} (hp : nm_is M p x) (hx : nv_n x) : nm_ok M p := by
  refine ⟨by rw [hp.1]; exact hx.1, fun m hm => ?_⟩
  rw [hp.1] at hm
  rw [hp.2 m hm]
  obtain ⟨h1, h2, h3⟩ := nv_at hx hm
  have h4 : ∀ z, z ∈ x.getD m [] → z < 256 := by
    intro z hz
    have := List.all_eq_true.mp h3 z hz
    simp only [Bool.and_eq_true, decide_eq_true_eq] at this
    omega
  refine Nat.lt_of_lt_of_le (nm_pk_lt h4) ?_
  exact Nat.le_trans (Nat.pow_le_pow_right (by decide) h2) (by decide)
theorem lw_li {M : xm_M} {p : Nat} {L : List ps_N} (h : nl_is M p L) (hv : cv_L L) : M p 1 ≤ 3 ∧ ∀ k, k < M p 1 → nm_ok M (p + 2 + 2 * k) := by
  refine ⟨by rw [h.1]; exact hv.1, fun k hk => ?_⟩
  rw [h.1] at hk
  refine nm_ok_of (h.2 k hk) ?_
  rw [List.getD_eq_getElem?_getD, List.getElem?_eq_getElem hk]
  exact hv.2 _ (List.getElem_mem hk)
theorem lw_K {M : xm_M} {c : Nat} {A : ab_T} (hV : ab_v A) (h : lw_A M c A) : ct_K M c := by
  obtain ⟨⟨h0, hn1, ⟨h2, h3⟩, hn3, h5, h6⟩, ⟨he, h11, h12, h13, hl1, hl2⟩, h10, h8, h7⟩ := h
  have hus := ab_us_b hV
  have hre := ab_re_b hV
  obtain ⟨⟨v0, v1, ⟨v2, v3⟩, v4, v5, v6⟩, ⟨w1, w2, w3, w4, w5, w6⟩, v7, v8⟩ := hV
  refine ⟨by rw [h7]; exact v7, by rw [h5]; exact v5, by rw [h6]; exact v6, by rw [h8]; exact v8, ⟨by rw [h2]; exact v2, by rw [h3]; exact v3⟩, by rw [h10]; exact w1, fun j hj => ?_, ?_, by rw [h12]; exact hre, by rw [h13]; exact hus, ⟨nm_ok_of hn1 v1, nm_ok_of hn3 v4⟩, lw_li hl1 w5, lw_li hl2 w6⟩
  · rw [h10] at hj
    have hx := he j hj
    have hm : A.2.1.1.getD j (0, false, []) ∈ A.2.1.1 := by
      rw [List.getD_eq_getElem?_getD, List.getElem?_eq_getElem hj]
      exact List.getElem_mem hj
    refine ⟨by rw [hx.1]; exact (w2 _ hm).1, ?_⟩
    rw [hx.2.1]
    split <;> decide
  · rw [h11]
    split <;> decide
theorem lw_fl {M : xm_M} {c : Nat} {A : ab_T} (h : lw_A M c A) : ∀ j, j < 15 → fl_v M c j = ab_f A j := by
  obtain ⟨⟨h0, hn1, ⟨h2, h3⟩, hn3, h5, h6⟩, ⟨he, h11, h12, h13, hl1, hl2⟩, h10, h8, h7⟩ := h
  intro j hj
  rcases (show j = 0 ∨ j = 1 ∨ j = 2 ∨ j = 3 ∨ j = 4 ∨ j = 5 ∨ j = 6 ∨ j = 7 ∨ j = 8 ∨ j = 9 ∨ j = 10 ∨ j = 11 ∨ j = 12 ∨ j = 13 ∨ j = 14 by omega) with rfl | rfl | rfl | rfl | rfl | rfl | rfl | rfl | rfl | rfl | rfl | rfl | rfl | rfl | rfl
  · exact h0
  · exact h2
  · exact h3
  · exact h5
  · exact h6
  · exact h7
  · exact h8
  · show (if M c 11 = 0 then 0 else 1) = if A.2.1.2.1 = true then 1 else 0
    rw [h11]
    split <;> rfl
  · exact h12
  · exact h13
  · exact h10
  · exact hl1.1
  · exact hl2.1
  · exact hn1.1
  · exact hn3.1
theorem lw_nm {M : xm_M} {a : Nat} {A : ab_T} (h : lw_A M (6 + 30 * a) A) (b : Nat) : nm_is M (nm_at a b) (ab_nm A b) := by
  unfold nm_at ab_nm
  split
  · exact h.1.2.2.2.1
  · exact h.1.2.1
theorem ab_nm_v {A : ab_T} (h : ab_v A) (b : Nat) : nv_n (ab_nm A b) := by
  unfold ab_nm
  split
  · exact h.1.2.2.2.1
  · exact h.1.2.1
theorem lw_cr {M : xm_M} {c : Nat} {A : ab_T} (h : lw_A M c A) : ck_cr M c ↔ ab_cr A := by
  obtain ⟨-, ⟨he, -⟩, h10, -⟩ := h
  unfold ck_cr ab_cr
  rw [h10]
  constructor
  · rintro ⟨j, hj, h1, h2⟩
    have hx := he j hj
    refine ⟨A.2.1.1.getD j (0, false, []), ?_, ?_, ?_⟩
    · rw [List.getD_eq_getElem?_getD, List.getElem?_eq_getElem hj]
      exact List.getElem_mem hj
    · rw [hx.2.1] at h1
      split at h1
      · assumption
      · cases h1
    · rw [hx.1] at h2
      exact h2
  · rintro ⟨x, hx, h1, h2⟩
    obtain ⟨j, hj, e⟩ := List.getElem_of_mem hx
    have hy := he j hj
    rw [List.getD_eq_getElem?_getD, List.getElem?_eq_getElem hj, e] at hy
    simp only [Option.getD_some] at hy
    refine ⟨j, hj, ?_, ?_⟩
    · rw [hy.2.1, if_pos h1]
    · rw [hy.1]
      exact h2
theorem lw_any {M : xm_M} {p q : Nat} {L : List ps_N} {x : ps_N} (h : nl_is M p L) (hv : cv_L L) (hq : nm_is M q x) (hx : nv_n x) : (∃ k, k < M p 1 ∧ nm_wi M q (p + 2 + 2 * k)) ↔ ab_any L x := by
  rw [h.1]
  have hg : ∀ k, k < L.length → L.getD k [] ∈ L := by
    intro k hk
    rw [List.getD_eq_getElem?_getD, List.getElem?_eq_getElem hk]
    exact List.getElem_mem hk
  constructor
  · rintro ⟨k, hk, h1⟩
    exact ⟨_, hg k hk, (nm_wi_pre hq (h.2 k hk) hx (hv.2 _ (hg k hk))).mp h1⟩
  · rintro ⟨y, hy, h1⟩
    obtain ⟨k, hk, e⟩ := List.getElem_of_mem hy
    have e2 : L.getD k [] = y := by
      rw [List.getD_eq_getElem?_getD, List.getElem?_eq_getElem hk, e]
      rfl
    refine ⟨k, hk, (nm_wi_pre hq (h.2 k hk) hx (hv.2 _ (hg k hk))).mpr ?_⟩
    rw [e2]
    exact h1
theorem lw_al {M : xm_M} {c q : Nat} {A : ab_T} {x : ps_N} (hV : ab_v A) (h : lw_A M c A) (hq : nm_is M q x) (hx : nv_n x) : ck_al M c q ↔ ab_al A x := by
  have hl1 := h.2.1.2.2.2.2.1
  have hl2 := h.2.1.2.2.2.2.2
  unfold ck_al ab_al
  rw [lw_any hl1 hV.2.1.2.2.2.2.1 hq hx, lw_any hl2 hV.2.1.2.2.2.2.2 hq hx, hl1.1, List.length_eq_zero_iff]
theorem gk_cg {S S' T T' N N' P P' C C' : Prop} {v : Nat} (hS : S ↔ S') (hT : T ↔ T') (hN : N ↔ N') (hP : P ↔ P') (hC : C ↔ C') (h : gk_any S T N P C v) : gk_any S' T' N' P' C' v := by
  rw [propext hS, propext hT, propext hN, propext hP, propext hC] at h
  exact h
theorem ck_tie {M : xm_M} {As : Nat → ab_T} {T : Int} {a : Nat} (hA : ∀ i, i < M 0 3 → ab_v (As i) ∧ lw_A M (6 + 30 * i) (As i)) (hpa : ∀ q, q < M 0 5 → M 276 q = M 280 q ∧ M 276 q < M 0 3) : ∀ {n p h km ke : Nat} {hn : ps_N} {rest : Int} {r : Nat}, p + n = M 0 5 → M h 5 = km → M h 6 = ke → nm_is M (h + 3) hn → nv_n hn → ck_run M T a n p h rest r → ab_run As (M 280) (M 0 5) T a n p km ke hn rest r
  | 0, p, h, km, ke, hn, rest, r, _, _, _, _, _, g => g
  | n + 1, p, h, km, ke, hn, rest, r, hpn, h5, h6, hnm, hnv, g => by
    obtain ⟨v, w, g1, g2, g3⟩ := g
    obtain ⟨e1, e2⟩ := hpa p (by omega)
    obtain ⟨hV, hL⟩ := hA _ e2
    rw [e1] at hV hL g1 g2 g3
    have hsf : ck_same M (6 + 30 * M 280 p + 1) (6 + 30 * M 280 p + 3) ↔ ab_self (As (M 280 p)) := ck_same_eq hL.1.2.1 hL.1.2.2.2.1 hV.1.2.1 hV.1.2.2.2.1
    have k13 : M (6 + 30 * M 280 p) 13 = ab_us (As (M 280 p)) := hL.2.1.2.2.2.1
    have k12 : M (6 + 30 * M 280 p) 12 = ab_re (As (M 280 p)) := hL.2.1.2.2.1
    have k11 : M (6 + 30 * M 280 p) 11 = ab_au (As (M 280 p)) := hL.2.1.2.1
    have a5 : ab_any5 As (M 280) (M 0 5) p km ke hn T v := by
      refine gk_cg ?_ ?_ ?_ ?_ (lw_cr hL) (show gk_any (ck_sig (M (6 + 30 * M 280 p) 7) (M (6 + 30 * M 280 p) 8) (M h 5) (M h 6)) ((M (6 + 30 * M 280 p) 2 : Int) ≤ T ∧ T ≤ (M (6 + 30 * M 280 p) 3 : Int)) (ck_same M (6 + 30 * M 280 p + 1) (h + 3)) ((p + 1 ≠ M 0 5 ∧ ck_same M (6 + 30 * M 280 p + 1) (6 + 30 * M 280 p + 3)) ∨ ∀ q, q < p → ck_al M (6 + 30 * M 276 q) (6 + 30 * M 280 p + 3)) (ck_cr M (6 + 30 * M 280 p)) v from g1)
      · rw [hL.2.2.2.2, hL.2.2.2.1, h5, h6]
      · rw [hL.1.2.2.1.1, hL.1.2.2.1.2]
      · exact ck_same_eq hL.1.2.1 hnm hV.1.2.1 hnv
      · rw [hsf]
        refine or_congr Iff.rfl (forall_congr' fun q => forall_congr' fun hq => ?_)
        obtain ⟨f1, f2⟩ := hpa q (by omega)
        obtain ⟨hVq, hLq⟩ := hA _ f2
        rw [f1] at hVq hLq
        rw [f1]
        exact lw_al hVq hLq hL.1.2.2.2.1 hV.1.2.2.2.1
    refine ⟨v, w, a5, ?_, ?_⟩
    · rcases g2 with g2 | ⟨g2, ⟨g4, g5⟩ | ⟨g4, g5⟩⟩
      · exact Or.inl g2
      · refine Or.inr ⟨g2, Or.inl ⟨g4, ?_⟩⟩
        have g5 : gk_last (M (6 + 30 * M 280 p) 13) a w := g5
        rw [k13] at g5
        exact g5
      · refine Or.inr ⟨g2, Or.inr ⟨g4, ?_⟩⟩
        have g5 : gk_hold (M (6 + 30 * M 280 p) 11) (ck_same M (6 + 30 * M 280 p + 1) (6 + 30 * M 280 p + 3)) (M (6 + 30 * M 280 p) 13) rest w := g5
        rw [k13, k11, propext hsf] at g5
        exact g5
    · rcases g3 with g3 | ⟨g3, r', g4, g5⟩
      · exact Or.inl g3
      · refine Or.inr ⟨g3, r', ?_, ?_⟩
        · have g4 : gk_rest (ck_same M (6 + 30 * M 280 p + 1) (6 + 30 * M 280 p + 3)) (M (6 + 30 * M 280 p) 12) rest r' := g4
          rw [k12, propext hsf] at g4
          exact g4
        · exact ck_tie hA hpa (by omega) hL.1.2.2.2.2.1 hL.1.2.2.2.2.2 hL.1.2.2.2.1 hV.1.2.2.2.1 g5
