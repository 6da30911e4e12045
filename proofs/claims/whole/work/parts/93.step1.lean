/-! steps of the law: the buffer -/
theorem ls_feed {M M1 M2 : xm_M} {As : Nat → ab_T} {w n : Int32} {r1 r2 : Int32} (hI : lw_I M As) (p1 : (fun (M : xm_M) => (fun r M1 => (r = nI 0 ∧ M1 = M ∧ ¬ (1 ≤ n.toInt ∧ n.toInt ≤ 4 ∧ n.toInt + (M 2 1 : Nat) ≤ 160)) ∨ (r = nI 1 ∧ ∃ m, n = nI m ∧ 1 ≤ m ∧ m ≤ 4 ∧ M 2 1 + m ≤ 160 ∧ M1 2 1 = M 2 1 + m ∧ (∀ j, j < m → M1 3 (M 2 1 + j) = fd_b w (m - 1 - j)) ∧ (∀ j, (j < M 2 1 ∨ M 2 1 + m ≤ j) → M1 3 j = M 3 j) ∧ ∀ q, q ≠ 2 → q ≠ 3 → M1 q = M q))) M r1 M1) (p2 : (fun (M : xm_M) => (fun r M1 => (r = nI 0 ∧ M1 = M ∧ ¬ (1 ≤ n.toInt ∧ n.toInt ≤ 4 ∧ n.toInt + (M 277 1 : Nat) ≤ 160)) ∨ (r = nI 1 ∧ ∃ m, n = nI m ∧ 1 ≤ m ∧ m ≤ 4 ∧ M 277 1 + m ≤ 160 ∧ M1 277 1 = M 277 1 + m ∧ (∀ j, j < m → M1 278 (1280 + M 277 1 + j) = fd_b w (m - 1 - j)) ∧ (∀ j, (j < 1280 + M 277 1 ∨ 1280 + M 277 1 + m ≤ j) → M1 278 j = M 278 j) ∧ (∀ j, j ≠ 1 → M1 277 j = M 277 j) ∧ ∀ q, q ≠ 277 → q ≠ 278 → M1 q = M q))) M1 r2 M2) : r1 = r2 ∧ ∃ As2, lw_I M2 As2 := by
  obtain ⟨g1, g2, ⟨g3, g3'⟩, ⟨g4, g4'⟩, g5, g6, g7, g8⟩ := id hI
  rcases p1 with ⟨e1, rfl, c1⟩ | ⟨e1, m, rfl, m1, m2, m3, k1, k2, k3, k4⟩
  · rcases p2 with ⟨e2, rfl, -⟩ | ⟨e2, m, rfl, m1, m2, m3, -⟩
    · exact ⟨by rw [e1, e2], As, hI⟩
    · have t : (nI m).toInt = (m : Int) := nI_toInt (by omega)
      exact absurd ⟨by omega, by omega, by omega⟩ c1
  · have t : (nI m).toInt = (m : Int) := nI_toInt (by omega)
    have e77 := k4 277 (by decide) (by decide)
    have e78 := k4 278 (by decide) (by decide)
    rcases p2 with ⟨e2, rfl, c2⟩ | ⟨e2, m', hm, m1', m2', m3', q1, q2, q3, q4, q5⟩
    · rw [e77] at c2
      exact absurd ⟨by omega, by omega, by omega⟩ c2
    · have hmm := lw_inj (by omega) (by omega) hm
      subst hmm
      rw [e77] at q1 q2 q3 q4 m3'
      rw [e78] at q3
      have f2 := q5 2 (by decide) (by decide)
      have f3 := q5 3 (by decide) (by decide)
      refine ⟨by rw [e1, e2], As, hI.buf (fun q a b c d => (q5 q c d).trans (k4 q a b)) q4 ?_ ?_ ?_ ?_ ?_⟩
      · rw [f2, k1, q1]
        omega
      · intro j hj
        exact q3 j (by omega)
      · intro j hj1 hj2
        by_cases hz : j < 1280 + M 277 1 ∨ 1280 + M 277 1 + m ≤ j
        · rw [q3 j hz]; exact g1.2.1 j hj2
        · have := q2 (j - (1280 + M 277 1)) (by omega)
          rw [show 1280 + M 277 1 + (j - (1280 + M 277 1)) = j by omega] at this
          rw [this]
          exact fd_lt _ _
      · intro j hj
        rw [f3]
        by_cases hz : j < M 2 1 ∨ M 2 1 + m ≤ j
        · rw [k3 j hz]; exact g4 j hj
        · have := k2 (j - M 2 1) (by omega)
          rw [show M 2 1 + (j - M 2 1) = j by omega] at this
          rw [this]
          exact fd_lt _ _
      · intro j hj
        rw [f2, k1] at hj
        rw [f3]
        by_cases hz : j < M 2 1
        · rw [k3 j (Or.inl hz), q3 (1280 + j) (by omega)]
          exact g4' j hz
        · have a1 := k2 (j - M 2 1) (by omega)
          have a2 := q2 (j - M 277 1) (by omega)
          rw [show M 2 1 + (j - M 2 1) = j by omega] at a1
          rw [show 1280 + M 277 1 + (j - M 277 1) = 1280 + j by omega] at a2
          rw [a1, a2, g3]

theorem ls_set {M M1 M2 : xm_M} {As : Nat → ab_T} {k b : Int32} {r1 r2 : Int32} (hI : lw_I M As) (p1 : (fun (M : xm_M) => (fun r M1 => (r = nI 0 ∧ M1 = M ∧ ¬ ((0 ≤ k.toInt ∧ k.toInt < (M 2 1 : Nat)) ∧ 0 ≤ b.toInt ∧ b.toInt ≤ 255)) ∨ (r = nI 1 ∧ ∃ j x, k = nI j ∧ b = nI x ∧ j < M 2 1 ∧ x < 256 ∧ M1 = xm_set M 3 j x))) M r1 M1) (p2 : (fun (M : xm_M) => (fun r M1 => (r = nI 0 ∧ M1 = M ∧ ¬ ((0 ≤ k.toInt ∧ k.toInt < (M 277 1 : Nat)) ∧ 0 ≤ b.toInt ∧ b.toInt ≤ 255)) ∨ (r = nI 1 ∧ ∃ j x, k = nI j ∧ b = nI x ∧ j < M 277 1 ∧ x < 256 ∧ M1 = xm_set M 278 (1280 + j) x))) M1 r2 M2) : r1 = r2 ∧ ∃ As2, lw_I M2 As2 := by
  obtain ⟨g1, g2, ⟨g3, g3'⟩, ⟨g4, g4'⟩, g5, g6, g7, g8⟩ := id hI
  rcases p1 with ⟨e1, rfl, c1⟩ | ⟨e1, j, x, rfl, rfl, hj, hx, rfl⟩
  · rcases p2 with ⟨e2, rfl, -⟩ | ⟨e2, j, x, rfl, rfl, hj, hx, -⟩
    · exact ⟨by rw [e1, e2], As, hI⟩
    · have t : (nI j).toInt = (j : Int) := nI_toInt (by omega)
      have t2 : (nI x).toInt = (x : Int) := nI_toInt (by omega)
      exact absurd ⟨⟨by omega, by omega⟩, by omega, by omega⟩ c1
  · have t : (nI j).toInt = (j : Int) := nI_toInt (by omega)
    have t2 : (nI x).toInt = (x : Int) := nI_toInt (by omega)
    have e77 : xm_set M 3 j x 277 = M 277 := xm_oth (by decide)
    have e78 : xm_set M 3 j x 278 = M 278 := xm_oth (by decide)
    rw [e77] at p2
    rcases p2 with ⟨e2, rfl, c2⟩ | ⟨e2, j', x', hj', hx', k1, k2, rfl⟩
    · exact absurd ⟨⟨by omega, by omega⟩, by omega, by omega⟩ c2
    · have a1 := lw_inj (by omega) (by omega) hj'
      have a2 := lw_inj (by omega) (by omega) hx'
      subst a1 a2
      have f3 : xm_set (xm_set M 3 j x) 278 (1280 + j) x 3 = xm_set M 3 j x 3 := xm_oth (by decide)
      have f2 : xm_set (xm_set M 3 j x) 278 (1280 + j) x 2 = M 2 := (xm_oth (by decide)).trans (xm_oth (by decide))
      have f77 : xm_set (xm_set M 3 j x) 278 (1280 + j) x 277 = M 277 := (xm_oth (by decide)).trans (xm_oth (by decide))
      refine ⟨by rw [e1, e2], As, hI.buf (fun q a b c d => (xm_oth d).trans (xm_oth b)) (fun i _ => by rw [f77]) ?_ ?_ ?_ ?_ ?_⟩
      · rw [f2, f77]
        exact ⟨g3, g3'⟩
      · intro i hi
        rw [xm_nk (by omega), e78]
      · intro i hi1 hi2
        by_cases e : i = 1280 + j
        · rw [e, xm_eq]; exact hx
        · rw [xm_nk e, e78]; exact g1.2.1 i hi2
      · intro i hi
        rw [f3]
        by_cases e : i = j
        · rw [e, xm_eq]; exact hx
        · rw [xm_nk e]; exact g4 i hi
      · intro i hi
        rw [f2] at hi
        rw [f3]
        by_cases e : i = j
        · rw [e, xm_eq, xm_eq]
        · rw [xm_nk e, xm_nk (by omega), e78]
          exact g4' i hi

theorem ls_trim {M M1 M2 : xm_M} {As : Nat → ab_T} {n : Int32} {r1 r2 : Int32} (hI : lw_I M As) (p1 : (fun (M : xm_M) => (fun r M1 => (r = nI 0 ∧ M1 = M ∧ ¬ (0 ≤ n.toInt ∧ n.toInt ≤ (M 2 1 : Nat))) ∨ (r = nI 1 ∧ ∃ j, n = nI j ∧ j ≤ M 2 1 ∧ M1 = xm_set M 2 1 j))) M r1 M1) (p2 : (fun (M : xm_M) => (fun r M1 => (r = nI 0 ∧ M1 = M ∧ ¬ (0 ≤ n.toInt ∧ n.toInt ≤ (M 277 1 : Nat))) ∨ (r = nI 1 ∧ ∃ j, n = nI j ∧ j ≤ M 277 1 ∧ M1 = xm_set M 277 1 j))) M1 r2 M2) : r1 = r2 ∧ ∃ As2, lw_I M2 As2 := by
  obtain ⟨g1, g2, ⟨g3, g3'⟩, ⟨g4, g4'⟩, g5, g6, g7, g8⟩ := id hI
  rcases p1 with ⟨e1, rfl, c1⟩ | ⟨e1, j, rfl, hj, rfl⟩
  · rcases p2 with ⟨e2, rfl, -⟩ | ⟨e2, j, rfl, hj, -⟩
    · exact ⟨by rw [e1, e2], As, hI⟩
    · have t : (nI j).toInt = (j : Int) := nI_toInt (by omega)
      exact absurd ⟨by omega, by omega⟩ c1
  · have t : (nI j).toInt = (j : Int) := nI_toInt (by omega)
    have e77 : xm_set M 2 1 j 277 = M 277 := xm_oth (by decide)
    rw [e77] at p2
    rcases p2 with ⟨e2, rfl, c2⟩ | ⟨e2, j', hj', k1, rfl⟩
    · exact absurd ⟨by omega, by omega⟩ c2
    · have a1 := lw_inj (by omega) (by omega) hj'
      subst a1
      have f3 : xm_set (xm_set M 2 1 j) 277 1 j 3 = M 3 := (xm_oth (by decide)).trans (xm_oth (by decide))
      have f78 : xm_set (xm_set M 2 1 j) 277 1 j 278 = M 278 := (xm_oth (by decide)).trans (xm_oth (by decide))
      have f2 : xm_set (xm_set M 2 1 j) 277 1 j 2 1 = j := (xm_np (by decide)).trans xm_eq
      refine ⟨by rw [e1, e2], As, hI.buf (fun q a b c d => (xm_oth c).trans (xm_oth a)) (fun i hi => (xm_nk hi).trans (by rw [e77])) ?_ ?_ ?_ ?_ ?_⟩
      · rw [f2, xm_eq]
        omega
      · intro i hi
        rw [f78]
      · intro i hi1 hi2
        rw [f78]; exact g1.2.1 i hi2
      · intro i hi
        rw [f3]; exact g4 i hi
      · intro i hi
        rw [f2] at hi
        rw [f3, f78]
        exact g4' i (by omega)

theorem ls_length {M M1 M2 : xm_M} {As : Nat → ab_T}  {r1 r2 : Int32} (hI : lw_I M As) (p1 : (fun (M : xm_M) => (fun r M1 => M1 = M ∧ r = nI (M 2 1))) M r1 M1) (p2 : (fun (M : xm_M) => (fun r M1 => M1 = M ∧ r = nI (M 277 1))) M1 r2 M2) : r1 = r2 ∧ ∃ As2, lw_I M2 As2 := by
  obtain ⟨rfl, e1⟩ := p1
  obtain ⟨rfl, e2⟩ := p2
  exact ⟨by rw [e1, e2, hI.2.2.1.1], As, hI⟩

theorem ls_count {M M1 M2 : xm_M} {As : Nat → ab_T}  {r1 r2 : Int32} (hI : lw_I M As) (p1 : (fun (M : xm_M) => (fun r M1 => M1 = M ∧ r = nI (M 0 3))) M r1 M1) (p2 : (fun (M : xm_M) => (fun r M1 => M1 = M ∧ r = nI (M 277 2))) M1 r2 M2) : r1 = r2 ∧ ∃ As2, lw_I M2 As2 := by
  obtain ⟨rfl, e1⟩ := p1
  obtain ⟨rfl, e2⟩ := p2
  exact ⟨by rw [e1, e2, hI.2.2.2.2.1], As, hI⟩

theorem ls_links {M M1 M2 : xm_M} {As : Nat → ab_T}  {r1 r2 : Int32} (hI : lw_I M As) (p1 : (fun (M : xm_M) => (fun r M1 => M1 = M ∧ r = nI (M 0 5))) M r1 M1) (p2 : (fun (M : xm_M) => (fun r M1 => M1 = M ∧ r = nI (M 277 5))) M1 r2 M2) : r1 = r2 ∧ ∃ As2, lw_I M2 As2 := by
  obtain ⟨rfl, e1⟩ := p1
  obtain ⟨rfl, e2⟩ := p2
  exact ⟨by rw [e1, e2, hI.2.2.2.2.2.1], As, hI⟩

theorem ls_byteAt {M M1 M2 : xm_M} {As : Nat → ab_T} {k : Int32} {r1 r2 : Int32} (hI : lw_I M As) (p1 : (fun (M : xm_M) => (fun r M1 => M1 = M ∧ ((¬ (0 ≤ k.toInt ∧ k.toInt < (M 2 1 : Nat)) ∧ r = nI 4294967295) ∨ ∃ j, k = nI j ∧ j < M 2 1 ∧ r = nI (M 3 j)))) M r1 M1) (p2 : (fun (M : xm_M) => (fun r M1 => M1 = M ∧ ((¬ (0 ≤ k.toInt ∧ k.toInt < (M 277 1 : Nat)) ∧ r = nI 4294967295) ∨ ∃ j, k = nI j ∧ j < M 277 1 ∧ r = nI (M 278 (1280 + j))))) M1 r2 M2) : r1 = r2 ∧ ∃ As2, lw_I M2 As2 := by
  obtain ⟨g1, g2, ⟨g3, g3'⟩, ⟨g4, g4'⟩, g5, g6, g7, g8⟩ := id hI
  obtain ⟨rfl, p1⟩ := p1
  obtain ⟨rfl, p2⟩ := p2
  refine ⟨?_, As, hI⟩
  rcases p1 with ⟨c1, e1⟩ | ⟨j, rfl, hj, e1⟩
  · rcases p2 with ⟨-, e2⟩ | ⟨j, rfl, hj, -⟩
    · rw [e1, e2]
    · have t : (nI j).toInt = (j : Int) := nI_toInt (by omega)
      exact absurd ⟨by omega, by omega⟩ c1
  · have t : (nI j).toInt = (j : Int) := nI_toInt (by omega)
    rcases p2 with ⟨c2, e2⟩ | ⟨j', hj', k1, e2⟩
    · exact absurd ⟨by omega, by omega⟩ c2
    · have a1 := lw_inj (by omega) (by omega) hj'
      subst a1
      rw [e1, e2, g4' j hj]

theorem ls_hash {M M1 M2 : xm_M} {As : Nat → ab_T} {f t : Int32} {r1 r2 : Int32} (hI : lw_I M As) (p1 : (fun (M : xm_M) => (fun r M1 => M1 = M ∧ ((¬ (0 ≤ f.toInt ∧ f.toInt ≤ t.toInt ∧ t.toInt ≤ (M 2 1 : Nat)) ∧ r = nI 4294967295) ∨ ∃ i j, f = nI i ∧ t = nI j ∧ i ≤ j ∧ j ≤ M 2 1 ∧ r = nI (ps_hash (M 3) i (j - i))))) M r1 M1) (p2 : (fun (M : xm_M) => (fun r M1 => M1 = M ∧ ((¬ (0 ≤ f.toInt ∧ f.toInt ≤ t.toInt ∧ t.toInt ≤ (M 277 1 : Nat)) ∧ r = nI 4294967295) ∨ ∃ i j, f = nI i ∧ t = nI j ∧ i ≤ j ∧ j ≤ M 277 1 ∧ r = nI (ps_hash (M 278) (1280 + i) (j - i))))) M1 r2 M2) : r1 = r2 ∧ ∃ As2, lw_I M2 As2 := by
  obtain ⟨g1, g2, ⟨g3, g3'⟩, ⟨g4, g4'⟩, g5, g6, g7, g8⟩ := id hI
  have hsh := lw_sh hI
  obtain ⟨rfl, p1⟩ := p1
  obtain ⟨rfl, p2⟩ := p2
  refine ⟨?_, As, hI⟩
  rcases p1 with ⟨c1, e1⟩ | ⟨i, j, rfl, rfl, hi, hj, e1⟩
  · rcases p2 with ⟨-, e2⟩ | ⟨i, j, rfl, rfl, hi, hj, -⟩
    · rw [e1, e2]
    · have t : (nI j).toInt = (j : Int) := nI_toInt (by omega)
      have t' : (nI i).toInt = (i : Int) := nI_toInt (by omega)
      exact absurd ⟨by omega, by omega, by omega⟩ c1
  · have t : (nI j).toInt = (j : Int) := nI_toInt (by omega)
    have t' : (nI i).toInt = (i : Int) := nI_toInt (by omega)
    rcases p2 with ⟨c2, e2⟩ | ⟨i', j', hi', hj', k1, k2, e2⟩
    · exact absurd ⟨by omega, by omega, by omega⟩ c2
    · have a1 := lw_inj (by omega) (by omega) hi'
      have a2 := lw_inj (by omega) (by omega) hj'
      subst a1 a2
      rw [e1, e2, sh_hash hsh _ (by omega)]
