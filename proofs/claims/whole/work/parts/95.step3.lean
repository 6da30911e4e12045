/-! steps of the law: recode, accept -/
theorem ls_recode {M M1 M2 : xm_M} {As : Nat → ab_T} {i : Int32} {r1 r2 : Int32} (hI : lw_I M As) (p1 : (fun (M : xm_M) => (fun r M1 => (r = nI 4294967295 ∧ M1 = M ∧ ¬ (0 ≤ i.toInt ∧ i.toInt < (M 0 3 : Nat))) ∨ ∃ a, i = nI a ∧ a < M 0 3 ∧ M1 = wr_m (xm_set M 2 1 0) (en_cert (lw_Cs As a)) ∧ r = nI (en_cert (lw_Cs As a)).length)) M r1 M1) (p2 : (fun (M : xm_M) => (fun r M1 => (r = nI 4294967295 ∧ M1 = M ∧ ¬ (0 ≤ i.toInt ∧ i.toInt < (M 277 2 : Nat))) ∨ ∃ a, i = nI a ∧ a < M 277 2 ∧ r = nI (M 279 a) ∧ M1 277 1 = M 279 a ∧ (∀ j, j ≠ 1 → M1 277 j = M 277 j) ∧ (∀ j, j < M 279 a → M1 278 (1280 + j) = M 278 (160 * a + j)) ∧ (∀ j, (j < 1280 ∨ 1280 + M 279 a ≤ j) → M1 278 j = M 278 j) ∧ ∀ q, q ≠ 277 → q ≠ 278 → M1 q = M q)) M1 r2 M2) : r1 = r2 ∧ ∃ As2, lw_I M2 As2 := by
  have hk8 := hI.k8
  obtain ⟨g1, g2, ⟨g3, g3'⟩, ⟨g4, g4'⟩, g5, g6, g7, g8⟩ := id hI
  rcases p1 with ⟨e1, rfl, c1⟩ | ⟨a, rfl, ha, h1, e1⟩
  · rcases p2 with ⟨e2, rfl, -⟩ | ⟨a, rfl, ha, -⟩
    · exact ⟨by rw [e1, e2], As, hI⟩
    · have t : (nI a).toInt = (a : Int) := nI_toInt (by omega)
      exact absurd ⟨by omega, by omega⟩ c1
  · have t : (nI a).toInt = (a : Int) := nI_toInt (by omega)
    have k1 : ∀ q, q ≠ 2 → q ≠ 3 → M1 q = M q := fun q a b => by rw [h1, wr_o a b, xm_oth a]
    have e77 := k1 277 (by decide) (by decide)
    have e78 := k1 278 (by decide) (by decide)
    have e79 := k1 279 (by decide) (by decide)
    rw [e77, e79] at p2
    rcases p2 with ⟨e2, rfl, c2⟩ | ⟨a', ha', k2, e2, q1, q2, q3, q4, q5⟩
    · exact absurd ⟨by omega, by omega⟩ c2
    · have a1 := lw_inj (by omega) (by omega) ha'
      subst a1
      rw [e78] at q3 q4
      obtain ⟨hl, hl2⟩ := lw_rcl g1 (show a < M 277 2 by omega)
      have s1 : M1 2 1 = M 279 a := by
        rw [h1, wr_21, xm_eq, hl]
        omega
      have b1 : ∀ j, M1 3 j = if j < M 279 a then M 278 (160 * a + j) else M 3 j := by
        intro j
        rw [h1, wr_3, xm_eq, xm_oth (by decide)]
        unfold wr_f
        rw [hl]
        by_cases hj : j < M 279 a
        · rw [if_pos ⟨by omega, by omega⟩, if_pos hj, Nat.sub_zero]
          exact lw_rcg g1 (by omega) hj
        · rw [if_neg (by omega), if_neg hj]
      have f2 := q5 2 (by decide) (by decide)
      have f3 := q5 3 (by decide) (by decide)
      refine ⟨by rw [e1, e2, hl], As, hI.buf (fun q a b c d => (q5 q c d).trans (k1 q a b)) q2 ?_ ?_ ?_ ?_ ?_⟩
      · rw [f2, s1, q1]
        omega
      · intro j hj
        exact q4 j (Or.inl hj)
      · intro j hj1 hj2
        by_cases hz : 1280 + M 279 a ≤ j
        · rw [q4 j (Or.inr hz)]; exact g1.2.1 j hj2
        · have := q3 (j - 1280) (by omega)
          rw [show 1280 + (j - 1280) = j by omega] at this
          rw [this]
          exact g1.2.1 _ (by omega)
      · intro j hj
        rw [f3, b1]
        split
        · exact g1.2.1 _ (by omega)
        · exact g4 j hj
      · intro j hj
        rw [f2, s1] at hj
        rw [f3, b1, if_pos hj, q3 j hj]

theorem ls_accept {M M1 M2 : xm_M} {As : Nat → ab_T}  {r1 r2 : Int32} (hI : lw_I M As) (p1 : (fun (M : xm_M) => (fun r M1 => (∀ q, q ≠ 0 → q ≠ 1 → q ≠ 4 → (q < (6 + 30 * M 0 3) ∨ (6 + 30 * M 0 3) + 30 ≤ q) → M1 q = M q) ∧ (∀ j, j ≠ 3 → M1 0 j = M 0 j) ∧ ((r = nI 4294967295 ∧ M1 0 3 = M 0 3 ∧ ps_cert (M 3) 0 (M 2 1) = none) ∨ (∃ C9, ps_cert (M 3) 0 (M 2 1) = some C9 ∧ ((r = nI 4294967294 ∧ M 0 3 = 8 ∧ M1 0 3 = 8) ∨ (M 0 3 < 8 ∧ r = nI (M 0 3) ∧ M1 0 3 = M 0 3 + 1 ∧ ct_C (M 3) M1 (6 + 30 * M 0 3) C9)))))) M r1 M1) (p2 : (fun (M : xm_M) => (fun r M1 => (r = nI 4294967295 ∧ ps_cert (M 278) 1280 (1280 + M 277 1) = none ∧ md_Y md_al M M1) ∨ ∃ C, ps_cert (M 278) 1280 (1280 + M 277 1) = some C ∧ ((r = nI 4294967294 ∧ M 277 2 = 8 ∧ md_Y md_al M M1) ∨ (M 277 2 < 8 ∧ r = nI (M 277 2) ∧ M1 277 2 = M 277 2 + 1 ∧ (∀ j, j < M 277 1 → M1 278 (160 * M 277 2 + j) = M 278 (1280 + j)) ∧ (∀ j, (j < 160 * M 277 2 ∨ 160 * M 277 2 + M 277 1 ≤ j) → M1 278 j = M 278 j) ∧ (∀ j, j ∉ md_al → j ≠ 2 → M1 277 j = M 277 j) ∧ M1 279 (M 277 2) = M 277 1 ∧ (∀ j, j ≠ M 277 2 → M1 279 j = M 279 j) ∧ ∀ q, q ≠ 277 → q ≠ 278 → q ≠ 279 → q ≠ 281 → M1 q = M q)))) M1 r2 M2) : r1 = r2 ∧ ∃ As2, lw_I M2 As2 := by
  have hk8 := hI.k8
  obtain ⟨g1, g2, ⟨g3, g3'⟩, ⟨g4, g4'⟩, g5, g6, g7, g8⟩ := id hI
  obtain ⟨hq, h0, p1⟩ := p1
  have e2 := hq 2 (by decide) (by decide) (by decide) (by omega)
  have e3 := hq 3 (by decide) (by decide) (by decide) (by omega)
  have e276 := hq 276 (by decide) (by decide) (by decide) (by omega)
  have e77 := hq 277 (by decide) (by decide) (by decide) (by omega)
  have e78 := hq 278 (by decide) (by decide) (by decide) (by omega)
  have e79 := hq 279 (by decide) (by decide) (by decide) (by omega)
  have e280 := hq 280 (by decide) (by decide) (by decide) (by omega)
  rw [e77, e78, e79] at p2
  have hsh := lw_sh hI
  rw [← g3] at p2
  rcases p1 with ⟨e1, k3, c1⟩ | ⟨C9, c1, ⟨e1, k8, k3⟩ | ⟨k8, e1, k3, hC⟩⟩
  · have hn := sh_no hsh c1
    rcases p2 with ⟨r2e, -, f2⟩ | ⟨C, hC, -⟩
    · exact ⟨by rw [e1, r2e], As, (hI.scr hq h0 k3).y f2⟩
    · rw [hn] at hC; cases hC
  · obtain ⟨C', hC', -⟩ := sh_ab hsh (fun j hj => g4 j (by omega)) c1
    rcases p2 with ⟨-, hn, -⟩ | ⟨C, -, ⟨r2e, -, f2⟩ | ⟨l8, -⟩⟩
    · rw [hn] at hC'; cases hC'
    · exact ⟨by rw [e1, r2e], As, (hI.scr hq h0 (by omega)).y f2⟩
    · omega
  · obtain ⟨C', hC', -⟩ := sh_ab hsh (fun j hj => g4 j (by omega)) c1
    rcases p2 with ⟨-, hn, -⟩ | ⟨C, -, ⟨-, l8, -⟩ | ⟨-, r2e, q1, q2, q3, q4, q5, q6, q7⟩⟩
    · rw [hn] at hC'; cases hC'
    · omega
    · have f0 := q7 0 (by decide) (by decide) (by decide) (by decide)
      have f2 := q7 2 (by decide) (by decide) (by decide) (by decide)
      have f3 := q7 3 (by decide) (by decide) (by decide) (by decide)
      have f276 := q7 276 (by decide) (by decide) (by decide) (by decide)
      have f280 := q7 280 (by decide) (by decide) (by decide) (by decide)
      have hb8 : ∀ j, j < 1440 → M2 278 j < 256 := by
        intro j hj
        by_cases hz : j < 160 * M 277 2 ∨ 160 * M 277 2 + M 2 1 ≤ j
        · rw [q3 j hz]; exact g1.2.1 j hj
        · have := q2 (j - 160 * M 277 2) (by omega)
          rw [show 160 * M 277 2 + (j - 160 * M 277 2) = j by omega] at this
          rw [this]
          exact g1.2.1 _ (by omega)
      refine ⟨by rw [e1, r2e, g5], fun i => if i = M 0 3 then ab_of (M 3) C9 else As i, ?_⟩
      refine ⟨⟨by omega, hb8, fun i hi => ?_⟩, fun a ha => ?_, ?_, ?_, ?_, ?_, ?_, ?_⟩
      · rw [q1] at hi
        dsimp only
        by_cases e : i = M 0 3
        · rw [if_pos e]
          have ei : i = M 277 2 := by omega
          rw [ei, q5]
          have hb2 : sh_b (M 2 1) (160 * M 277 2) (M 3) (M2 278) := fun j hj => by rw [q2 j hj, ← g4' j hj]
          obtain ⟨C2, hC2, hA2, -⟩ := sh_ab hb2 (fun j hj => g4 j (by omega)) c1
          exact ⟨g3', C2, hC2, hA2⟩
        · rw [if_neg e, q6 i (by omega)]
          obtain ⟨a1, Ci, a2, a3⟩ := g1.2.2 i (by omega)
          obtain ⟨Cj, b1, b2⟩ := sh_mv (b := M 278) (b' := M2 278) (d := 160 * i) (d' := 160 * i) (n := M 279 i) (fun j hj => q3 _ (by omega)) (fun j hj => g1.2.1 _ (by omega)) a2
          exact ⟨a1, Cj, b1, b2.trans a3⟩
      · rw [f0, k3] at ha
        dsimp only
        by_cases e : a = M 0 3
        · rw [if_pos e, e]
          have hL1 : lw_A M1 (6 + 30 * M 0 3) (ab_of (M 3) C9) := ⟨hC.1, hC.2.1, hC.2.2.1, hC.2.2.2.1, hC.2.2.2.2⟩
          exact hL1.cg (ab_ok (fun k hk => g4 k (by omega)) (Nat.zero_le _) c1) (fun q a1 a2 => q7 q (by omega) (by omega) (by omega) (by omega))
        · rw [if_neg e]
          exact (g2 a (by omega)).cg (g1.v (by omega)) (fun q a1 a2 => (q7 q (by omega) (by omega) (by omega) (by omega)).trans (hq q (by omega) (by omega) (by omega) (by omega)))
      · rw [f2, e2, q4 1 (by decide) (by decide)]
        exact ⟨g3, g3'⟩
      · rw [f2, f3, e2, e3]
        refine ⟨g4, fun j hj => ?_⟩
        rw [q3 (1280 + j) (by omega)]
        exact g4' j hj
      · rw [f0, k3, q1, g5]
      · rw [f0, h0 5 (by decide), q4 5 (by decide) (by decide)]
        exact g6
      · rw [f0, h0 5 (by decide)]
        exact g7
      · rw [f0, h0 5 (by decide), k3, f276, e276, f280, e280]
        intro q hq2
        have := g8 q hq2
        exact ⟨this.1, by omega⟩
