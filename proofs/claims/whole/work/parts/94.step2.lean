/-! steps of the law: queries, path -/
theorem ls_field {M M1 M2 : xm_M} {As : Nat → ab_T} {i k : Int32} {r1 r2 : Int32} (hI : lw_I M As) (p1 : (fun (M : xm_M) => (fun r M1 => M1 = M ∧ ((¬ (0 ≤ i.toInt ∧ i.toInt < (M 0 3 : Nat)) ∧ r = nI 4294967295) ∨ ∃ a, i = nI a ∧ a < M 0 3 ∧ ((∃ j : Nat, j < 15 ∧ k.toInt = (j : Int) ∧ r = nI (fl_v M (6 + 30 * a) j)) ∨ (¬ (0 ≤ k.toInt ∧ k.toInt ≤ 14) ∧ r = nI 4294967295))))) M r1 M1) (p2 : (fun (M : xm_M) => (fun r M1 => md_Y md_al M M1 ∧ ((¬ (0 ≤ i.toInt ∧ i.toInt < (M 277 2 : Nat)) ∧ r = nI 4294967295) ∨ ∃ a, i = nI a ∧ a < M 277 2 ∧ ((∃ j : Nat, j < 15 ∧ k.toInt = (j : Int) ∧ r = nI (ab_f (As a) j)) ∨ (¬ (0 ≤ k.toInt ∧ k.toInt ≤ 14) ∧ r = nI 4294967295))))) M1 r2 M2) : r1 = r2 ∧ ∃ As2, lw_I M2 As2 := by
  have hk8 := hI.k8
  have g5 := hI.2.2.2.2.1
  obtain ⟨rfl, p1⟩ := p1
  obtain ⟨f2, p2⟩ := p2
  refine ⟨?_, As, hI.y f2⟩
  rcases p1 with ⟨c1, e1⟩ | ⟨a, rfl, ha, p1⟩
  · rcases p2 with ⟨-, e2⟩ | ⟨a, rfl, ha, -⟩
    · rw [e1, e2]
    · have t : (nI a).toInt = (a : Int) := nI_toInt (by omega)
      exact absurd ⟨by omega, by omega⟩ c1
  · have t : (nI a).toInt = (a : Int) := nI_toInt (by omega)
    rcases p2 with ⟨c2, e2⟩ | ⟨a', ha', k1, p2⟩
    · exact absurd ⟨by omega, by omega⟩ c2
    · have a1 := lw_inj (by omega) (by omega) ha'
      subst a1
      rcases p1 with ⟨j, hj, kj, e1⟩ | ⟨c1, e1⟩ <;> rcases p2 with ⟨j', hj', kj', e2⟩ | ⟨c2, e2⟩
      · have : j = j' := by omega
        subst this
        rw [e1, e2, lw_fl (hI.2.1 a ha) j hj]
      · exact absurd ⟨by omega, by omega⟩ c2
      · exact absurd ⟨by omega, by omega⟩ c1
      · rw [e1, e2]

theorem ls_within {M M1 M2 : xm_M} {As : Nat → ab_T} {i j : Int32} {b1 b2 : Nat} {r1 r2 : Int32} (hI : lw_I M As) (p1 : (fun (M : xm_M) => (fun r M1 => M1 = M ∧ ((¬ ((0 ≤ i.toInt ∧ i.toInt < (M 0 3 : Nat)) ∧ 0 ≤ j.toInt ∧ j.toInt < (M 0 3 : Nat)) ∧ r = nI 0) ∨ ∃ x y, i = nI x ∧ j = nI y ∧ x < M 0 3 ∧ y < M 0 3 ∧ ∃ t, r = nI t ∧ t < 2 ∧ (t = 1 ↔ nm_wi M (nm_at x b1) (nm_at y b2))))) M r1 M1) (p2 : (fun (M : xm_M) => (fun r M1 => md_Y md_al M M1 ∧ ((¬ ((0 ≤ i.toInt ∧ i.toInt < (M 277 2 : Nat)) ∧ 0 ≤ j.toInt ∧ j.toInt < (M 277 2 : Nat)) ∧ r = nI 0) ∨ ∃ x y, i = nI x ∧ j = nI y ∧ x < M 277 2 ∧ y < M 277 2 ∧ ∃ t, r = nI t ∧ t < 2 ∧ (t = 1 ↔ ab_nm (As y) b2 <+: ab_nm (As x) b1)))) M1 r2 M2) : r1 = r2 ∧ ∃ As2, lw_I M2 As2 := by
  have hk8 := hI.k8
  have g5 := hI.2.2.2.2.1
  obtain ⟨rfl, p1⟩ := p1
  obtain ⟨f2, p2⟩ := p2
  refine ⟨?_, As, hI.y f2⟩
  rcases p1 with ⟨c1, e1⟩ | ⟨x, y, rfl, rfl, hx, hy, t1, e1, t2, q1⟩
  · rcases p2 with ⟨-, e2⟩ | ⟨x, y, rfl, rfl, hx, hy, -⟩
    · rw [e1, e2]
    · have t : (nI x).toInt = (x : Int) := nI_toInt (by omega)
      have t' : (nI y).toInt = (y : Int) := nI_toInt (by omega)
      exact absurd ⟨⟨by omega, by omega⟩, by omega, by omega⟩ c1
  · have t : (nI x).toInt = (x : Int) := nI_toInt (by omega)
    have t' : (nI y).toInt = (y : Int) := nI_toInt (by omega)
    rcases p2 with ⟨c2, e2⟩ | ⟨x', y', hx', hy', k1, k2, t3, e2, t4, q2⟩
    · exact absurd ⟨⟨by omega, by omega⟩, by omega, by omega⟩ c2
    · have a1 := lw_inj (by omega) (by omega) hx'
      have a2 := lw_inj (by omega) (by omega) hy'
      subst a1 a2
      rw [nm_wi_pre (lw_nm (hI.2.1 x hx) b1) (lw_nm (hI.2.1 y hy) b2) (ab_nm_v (hI.1.v k1) b1) (ab_nm_v (hI.1.v k2) b2), ← q2] at q1
      rw [e1, e2]
      congr 1
      omega

theorem ls_check {M M1 M2 : xm_M} {As : Nat → ab_T} {i T u : Int32} {r1 r2 : Int32} (hI : lw_I M As) (p1 : (fun (M : xm_M) => (fun r M1 => M1 = M ∧ ((¬ ((0 ≤ i.toInt ∧ i.toInt < (M 0 3 : Nat)) ∧ M 0 5 ≠ 0 ∧ 0 ≤ u.toInt ∧ u.toInt ≤ 255) ∧ r = nI 4294967295) ∨ ∃ x a k, i = nI x ∧ x < M 0 3 ∧ M 0 5 ≠ 0 ∧ u = nI a ∧ a < 256 ∧ r = nI k ∧ ck_run M T.toInt a (M 0 5) 0 (6 + 30 * x) (M 0 5 : Nat) k))) M r1 M1) (p2 : (fun (M : xm_M) => (fun r M1 => md_Y md_bl M M1 ∧ ((¬ ((0 ≤ i.toInt ∧ i.toInt < (M 277 2 : Nat)) ∧ M 277 5 ≠ 0 ∧ 0 ≤ u.toInt ∧ u.toInt ≤ 255) ∧ r = nI 4294967295) ∨ ∃ x a k, i = nI x ∧ x < M 277 2 ∧ M 277 5 ≠ 0 ∧ u = nI a ∧ a < 256 ∧ r = nI k ∧ k < 256 ∧ ab_run As (M 280) (M 277 5) T.toInt a (M 277 5) 0 (As x).1.2.2.2.2.1 (As x).1.2.2.2.2.2 (As x).1.2.2.2.1 (M 277 5 : Nat) k))) M1 r2 M2) : r1 = r2 ∧ ∃ As2, lw_I M2 As2 := by
  have hk8 := hI.k8
  have g5 := hI.2.2.2.2.1
  have g6 := hI.2.2.2.2.2.1
  obtain ⟨rfl, p1⟩ := p1
  obtain ⟨f2, p2⟩ := p2
  refine ⟨?_, As, hI.b f2⟩
  rcases p1 with ⟨c1, e1⟩ | ⟨x, a, k, rfl, hx, hl, rfl, ha, e1, q1⟩
  · rcases p2 with ⟨-, e2⟩ | ⟨x, a, k, rfl, hx, hl, rfl, ha, -, -, -⟩
    · rw [e1, e2]
    · have t : (nI x).toInt = (x : Int) := nI_toInt (by omega)
      have t' : (nI a).toInt = (a : Int) := nI_toInt (by omega)
      exact absurd ⟨⟨by omega, by omega⟩, by omega, by omega, by omega⟩ c1
  · have t : (nI x).toInt = (x : Int) := nI_toInt (by omega)
    have t' : (nI a).toInt = (a : Int) := nI_toInt (by omega)
    rcases p2 with ⟨c2, e2⟩ | ⟨x', a', k', hx', k1, k2, hu, k3, e2, k4, q2⟩
    · exact absurd ⟨⟨by omega, by omega⟩, by omega, by omega, by omega⟩ c2
    · have a1 := lw_inj (by omega) (by omega) hx'
      have a2 := lw_inj (by omega) (by omega) hu
      subst a1 a2
      have hA : ∀ i, i < M1 0 3 → ab_v (As i) ∧ lw_A M1 (6 + 30 * i) (As i) := fun i hi => ⟨hI.1.v (by omega), hI.2.1 i hi⟩
      obtain ⟨hVx, hLx⟩ := hA x hx
      have q3 := ck_tie hA hI.2.2.2.2.2.2.2 (by omega) hLx.1.2.2.2.2.1 hLx.1.2.2.2.2.2 hLx.1.2.2.2.1 hVx.1.2.2.2.1 q1
      rw [← g6] at q2
      rw [e1, e2, ab_run_fn q3 q2]

theorem ls_link {M M1 M2 : xm_M} {As : Nat → ab_T} {i : Int32} {r1 r2 : Int32} (hI : lw_I M As) (p1 : (fun (M : xm_M) => (fun r M1 => (r = nI 0 ∧ M1 = M ∧ ¬ ((0 ≤ i.toInt ∧ i.toInt < (M 0 3 : Nat)) ∧ M 0 5 ≠ 6)) ∨ (r = nI 1 ∧ ∃ j, i = nI j ∧ j < M 0 3 ∧ M 0 5 < 6 ∧ M1 = xm_set (xm_set M 276 (M 0 5) j) 0 5 (M 0 5 + 1)))) M r1 M1) (p2 : (fun (M : xm_M) => (fun r M1 => (r = nI 0 ∧ M1 = M ∧ ¬ ((0 ≤ i.toInt ∧ i.toInt < (M 277 2 : Nat)) ∧ M 277 5 ≠ 6)) ∨ (r = nI 1 ∧ ∃ j, i = nI j ∧ j < M 277 2 ∧ M 277 5 < 6 ∧ M1 = xm_set (xm_set M 280 (M 277 5) j) 277 5 (M 277 5 + 1)))) M1 r2 M2) : r1 = r2 ∧ ∃ As2, lw_I M2 As2 := by
  have hk8 := hI.k8
  obtain ⟨g1, g2, ⟨g3, g3'⟩, ⟨g4, g4'⟩, g5, g6, g7, g8⟩ := id hI
  rcases p1 with ⟨e1, rfl, c1⟩ | ⟨e1, j, rfl, hj, hl, rfl⟩
  · rcases p2 with ⟨e2, rfl, -⟩ | ⟨e2, j, rfl, hj, hl, -⟩
    · exact ⟨by rw [e1, e2], As, hI⟩
    · have t : (nI j).toInt = (j : Int) := nI_toInt (by omega)
      exact absurd ⟨⟨by omega, by omega⟩, by omega⟩ c1
  · have t : (nI j).toInt = (j : Int) := nI_toInt (by omega)
    have e77 : xm_set (xm_set M 276 (M 0 5) j) 0 5 (M 0 5 + 1) 277 = M 277 := (xm_oth (by decide)).trans (xm_oth (by decide))
    rw [e77] at p2
    rcases p2 with ⟨e2, rfl, c2⟩ | ⟨e2, j', hj', k1, k2, rfl⟩
    · exact absurd ⟨⟨by omega, by omega⟩, by omega⟩ c2
    · have a1 := lw_inj (by omega) (by omega) hj'
      subst a1
      have f05 : ∀ N : xm_M, xm_set (xm_set (xm_set N 0 5 (M 0 5 + 1)) 280 (M 277 5) j) 277 5 (M 277 5 + 1) 0 5 = M 0 5 + 1 := fun N => (xm_np (by decide)).trans ((xm_np (by decide)).trans xm_eq)
      have f03 : xm_set (xm_set (xm_set (xm_set M 276 (M 0 5) j) 0 5 (M 0 5 + 1)) 280 (M 277 5) j) 277 5 (M 277 5 + 1) 0 3 = M 0 3 := (xm_np (by decide)).trans ((xm_np (by decide)).trans ((xm_nk (by decide)).trans (xm_np (by decide))))
      have f77 : ∀ i, i ≠ 5 → xm_set (xm_set (xm_set (xm_set M 276 (M 0 5) j) 0 5 (M 0 5 + 1)) 280 (M 277 5) j) 277 5 (M 277 5 + 1) 277 i = M 277 i := fun i hi => (xm_nk hi).trans ((xm_np (by decide)).trans ((xm_np (by decide)).trans (xm_np (by decide))))
      refine ⟨by rw [e1, e2], As, hI.path (fun q a b c d => (xm_oth c).trans ((xm_oth d).trans ((xm_oth a).trans (xm_oth b)))) (f77 1 (by decide)) (by rw [f77 2 (by decide)]; omega) (by rw [f03, f77 2 (by decide)]; exact g5) (by rw [f05, xm_eq]; omega) (by rw [f05]; omega) ?_⟩
      intro q hq
      rw [f05] at hq
      rw [f03]
      have a76 : xm_set (xm_set (xm_set (xm_set M 276 (M 0 5) j) 0 5 (M 0 5 + 1)) 280 (M 277 5) j) 277 5 (M 277 5 + 1) 276 q = xm_set M 276 (M 0 5) j 276 q := (xm_np (by decide)).trans ((xm_np (by decide)).trans (xm_np (by decide)))
      have a80 : xm_set (xm_set (xm_set (xm_set M 276 (M 0 5) j) 0 5 (M 0 5 + 1)) 280 (M 277 5) j) 277 5 (M 277 5 + 1) 280 q = if q = M 277 5 then j else M 280 q := by
        rw [xm_np (by decide), xm_row]
        dsimp only
        by_cases e : q = M 277 5
        · rw [if_pos e, if_pos e]
        · rw [if_neg e, if_neg e]
          exact (xm_np (by decide)).trans (xm_np (by decide))
      rw [a76, a80]
      by_cases e : q = M 0 5
      · rw [e, xm_eq, if_pos (by omega)]
        exact ⟨rfl, hj⟩
      · rw [xm_nk e, if_neg (by omega)]
        exact g8 q (by omega)

theorem ls_unlink {M M1 M2 : xm_M} {As : Nat → ab_T}  {r1 r2 : Int32} (hI : lw_I M As) (p1 : (fun (M : xm_M) => (fun r M1 => (r = nI 0 ∧ M1 = M ∧ M 0 5 = 0) ∨ (r = nI 1 ∧ M 0 5 ≠ 0 ∧ M1 = xm_set M 0 5 (M 0 5 - 1)))) M r1 M1) (p2 : (fun (M : xm_M) => (fun r M1 => (r = nI 0 ∧ M1 = M ∧ M 277 5 = 0) ∨ (r = nI 1 ∧ M 277 5 ≠ 0 ∧ M1 = xm_set M 277 5 (M 277 5 - 1)))) M1 r2 M2) : r1 = r2 ∧ ∃ As2, lw_I M2 As2 := by
  have hk8 := hI.k8
  obtain ⟨g1, g2, ⟨g3, g3'⟩, ⟨g4, g4'⟩, g5, g6, g7, g8⟩ := id hI
  rcases p1 with ⟨e1, rfl, c1⟩ | ⟨e1, c1, rfl⟩
  · rcases p2 with ⟨e2, rfl, -⟩ | ⟨e2, c2, -⟩
    · exact ⟨by rw [e1, e2], As, hI⟩
    · omega
  · have e77 : xm_set M 0 5 (M 0 5 - 1) 277 = M 277 := xm_oth (by decide)
    rw [e77] at p2
    rcases p2 with ⟨e2, rfl, c2⟩ | ⟨e2, c2, rfl⟩
    · omega
    · have f05 : xm_set (xm_set M 0 5 (M 0 5 - 1)) 277 5 (M 277 5 - 1) 0 5 = M 0 5 - 1 := (xm_np (by decide)).trans xm_eq
      have f03 : xm_set (xm_set M 0 5 (M 0 5 - 1)) 277 5 (M 277 5 - 1) 0 3 = M 0 3 := (xm_np (by decide)).trans (xm_nk (by decide))
      have f77 : ∀ i, i ≠ 5 → xm_set (xm_set M 0 5 (M 0 5 - 1)) 277 5 (M 277 5 - 1) 277 i = M 277 i := fun i hi => (xm_nk hi).trans (xm_np (by decide))
      have f76 : xm_set (xm_set M 0 5 (M 0 5 - 1)) 277 5 (M 277 5 - 1) 276 = M 276 := (xm_oth (by decide)).trans (xm_oth (by decide))
      have f80 : xm_set (xm_set M 0 5 (M 0 5 - 1)) 277 5 (M 277 5 - 1) 280 = M 280 := (xm_oth (by decide)).trans (xm_oth (by decide))
      refine ⟨by rw [e1, e2], As, hI.path (fun q a b c d => (xm_oth c).trans (xm_oth a)) (f77 1 (by decide)) (by rw [f77 2 (by decide)]; omega) (by rw [f03, f77 2 (by decide)]; exact g5) (by rw [f05, xm_eq, g6]) (by rw [f05]; omega) ?_⟩
      intro q hq
      rw [f05] at hq
      rw [f03, f76, f80]
      exact g8 q (by omega)

theorem ls_reset {M : xm_M} {As : Nat → ab_T} (hI : lw_I M As) : lw_I (xm_set (xm_set (xm_set (xm_set M 0 3 0) 0 5 0) 277 2 0) 277 5 0) As := by
  obtain ⟨g1, g2, ⟨g3, g3'⟩, ⟨g4, g4'⟩, g5, g6, g7, g8⟩ := id hI
  have f05 : xm_set (xm_set (xm_set (xm_set M 0 3 0) 0 5 0) 277 2 0) 277 5 0 0 5 = 0 := (xm_np (by decide)).trans ((xm_np (by decide)).trans xm_eq)
  have f03 : xm_set (xm_set (xm_set (xm_set M 0 3 0) 0 5 0) 277 2 0) 277 5 0 0 3 = 0 := (xm_np (by decide)).trans ((xm_np (by decide)).trans ((xm_nk (by decide)).trans xm_eq))
  have f2 : xm_set (xm_set (xm_set (xm_set M 0 3 0) 0 5 0) 277 2 0) 277 5 0 277 2 = 0 := (xm_nk (by decide)).trans xm_eq
  have f1 : xm_set (xm_set (xm_set (xm_set M 0 3 0) 0 5 0) 277 2 0) 277 5 0 277 1 = M 277 1 := (xm_nk (by decide)).trans ((xm_nk (by decide)).trans ((xm_np (by decide)).trans (xm_np (by decide))))
  refine hI.path (fun q a b c d => (xm_oth c).trans ((xm_oth c).trans ((xm_oth a).trans (xm_oth a)))) f1 (by rw [f2]; omega) (by rw [f03, f2]) (by rw [f05, xm_eq]) (by rw [f05]; omega) ?_
  intro q hq
  rw [f05] at hq
  exact absurd hq (Nat.not_lt_zero _)
