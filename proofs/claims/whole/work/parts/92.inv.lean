/-! the invariant of the law's loop, and what each call does to it -/
def lw_I (M : xm_M) (As : Nat → ab_T) : Prop := md_G M As ∧ (∀ a, a < M 0 3 → lw_A M (6 + 30 * a) (As a)) ∧ (M 2 1 = M 277 1 ∧ M 2 1 ≤ 160) ∧ ((∀ j, j < 160 → M 3 j < 256) ∧ ∀ j, j < M 2 1 → M 3 j = M 278 (1280 + j)) ∧ M 0 3 = M 277 2 ∧ M 0 5 = M 277 5 ∧ M 0 5 ≤ 6 ∧ ∀ q, q < M 0 5 → M 276 q = M 280 q ∧ M 276 q < M 0 3
theorem lw_inj {m m' : Nat} (h : m < 2147483648) (h' : m' < 2147483648) (e : nI m = nI m') : m = m' := by
  have e1 : (nI m).toInt = (m : Int) := nI_toInt h
  have e2 : (nI m').toInt = (m' : Int) := nI_toInt h'
  rw [e, e2] at e1
  omega
theorem lw_I.k8 {M : xm_M} {As : Nat → ab_T} (h : lw_I M As) : M 0 3 ≤ 8 := by
  have h1 := h.1.1
  have h2 := h.2.2.2.2.1
  omega
theorem lw_I.b {M M2 : xm_M} {As : Nat → ab_T} (h : lw_I M As) (g : md_Y md_bl M M2) : lw_I M2 As := by
  have hk := h.k8
  obtain ⟨h1, h2, h3, h4, h5, h6, h7, h8⟩ := h
  have e0 := g.1 0 (by decide) (by decide)
  have e2 := g.1 2 (by decide) (by decide)
  have e3 := g.1 3 (by decide) (by decide)
  have e276 := g.1 276 (by decide) (by decide)
  have e278 := g.1 278 (by decide) (by decide)
  have e280 := g.1 280 (by decide) (by decide)
  refine ⟨h1.b g, fun a ha => ?_, ?_, ?_, ?_, ?_, ?_, ?_⟩
  · rw [e0] at ha
    exact (h2 a ha).cg (h1.v (by omega)) (fun q q1 q2 => g.1 q (by omega) (by omega))
  · rw [e2, g.2 1 (by decide)]; exact h3
  · rw [e2, e3, e278]; exact h4
  · rw [e0, g.2 2 (by decide)]; exact h5
  · rw [e0, g.2 5 (by decide)]; exact h6
  · rw [e0]; exact h7
  · rw [e0, e276, e280]; exact h8
theorem lw_I.y {M M2 : xm_M} {As : Nat → ab_T} (h : lw_I M As) (g : md_Y md_al M M2) : lw_I M2 As := h.b (g.up (by decide))
theorem md_G.mv {M M2 : xm_M} {As : Nat → ab_T} (h : md_G M As) (h2 : M2 277 2 ≤ M 277 2) (h79 : ∀ i, i < M2 277 2 → M2 279 i = M 279 i) (hb : ∀ j, j < 160 * M2 277 2 → M2 278 j = M 278 j) (h8 : ∀ j, j < 1440 → M2 278 j < 256) : ∀ i, i < M2 277 2 → M2 279 i ≤ 160 ∧ ∃ C, ps_cert (M2 278) (160 * i) (160 * i + M2 279 i) = some C ∧ ab_of (M2 278) C = As i := by
  intro i hi
  obtain ⟨k1, k2, k3⟩ := h
  obtain ⟨g1, C, g2, g3⟩ := k3 i (by omega)
  rw [h79 i hi]
  obtain ⟨C', e1, e2⟩ := sh_mv (b := M 278) (b' := M2 278) (d := 160 * i) (d' := 160 * i) (n := M 279 i) (fun j hj => hb _ (by omega)) (fun j hj => k2 _ (by omega)) g2
  exact ⟨g1, C', e1, e2.trans g3⟩
/-- the buffer changes -/
theorem lw_I.buf {M M2 : xm_M} {As : Nat → ab_T} (h : lw_I M As) (hq : ∀ q, q ≠ 2 → q ≠ 3 → q ≠ 277 → q ≠ 278 → M2 q = M q) (hj : ∀ j, j ≠ 1 → M2 277 j = M 277 j) (hs : M2 2 1 = M2 277 1 ∧ M2 2 1 ≤ 160) (hb : ∀ j, j < 1280 → M2 278 j = M 278 j) (h8 : ∀ j, 1280 ≤ j → j < 1440 → M2 278 j < 256) (h3 : ∀ j, j < 160 → M2 3 j < 256) (he : ∀ j, j < M2 2 1 → M2 3 j = M2 278 (1280 + j)) : lw_I M2 As := by
  have hk := h.k8
  obtain ⟨g1, g2, g3, g4, g5, g6, g7, g8⟩ := h
  have e0 := hq 0 (by decide) (by decide) (by decide) (by decide)
  have e276 := hq 276 (by decide) (by decide) (by decide) (by decide)
  have e279 := hq 279 (by decide) (by decide) (by decide) (by decide)
  have e280 := hq 280 (by decide) (by decide) (by decide) (by decide)
  have e2 := hj 2 (by decide)
  have hb8 : ∀ j, j < 1440 → M2 278 j < 256 := by
    intro j hj1
    by_cases hz : j < 1280
    · rw [hb j hz]; exact g1.2.1 j hj1
    · exact h8 j (by omega) hj1
  have hk1 := g1.1
  refine ⟨⟨by omega, hb8, g1.mv (by omega) (fun i _ => by rw [e279]) (fun j hj2 => hb j (by omega)) hb8⟩, fun a ha => ?_, hs, ⟨h3, he⟩, ?_, ?_, ?_, ?_⟩
  · rw [e0] at ha
    exact (g2 a ha).cg (g1.v (by omega)) (fun q q1 q2 => hq q (by omega) (by omega) (by omega) (by omega))
  · rw [e0, e2]; exact g5
  · rw [e0, hj 5 (by decide)]; exact g6
  · rw [e0]; exact g7
  · rw [e0, e276, e280]; exact g8
/-- the path changes, or all is left -/
theorem lw_I.path {M M2 : xm_M} {As : Nat → ab_T} (h : lw_I M As) (hq : ∀ q, q ≠ 0 → q ≠ 276 → q ≠ 277 → q ≠ 280 → M2 q = M q) (h1 : M2 277 1 = M 277 1) (h2 : M2 277 2 ≤ M 277 2) (h5 : M2 0 3 = M2 277 2) (h6 : M2 0 5 = M2 277 5) (h7 : M2 0 5 ≤ 6) (h8 : ∀ q, q < M2 0 5 → M2 276 q = M2 280 q ∧ M2 276 q < M2 0 3) : lw_I M2 As := by
  have hk := h.k8
  obtain ⟨g1, g2, g3, g4, g5, g6, g7, g8⟩ := h
  have e2 := hq 2 (by decide) (by decide) (by decide) (by decide)
  have e3 := hq 3 (by decide) (by decide) (by decide) (by decide)
  have e278 := hq 278 (by decide) (by decide) (by decide) (by decide)
  have e279 := hq 279 (by decide) (by decide) (by decide) (by decide)
  have hk1 := g1.1
  refine ⟨⟨by omega, by rw [e278]; exact g1.2.1, g1.mv h2 (fun i _ => by rw [e279]) (fun j _ => by rw [e278]) (by rw [e278]; exact g1.2.1)⟩, fun a ha => ?_, ?_, ?_, h5, h6, h7, h8⟩
  · exact (g2 a (by omega)).cg (g1.v (by omega)) (fun q q1 q2 => hq q (by omega) (by omega) (by omega) (by omega))
  · rw [e2, h1]; exact g3
  · rw [e2, e3, e278]; exact g4
/-- the class's cells that nobody reads change -/
theorem lw_I.scr {M M1 : xm_M} {As : Nat → ab_T} (h : lw_I M As) (hq : ∀ q, q ≠ 0 → q ≠ 1 → q ≠ 4 → (q < 6 + 30 * M 0 3 ∨ 6 + 30 * M 0 3 + 30 ≤ q) → M1 q = M q) (h0 : ∀ j, j ≠ 3 → M1 0 j = M 0 j) (h3 : M1 0 3 = M 0 3) : lw_I M1 As := by
  have hk := h.k8
  obtain ⟨g1, g2, g3, g4, g5, g6, g7, g8⟩ := h
  have e0 : M1 0 = M 0 := by
    funext j
    by_cases e : j = 3
    · rw [e, h3]
    · exact h0 j e
  have e2 := hq 2 (by decide) (by decide) (by decide) (by omega)
  have e3 := hq 3 (by decide) (by decide) (by decide) (by omega)
  have e276 := hq 276 (by decide) (by decide) (by decide) (by omega)
  have e277 := hq 277 (by decide) (by decide) (by decide) (by omega)
  have e278 := hq 278 (by decide) (by decide) (by decide) (by omega)
  have e279 := hq 279 (by decide) (by decide) (by decide) (by omega)
  have e280 := hq 280 (by decide) (by decide) (by decide) (by omega)
  refine ⟨?_, fun a ha => ?_, ?_, ?_, ?_, ?_, ?_, ?_⟩
  · unfold md_G
    rw [e277, e278, e279]
    exact g1
  · rw [e0] at ha
    exact (g2 a ha).cg (g1.v (by omega)) (fun q q1 q2 => hq q (by omega) (by omega) (by omega) (by omega))
  · rw [e2, e277]; exact g3
  · rw [e2, e3, e278]; exact g4
  · rw [e0, e277]; exact g5
  · rw [e0, e277]; exact g6
  · rw [e0]; exact g7
  · rw [e0, e276, e280]; exact g8
theorem lw_sh {M : xm_M} {As : Nat → ab_T} (h : lw_I M As) : sh_b (M 2 1) 1280 (M 3) (M 278) := fun j hj => (h.2.2.2.1.2 j hj).symm
/-- what recode writes -/
def lw_Cs (As : Nat → ab_T) (a : Nat) : ps_C := ((((As a).1, (As a).2.1), 0, 0), (As a).2.2.1)
theorem lw_rc {M : xm_M} {As : Nat → ab_T} (h : md_G M As) {a : Nat} (ha : a < M 277 2) : en_cert (lw_Cs As a) = ps_sl (M 278) (160 * a) (160 * a + M 279 a) := by
  obtain ⟨k1, k2, k3⟩ := h
  obtain ⟨g1, C, g2, g3⟩ := k3 a ha
  have e := ec_cert (fun k hk => k2 k (by omega)) (by omega) g2
  rw [e.1]
  unfold en_cert lw_Cs
  rw [← g3]
  rfl
theorem lw_rcl {M : xm_M} {As : Nat → ab_T} (h : md_G M As) {a : Nat} (ha : a < M 277 2) : (en_cert (lw_Cs As a)).length = M 279 a ∧ M 279 a ≤ 160 := by
  rw [lw_rc h ha]
  unfold ps_sl
  rw [List.length_map, List.length_range]
  have := (h.2.2 a ha).1
  omega
theorem lw_rcg {M : xm_M} {As : Nat → ab_T} (h : md_G M As) {a : Nat} (ha : a < M 277 2) {j : Nat} (hj : j < M 279 a) : (en_cert (lw_Cs As a)).getD j 0 = M 278 (160 * a + j) := by
  rw [lw_rc h ha]
  unfold ps_sl
  rw [show 160 * a + M 279 a - 160 * a = M 279 a by omega]
  simp [hj]
