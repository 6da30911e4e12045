/-! the law: rows -/
theorem lw_I.m {M M1 : xm_M} {As : Nat → ab_T} (h : lw_I M As) (hC : ∀ q, 277 ≤ q → M1 q = M q) : md_G M1 As ∧ M1 277 1 ≤ 160 ∧ M1 277 5 ≤ 6 ∧ ∀ q, q < M1 277 5 → M1 280 q < M1 277 2 := by
  obtain ⟨g1, g2, ⟨g3, g3'⟩, ⟨g4, g4'⟩, g5, g6, g7, g8⟩ := h
  unfold md_G
  rw [hC 277 (by decide), hC 278 (by decide), hC 279 (by decide), hC 280 (by decide)]
  refine ⟨g1, by omega, by omega, fun q hq => ?_⟩
  have := g8 q (by omega)
  omega
theorem lw_I.v {M : xm_M} {As : Nat → ab_T} (h : lw_I M As) : ∀ a, a < M 0 3 → ab_v (As a) := fun a ha => h.1.v (by have := h.2.2.2.2.1; omega)
theorem lw_I.K {M : xm_M} {As : Nat → ab_T} (h : lw_I M As) : ∀ a, a < M 0 3 → ct_K M (6 + 30 * a) := fun a ha => lw_K (h.v a ha) (h.2.1 a ha)
theorem lw_I.n {M : xm_M} {As : Nat → ab_T} (h : lw_I M As) : ∀ a b, a < M 0 3 → nm_ok M (nm_at a b) := fun a b ha => nm_ok_of (lw_nm (h.2.1 a ha) b) (ab_nm_v (h.v a ha) b)
theorem lw_I.r {M : xm_M} {As : Nat → ab_T} (h : lw_I M As) : ∀ a, a < M 0 3 → ct_H M (6 + 30 * a) (lw_Cs As a).1.1.1 ∧ ct_E M (6 + 30 * a) (lw_Cs As a).1.1.2 ∧ M (6 + 30 * a) 10 = (lw_Cs As a).1.1.2.1.length ∧ M (6 + 30 * a) 7 = (lw_Cs As a).2 ∧ cv_H (lw_Cs As a).1.1.1 ∧ cv_E (lw_Cs As a).1.1.2 ∧ (lw_Cs As a).2 < 2147483648 ∧ (en_cert (lw_Cs As a)).length ≤ 160 := by
  intro a ha
  have hv := h.v a ha
  have hA := h.2.1 a ha
  have hl := lw_rcl h.1 (show a < M 277 2 by have := h.2.2.2.2.1; omega)
  exact ⟨hA.1, hA.2.1, hA.2.2.1, hA.2.2.2.2, hv.1, hv.2.1, hv.2.2.1, by omega⟩

theorem lc_feed {M M1 : xm_M} {As : Nat → ab_T} {w n : Int32} {r1 : Int32} (hI : lw_I M As) (p1 : (fun (M : xm_M) => (fun r M1 => (r = nI 0 ∧ M1 = M ∧ ¬ (1 ≤ n.toInt ∧ n.toInt ≤ 4 ∧ n.toInt + (M 2 1 : Nat) ≤ 160)) ∨ (r = nI 1 ∧ ∃ m, n = nI m ∧ 1 ≤ m ∧ m ≤ 4 ∧ M 2 1 + m ≤ 160 ∧ M1 2 1 = M 2 1 + m ∧ (∀ j, j < m → M1 3 (M 2 1 + j) = fd_b w (m - 1 - j)) ∧ (∀ j, (j < M 2 1 ∨ M 2 1 + m ≤ j) → M1 3 j = M 3 j) ∧ ∀ q, q ≠ 2 → q ≠ 3 → M1 q = M q))) M r1 M1) : ∀ q, 277 ≤ q → M1 q = M q := by
  intro q hq
  have hk8 := hI.k8
  rcases p1 with ⟨-, rfl, -⟩ | ⟨-, m, -, -, -, -, -, -, -, k4⟩
  · rfl
  · exact k4 q (by omega) (by omega)

theorem lc_set {M M1 : xm_M} {As : Nat → ab_T} {k b : Int32} {r1 : Int32} (hI : lw_I M As) (p1 : (fun (M : xm_M) => (fun r M1 => (r = nI 0 ∧ M1 = M ∧ ¬ ((0 ≤ k.toInt ∧ k.toInt < (M 2 1 : Nat)) ∧ 0 ≤ b.toInt ∧ b.toInt ≤ 255)) ∨ (r = nI 1 ∧ ∃ j x, k = nI j ∧ b = nI x ∧ j < M 2 1 ∧ x < 256 ∧ M1 = xm_set M 3 j x))) M r1 M1) : ∀ q, 277 ≤ q → M1 q = M q := by
  intro q hq
  have hk8 := hI.k8
  rcases p1 with ⟨-, rfl, -⟩ | ⟨-, j, x, -, -, -, -, rfl⟩
  · rfl
  · exact xm_oth (by omega)

theorem lc_trim {M M1 : xm_M} {As : Nat → ab_T} {n : Int32} {r1 : Int32} (hI : lw_I M As) (p1 : (fun (M : xm_M) => (fun r M1 => (r = nI 0 ∧ M1 = M ∧ ¬ (0 ≤ n.toInt ∧ n.toInt ≤ (M 2 1 : Nat))) ∨ (r = nI 1 ∧ ∃ j, n = nI j ∧ j ≤ M 2 1 ∧ M1 = xm_set M 2 1 j))) M r1 M1) : ∀ q, 277 ≤ q → M1 q = M q := by
  intro q hq
  have hk8 := hI.k8
  rcases p1 with ⟨-, rfl, -⟩ | ⟨-, j, -, -, rfl⟩
  · rfl
  · exact xm_oth (by omega)

theorem lc_accept {M M1 : xm_M} {As : Nat → ab_T}  {r1 : Int32} (hI : lw_I M As) (p1 : (fun (M : xm_M) => (fun r M1 => (∀ q, q ≠ 0 → q ≠ 1 → q ≠ 4 → (q < (6 + 30 * M 0 3) ∨ (6 + 30 * M 0 3) + 30 ≤ q) → M1 q = M q) ∧ (∀ j, j ≠ 3 → M1 0 j = M 0 j) ∧ ((r = nI 4294967295 ∧ M1 0 3 = M 0 3 ∧ ps_cert (M 3) 0 (M 2 1) = none) ∨ (∃ C9, ps_cert (M 3) 0 (M 2 1) = some C9 ∧ ((r = nI 4294967294 ∧ M 0 3 = 8 ∧ M1 0 3 = 8) ∨ (M 0 3 < 8 ∧ r = nI (M 0 3) ∧ M1 0 3 = M 0 3 + 1 ∧ ct_C (M 3) M1 (6 + 30 * M 0 3) C9)))))) M r1 M1) : ∀ q, 277 ≤ q → M1 q = M q := by
  intro q hq
  have hk8 := hI.k8
  exact p1.1 q (by omega) (by omega) (by omega) (by omega)

theorem lc_link {M M1 : xm_M} {As : Nat → ab_T} {i : Int32} {r1 : Int32} (hI : lw_I M As) (p1 : (fun (M : xm_M) => (fun r M1 => (r = nI 0 ∧ M1 = M ∧ ¬ ((0 ≤ i.toInt ∧ i.toInt < (M 0 3 : Nat)) ∧ M 0 5 ≠ 6)) ∨ (r = nI 1 ∧ ∃ j, i = nI j ∧ j < M 0 3 ∧ M 0 5 < 6 ∧ M1 = xm_set (xm_set M 276 (M 0 5) j) 0 5 (M 0 5 + 1)))) M r1 M1) : ∀ q, 277 ≤ q → M1 q = M q := by
  intro q hq
  have hk8 := hI.k8
  rcases p1 with ⟨-, rfl, -⟩ | ⟨-, j, -, -, -, rfl⟩
  · rfl
  · rw [xm_oth (by omega), xm_oth (by omega)]

theorem lc_unlink {M M1 : xm_M} {As : Nat → ab_T}  {r1 : Int32} (hI : lw_I M As) (p1 : (fun (M : xm_M) => (fun r M1 => (r = nI 0 ∧ M1 = M ∧ M 0 5 = 0) ∨ (r = nI 1 ∧ M 0 5 ≠ 0 ∧ M1 = xm_set M 0 5 (M 0 5 - 1)))) M r1 M1) : ∀ q, 277 ≤ q → M1 q = M q := by
  intro q hq
  have hk8 := hI.k8
  rcases p1 with ⟨-, rfl, -⟩ | ⟨-, -, rfl⟩
  · rfl
  · rw [xm_oth (by omega)]

theorem lc_recode {M M1 : xm_M} {As : Nat → ab_T} {i : Int32} {r1 : Int32} (hI : lw_I M As) (p1 : (fun (M : xm_M) => (fun r M1 => (r = nI 4294967295 ∧ M1 = M ∧ ¬ (0 ≤ i.toInt ∧ i.toInt < (M 0 3 : Nat))) ∨ ∃ a, i = nI a ∧ a < M 0 3 ∧ M1 = wr_m (xm_set M 2 1 0) (en_cert (lw_Cs As a)) ∧ r = nI (en_cert (lw_Cs As a)).length)) M r1 M1) : ∀ q, 277 ≤ q → M1 q = M q := by
  intro q hq
  have hk8 := hI.k8
  rcases p1 with ⟨-, rfl, -⟩ | ⟨a, -, -, rfl, -⟩
  · rfl
  · rw [wr_o (by omega) (by omega), xm_oth (by omega)]

theorem lc_length {M M1 : xm_M} {As : Nat → ab_T}  {r1 : Int32} (hI : lw_I M As) (p1 : (fun (M : xm_M) => (fun r M1 => M1 = M ∧ r = nI (M 2 1))) M r1 M1) : ∀ q, 277 ≤ q → M1 q = M q := by
  intro q hq
  have hk8 := hI.k8
  rw [p1.1]

theorem lc_count {M M1 : xm_M} {As : Nat → ab_T}  {r1 : Int32} (hI : lw_I M As) (p1 : (fun (M : xm_M) => (fun r M1 => M1 = M ∧ r = nI (M 0 3))) M r1 M1) : ∀ q, 277 ≤ q → M1 q = M q := by
  intro q hq
  have hk8 := hI.k8
  rw [p1.1]

theorem lc_links {M M1 : xm_M} {As : Nat → ab_T}  {r1 : Int32} (hI : lw_I M As) (p1 : (fun (M : xm_M) => (fun r M1 => M1 = M ∧ r = nI (M 0 5))) M r1 M1) : ∀ q, 277 ≤ q → M1 q = M q := by
  intro q hq
  have hk8 := hI.k8
  rw [p1.1]

theorem lc_byteAt {M M1 : xm_M} {As : Nat → ab_T} {k : Int32} {r1 : Int32} (hI : lw_I M As) (p1 : (fun (M : xm_M) => (fun r M1 => M1 = M ∧ ((¬ (0 ≤ k.toInt ∧ k.toInt < (M 2 1 : Nat)) ∧ r = nI 4294967295) ∨ ∃ j, k = nI j ∧ j < M 2 1 ∧ r = nI (M 3 j)))) M r1 M1) : ∀ q, 277 ≤ q → M1 q = M q := by
  intro q hq
  have hk8 := hI.k8
  rw [p1.1]

theorem lc_hash {M M1 : xm_M} {As : Nat → ab_T} {f t : Int32} {r1 : Int32} (hI : lw_I M As) (p1 : (fun (M : xm_M) => (fun r M1 => M1 = M ∧ ((¬ (0 ≤ f.toInt ∧ f.toInt ≤ t.toInt ∧ t.toInt ≤ (M 2 1 : Nat)) ∧ r = nI 4294967295) ∨ ∃ i j, f = nI i ∧ t = nI j ∧ i ≤ j ∧ j ≤ M 2 1 ∧ r = nI (ps_hash (M 3) i (j - i))))) M r1 M1) : ∀ q, 277 ≤ q → M1 q = M q := by
  intro q hq
  have hk8 := hI.k8
  rw [p1.1]

theorem lc_field {M M1 : xm_M} {As : Nat → ab_T} {i k : Int32} {r1 : Int32} (hI : lw_I M As) (p1 : (fun (M : xm_M) => (fun r M1 => M1 = M ∧ ((¬ (0 ≤ i.toInt ∧ i.toInt < (M 0 3 : Nat)) ∧ r = nI 4294967295) ∨ ∃ a, i = nI a ∧ a < M 0 3 ∧ ((∃ j : Nat, j < 15 ∧ k.toInt = (j : Int) ∧ r = nI (fl_v M (6 + 30 * a) j)) ∨ (¬ (0 ≤ k.toInt ∧ k.toInt ≤ 14) ∧ r = nI 4294967295))))) M r1 M1) : ∀ q, 277 ≤ q → M1 q = M q := by
  intro q hq
  have hk8 := hI.k8
  rw [p1.1]

theorem lc_within {M M1 : xm_M} {As : Nat → ab_T} {i j : Int32} {b1 b2 : Nat} {r1 : Int32} (hI : lw_I M As) (p1 : (fun (M : xm_M) => (fun r M1 => M1 = M ∧ ((¬ ((0 ≤ i.toInt ∧ i.toInt < (M 0 3 : Nat)) ∧ 0 ≤ j.toInt ∧ j.toInt < (M 0 3 : Nat)) ∧ r = nI 0) ∨ ∃ x y, i = nI x ∧ j = nI y ∧ x < M 0 3 ∧ y < M 0 3 ∧ ∃ t, r = nI t ∧ t < 2 ∧ (t = 1 ↔ nm_wi M (nm_at x b1) (nm_at y b2))))) M r1 M1) : ∀ q, 277 ≤ q → M1 q = M q := by
  intro q hq
  have hk8 := hI.k8
  rw [p1.1]

theorem lc_check {M M1 : xm_M} {As : Nat → ab_T} {i T u : Int32} {r1 : Int32} (hI : lw_I M As) (p1 : (fun (M : xm_M) => (fun r M1 => M1 = M ∧ ((¬ ((0 ≤ i.toInt ∧ i.toInt < (M 0 3 : Nat)) ∧ M 0 5 ≠ 0 ∧ 0 ≤ u.toInt ∧ u.toInt ≤ 255) ∧ r = nI 4294967295) ∨ ∃ x a k, i = nI x ∧ x < M 0 3 ∧ M 0 5 ≠ 0 ∧ u = nI a ∧ a < 256 ∧ r = nI k ∧ ck_run M T.toInt a (M 0 5) 0 (6 + 30 * x) (M 0 5 : Nat) k))) M r1 M1) : ∀ q, 277 ≤ q → M1 q = M q := by
  intro q hq
  have hk8 := hI.k8
  rw [p1.1]

theorem lw_sub5 {L : Nat} (h : L ≤ 2560) : (nI L - nI 5).toInt = (L : Int) - 5 := by
  by_cases h5 : 5 ≤ L
  · rw [pk_sub h5, nI_toInt (by omega)]
    omega
  · rcases (show L = 0 ∨ L = 1 ∨ L = 2 ∨ L = 3 ∨ L = 4 by omega) with rfl | rfl | rfl | rfl | rfl <;> decide
theorem lw_and15 (x : Int32) : ∃ k : Nat, k < 16 ∧ x &&& nI 15 = nI k := by
  obtain ⟨n, -, rfl⟩ := wb_of32 x
  refine ⟨n &&& 15, ?_, xi_and n 15⟩
  have : n &&& 15 ≤ 15 := Nat.and_le_right
  omega
section XL
variable {X : xv_X} {Y : xw_Y} {cc : ByteArray} {own : String} {nL cells slots : Nat} {rm : Room} {lk : xl_L} {N : Nat} {M : xm_M} {pc pq : Nat} {L : List (Nat × Value)} {st : List Value} {b n : Nat} {xs : Nat → Int32}
theorem xl_len (hX : xv_ok X Y cc own nL rm) (hs : va_X b n xs (xv_s X) (xv_s X).heap) (hb : b < (xv_s X).heap.size) (hA : ¬ Y.2.2.1 b) (d : decode cc pc = .ok (.arraylength, 1)) (e : pc + 1 = pq) (h : xv_V X Y nL cells slots lk N M pq L (.int (nI n) :: st)) : xv_V X Y nL cells slots lk N M pc L (.ref b :: st) := by
  subst e
  intro H locs ls hP hD hS hl
  exact va_slen hX.1 hX.2.1 hs hb hA hS d (h H locs ls hP hD hS hl)
theorem xl_ld (hX : xv_ok X Y cc own nL rm) (hs : va_X b n xs (xv_s X) (xv_s X).heap) (hb : b < (xv_s X).heap.size) (hA : ¬ Y.2.2.1 b) {i : Nat} (hi : i < n) (hn : n < 2 ^ 31) (d : decode cc pc = .ok (.iaload, 1)) (e : pc + 1 = pq) (h : xv_V X Y nL cells slots lk N M pq L (.int (xs i) :: st)) : xv_V X Y nL cells slots lk N M pc L (.int (nI i) :: .ref b :: st) := by
  subst e
  intro H locs ls hP hD hS hl
  refine va_sld hX.1 hX.2.1 hs hb hA hS (vp_in_nI hi hn) d ?_
  rw [nI_clamp (by omega)]
  exact h H locs ls hP hD hS hl
end XL
