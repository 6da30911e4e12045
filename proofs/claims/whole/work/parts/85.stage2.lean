/-! stages, more -/
section XS
variable {lk : xl_L} {M : xm_M} {b a j N k v z : Nat} {row : Nat → Option Nat}
theorem xn_g_cp (ha : a < N) (hb : b < N) : xn_g lk b (fun i => if i = k then some v else row i) a j z = xl_set (xn_fl (xn_l (xn_g lk b row a j) N) N) b k (some v) z := by
  by_cases h : z = b
  · subst h
    rw [xl_row, xn_g_call ha hb, xn_g_b, xn_g_b]
  · rw [xl_oth h, xn_g_call ha hb]
    simp only [xn_g, if_neg h]
theorem xn_g_na (hb : b < N) (hz : z < N + 1) : xn_g lk b (fun i => if i = k then some v else row i) N 0 z = xl_set (xn_l (xn_g lk b row b 0) N) b k (some v) z := by
  by_cases h : z = b
  · subst h
    rw [xl_row, xn_l_ne (by omega), xn_g_b, xn_g_b]
  · rw [xl_oth h]
    by_cases h2 : z = N
    · subst h2
      rw [xn_l_eq, xn_g_a h]
      funext i
      exact if_neg (Nat.not_lt_zero _)
    · rw [xn_l_ne h2]
      simp only [xn_g, if_neg h, if_neg h2]
theorem xn_g_ni (hb : b < N) (hz : z < N + 1) (hn : xn_lk N = fun _ => none) : xn_g lk b (fun i => if i = k then some v else row i) b 0 z = xl_set (xn_l (xn_g lk b row b 0) N) b k (some v) z := by
  by_cases h : z = b
  · subst h
    rw [xl_row, xn_l_ne (by omega), xn_g_b, xn_g_b]
  · rw [xl_oth h]
    by_cases h2 : z = N
    · subst h2
      rw [xn_l_eq, xn_g_ge h h (by omega), hn]
    · rw [xn_l_ne h2]
      simp only [xn_g, if_neg h]
theorem xn_mc_na (hb : b < N) (hz : z < N + 1) (hK : xw_K N ≠ (0, 6, 16)) : xn_m (xn_fm M b) b z = xn_m (xn_m (xn_fm M b) b) N z := by
  by_cases h : z = N
  · subst h
    rw [xn_m_eq, xn_m_ne (by omega), xn_fm_ge (by omega), xn_d0 hK]
  · rw [xn_m_ne (N := N) h]
theorem xn_g_fin (h : xn_lk b = row) : xn_fl lk b z = xn_g lk b row b 0 z := by
  rcases Nat.lt_trichotomy z b with g | g | g
  · rw [xn_fl_lt g, xn_g_lt g (by omega)]
  · subst g
    rw [xn_fl_ge (Nat.le_refl _), xn_g_b, h]
  · rw [xn_fl_ge (by omega), xn_g_ge (by omega) (by omega) (by omega)]
theorem xn_g_up (hab : b < a) (h : ∀ k, j ≤ k → xn_lk a k = none) : xn_g lk b row b 0 z = xn_g lk b row a j z := by
  by_cases e : z = b
  · subst e
    rw [xn_g_b, xn_g_b]
  · by_cases e2 : z = a
    · subst e2
      rw [xn_g_ge (by omega) (by omega) (by omega), xn_g_a (by omega)]
      funext k
      by_cases hk : k < j
      · rw [if_pos hk]
      · rw [if_neg hk, h k (by omega)]
    · simp only [xn_g, if_neg e, if_neg e2]
theorem xn_g_0 (hz : z < b + 1) (hlb : lk b = fun _ => none) : xn_g lk b (fun _ => none) b 0 z = lk z := by
  by_cases e : z = b
  · subst e
    rw [xn_g_b, hlb]
  · rw [xn_g_lt (by omega) e]
theorem xn_mc_0 (hz : z < b + 1) (hMb : M b = fun _ => 0) : xn_m (xn_fm M b) b z = M z := by
  by_cases e : z = b
  · subst e
    rw [xn_m_eq, hMb]
  · rw [xn_m_ne e, xn_fm_lt (by omega)]
theorem xn_mc_f (hK : xw_K b ≠ (0, 6, 16)) : xn_fm M b z = xn_m (xn_fm M b) b z := by
  by_cases e : z = b
  · subst e
    rw [xn_m_eq, xn_fm_ge (Nat.le_refl _), xn_d0 hK]
  · rw [xn_m_ne e]
theorem xn_mz {n : Nat} (hb : M b = fun _ => 0) : M z = xm_set M b n 0 z := by
  by_cases e : z = b
  · subst e
    rw [xm_row, hb]
    funext i
    dsimp only
    split <;> rfl
  · rw [xm_oth e]
theorem xn_rw {r : Nat → Option Nat} {k v N : Nat} (h : ∀ i t, r i = some t → t < N) (hv : v < N) : ∀ i t, (if i = k then some v else r i) = some t → t < N := by
  intro i t ht
  split at ht
  · cases ht; exact hv
  · exact h i t ht
end XS
theorem xn_puto {X : xv_X} {Y : xw_Y} {cc : ByteArray} {own : String} {nL cells slots : Nat} {rm : Room} {lk : xl_L} {N : Nat} {M : xm_M} {pc pq : Nat} {L : List (Nat × Value)} {st : List Value} (hX : xv_ok X Y cc own nL rm) {q ci n k idx v : Nat} {ty : FieldType} (hf : xf_L own idx ci n k false ty) (hr : xw_rk ci k = true) (hk : xw_K q = (0, ci, n)) (hq : q < N) (hn : ∀ a, narrow ty (.ref a) = .ref a) (hfit : ∀ a, fits ty (.ref a) = true) (d : decode cc pc = .ok (.putfield idx, 3)) (e : pc + 3 = pq)
    (h : xv_V X Y nL cells slots (xl_set lk q k (some v)) N M pq L st) : xv_V X Y nL cells slots lk N M pc L (.ref (Y.2.2.2 v) :: .ref (Y.2.2.2 q) :: st) := by
  have h0 : (xw_fs Y.2.2.2 (xw_rk ci) (lk q) (M q) n).set k (.ref (Y.2.2.2 v)) = xw_fs Y.2.2.2 (xw_rk ci) (xl_set lk q k (some v) q) (M q) n := by
    refine xw_fs_set ?_ (fun j hj => ⟨?_, rfl⟩)
    · rw [hr, xl_row]
      show xw_slot Y.2.2.2 true (if k = k then some v else lk q k) (M q k) = _
      rw [if_pos rfl]
      rfl
    · rw [xl_row]
      exact if_neg hj
  exact xv_putv hX hf hk hq (hn _) (hfit _) h0 (fun z hz => ⟨xl_oth hz, rfl⟩) d e h
