/-! writing: bytes behind those in the buffer -/
def wr_f (f : Nat → Nat) (s : Nat) (e : List Nat) (j : Nat) : Nat := if s ≤ j ∧ j < s + e.length then e.getD (j - s) 0 else f j
def wr_m (M : xm_M) (e : List Nat) : xm_M := fun q j => if q = 3 then wr_f (M 3) (M 2 1) e j else if q = 2 then (if j = 1 then M 2 1 + e.length else M 2 j) else M q j
theorem wr_3 (M : xm_M) (e : List Nat) : wr_m M e 3 = wr_f (M 3) (M 2 1) e := rfl
theorem wr_21 (M : xm_M) (e : List Nat) : wr_m M e 2 1 = M 2 1 + e.length := rfl
theorem wr_o {M : xm_M} {e : List Nat} {q : Nat} (h2 : q ≠ 2) (h3 : q ≠ 3) : wr_m M e q = M q := by
  funext j
  unfold wr_m
  rw [if_neg h3, if_neg h2]
theorem wr_ext {A B : xm_M} (h3 : ∀ j, A 3 j = B 3 j) (h2 : ∀ j, A 2 j = B 2 j) (ho : ∀ q, q ≠ 2 → q ≠ 3 → A q = B q) : A = B := by
  funext q j
  by_cases a : q = 3
  · rw [a]; exact h3 j
  · by_cases b : q = 2
    · rw [b]; exact h2 j
    · rw [ho q b a]
theorem wr_nil (M : xm_M) : wr_m M [] = M := by
  refine wr_ext (fun j => ?_) (fun j => ?_) (fun q a b => wr_o a b)
  · show wr_f (M 3) (M 2 1) [] j = _
    unfold wr_f
    rw [if_neg (by simp)]
  · show (if j = 1 then M 2 1 + 0 else M 2 j) = _
    split
    · rename_i h
      rw [h]
      rfl
    · rfl
theorem getD_app_l {a b : List Nat} {j : Nat} (h : j < a.length) : (a ++ b).getD j 0 = a.getD j 0 := by
  simp only [List.getD_eq_getElem?_getD]
  rw [List.getElem?_append_left h]
theorem getD_app_r {a b : List Nat} {j : Nat} (h : a.length ≤ j) : (a ++ b).getD j 0 = b.getD (j - a.length) 0 := by
  simp only [List.getD_eq_getElem?_getD]
  rw [List.getElem?_append_right h]
theorem wr_app (M : xm_M) (a b : List Nat) : wr_m (wr_m M a) b = wr_m M (a ++ b) := by
  refine wr_ext (fun j => ?_) (fun j => ?_) (fun q x y => by rw [wr_o x y, wr_o x y, wr_o x y])
  · rw [wr_3, wr_3, wr_3, wr_21]
    unfold wr_f
    rw [List.length_append]
    by_cases h1 : M 2 1 + a.length ≤ j ∧ j < M 2 1 + a.length + b.length
    · rw [if_pos h1, if_pos (by omega), getD_app_r (by omega)]
      congr 1
      omega
    · rw [if_neg h1]
      by_cases h2 : M 2 1 ≤ j ∧ j < M 2 1 + a.length
      · rw [if_pos h2, if_pos (by omega), getD_app_l (by omega)]
      · rw [if_neg h2, if_neg (by omega)]
  · show (if j = 1 then M 2 1 + a.length + b.length else (if j = 1 then M 2 1 + a.length else M 2 j)) = (if j = 1 then M 2 1 + (a ++ b).length else M 2 j)
    split
    · rw [List.length_append]
      omega
    · rfl
theorem wr_one (M : xm_M) (v : Nat) : xm_set (xm_set M 3 (M 2 1) v) 2 1 (M 2 1 + 1) = wr_m M [v] := by
  refine wr_ext (fun j => ?_) (fun j => ?_) (fun q x y => by rw [xm_oth x, xm_oth y, wr_o x y])
  · rw [xm_np (by decide), wr_3]
    unfold wr_f
    by_cases h : j = M 2 1
    · rw [h, xm_eq, if_pos (by simp)]
      simp
    · rw [xm_nk h, if_neg (by simp; omega)]
  · show (if j = 1 then M 2 1 + 1 else M 2 j) = (if j = 1 then M 2 1 + 1 else M 2 j)
    rfl
/-- encodings -/
def en_len (n : Nat) : List Nat := if n ≤ 127 then [n] else [129, n]
def en_el (tag : Nat) (c : List Nat) : List Nat := tag :: (en_len c.length ++ c)
theorem en_len_len (n : Nat) : (en_len n).length = if n ≤ 127 then 1 else 2 := by
  unfold en_len
  split <;> rfl
theorem en_el_len (tag : Nat) (c : List Nat) : (en_el tag c).length = c.length + 1 + (if c.length ≤ 127 then 1 else 2) := by
  unfold en_el
  rw [List.length_cons, List.length_append, en_len_len]
  omega
theorem xi_m1 {p : Nat} (h : 0 < p) : nI p + Int32.ofInt (-1) = nI (p - 1) := sb_m1 h
/-- the end of putting a length in -/
theorem wr_ins {M0 M Mk M1 : xm_M} {E c : List Nat} {F n ls : Nat} (hM : M = wr_m M0 (E ++ c)) (hF : F = M0 2 1 + E.length) (hn : n = c.length) (hls : ls = if n ≤ 127 then 1 else 2)
    (h1 : ∀ j, F ≤ j → j < F + n → Mk 3 (j + ls) = M 3 j) (h2 : ∀ j, j < F → Mk 3 j = M 3 j) (h3 : ∀ j, F + n + ls ≤ j → Mk 3 j = M 3 j)
    (g1 : M1 3 (F + ls - 1) = n) (g2 : ls = 2 → M1 3 F = 129) (g3 : ∀ j, j ≠ F + ls - 1 → (ls = 2 → j ≠ F) → M1 3 j = Mk 3 j) (g4 : M1 2 1 = F + n + ls) (g5 : ∀ j, j ≠ 1 → M1 2 j = M 2 j) (g6 : ∀ q, q ≠ 2 → q ≠ 3 → M1 q = M q) : M1 = wr_m M0 (E ++ (en_len n ++ c)) := by
  have hl : (en_len n).length = ls := by rw [en_len_len, hls]
  have hls1 : 1 ≤ ls ∧ ls ≤ 2 := by rw [hls]; split <;> decide
  refine wr_ext (fun j => ?_) (fun j => ?_) (fun q x y => by rw [g6 q x y, hM, wr_o x y, wr_o x y])
  · rw [wr_3]
    unfold wr_f
    simp only [List.length_append, hl]
    by_cases a1 : j < F
    · rw [g3 j (by omega) (by omega), h2 j a1, hM, wr_3]
      unfold wr_f
      simp only [List.length_append]
      by_cases a2 : M0 2 1 ≤ j
      · rw [if_pos (by omega), if_pos (by omega), getD_app_l (by omega), getD_app_l (by omega)]
      · rw [if_neg (by omega), if_neg (by omega)]
    · by_cases a2 : j < F + ls
      · rw [if_pos (by omega), getD_app_r (by omega), getD_app_l (by omega)]
        unfold en_len
        by_cases a3 : n ≤ 127
        · rw [if_pos a3] at hls ⊢
          rw [show j = F + ls - 1 by omega, g1, show F + ls - 1 - M0 2 1 - E.length = 0 by omega]
          rfl
        · rw [if_neg a3] at hls ⊢
          by_cases a4 : j = F
          · rw [a4, g2 hls, show F - M0 2 1 - E.length = 0 by omega]
            rfl
          · rw [show j = F + ls - 1 by omega, g1, show F + ls - 1 - M0 2 1 - E.length = 1 by omega]
            rfl
      · by_cases a3 : j < F + n + ls
        · rw [if_pos (by omega), getD_app_r (by omega), getD_app_r (by omega), g3 j (by omega) (by omega)]
          have := h1 (j - ls) (by omega) (by omega)
          rw [show j - ls + ls = j by omega] at this
          rw [this, hM, wr_3]
          unfold wr_f
          simp only [List.length_append]
          rw [if_pos (by omega), getD_app_r (by omega), hl]
          congr 1
          omega
        · rw [if_neg (by omega), g3 j (by omega) (by omega), h3 j (by omega), hM, wr_3]
          unfold wr_f
          simp only [List.length_append]
          rw [if_neg (by omega)]
  · by_cases a : j = 1
    · rw [a, g4, wr_21]
      simp only [List.length_append, hl]
      omega
    · rw [g5 j a, hM]
      show (if j = 1 then _ else M0 2 j) = (if j = 1 then _ else M0 2 j)
      rw [if_neg a, if_neg a]
/-- the bytes of a number, n of them, the highest first -/
def en_ib (v : Nat) : Nat → List Nat
  | 0 => []
  | n + 1 => v / 2 ^ (8 * n) % 256 :: en_ib v n
/-- how many bytes a number needs, n at least, k more at most -/
def en_nb (v : Nat) : Nat → Nat → Nat
  | 0, n => n
  | k + 1, n => if v / 2 ^ (8 * n - 1) = 0 then n else en_nb v k (n + 1)
def en_int (v : Nat) : List Nat := en_el 2 (en_ib v (en_nb v 3 1))
def en_true : List Nat := en_el 1 [255]
theorem en_ib_len (v : Nat) : ∀ n, (en_ib v n).length = n
  | 0 => rfl
  | n + 1 => by simp [en_ib, en_ib_len v n]
theorem en_nb_le (v : Nat) : ∀ k n, n ≤ en_nb v k n ∧ en_nb v k n ≤ n + k
  | 0, n => by simp [en_nb]
  | k + 1, n => by
    unfold en_nb
    split
    · omega
    · have := en_nb_le v k (n + 1)
      omega
theorem xi_andA (x : Nat) : nI x &&& nI 255 = nI (x % 256) := by
  rw [pk_and _ (m := nI 255) 8 (by decide), xi_tn]
  congr 1
  omega
