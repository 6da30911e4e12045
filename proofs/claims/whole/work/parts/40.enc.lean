/-! encodings of names and lists -/
def en_ls : ps_N → List Nat
  | [] => []
  | l :: r => en_el 19 l ++ en_ls r
def en_name (x : ps_N) : List Nat := en_el 48 (en_ls x)
def en_ns : List ps_N → List Nat
  | [] => []
  | l :: r => en_name l ++ en_ns r
def en_list (tag : Nat) (x : List ps_N) : List Nat := if x = [] then [] else en_el tag (en_ns x)
theorem en_ls_app (a b : ps_N) : en_ls (a ++ b) = en_ls a ++ en_ls b := by
  induction a with
  | nil => rfl
  | cons l r ih => simp [en_ls, ih]
theorem en_ns_app (a b : List ps_N) : en_ns (a ++ b) = en_ns a ++ en_ns b := by
  induction a with
  | nil => rfl
  | cons l r ih => simp [en_ns, ih]
/-- a label: 1 to 8 letters -/
def nv_l (l : List Nat) : Prop := 1 ≤ l.length ∧ l.length ≤ 8 ∧ ps_abc l = true
def nv_n (x : ps_N) : Prop := x.length ≤ 4 ∧ ∀ l, l ∈ x → nv_l l
theorem nm_pk_cat (a b : List Nat) : nm_pk (a ++ b) = nm_pk a * 256 ^ b.length + nm_pk b := by
  rcases List.eq_nil_or_concat b with h | ⟨b', x, h⟩
  · rw [h]
    simp [nm_pk]
  · rw [h, List.concat_eq_append, ← List.append_assoc, nm_pk_app, nm_pk_app, nm_pk_cat a b']
    simp only [List.length_append, List.length_cons, List.length_nil]
    rw [Nat.pow_succ, Nat.add_mul, Nat.mul_assoc, Nat.add_assoc]
  termination_by b.length
  decreasing_by rw [h]; simp
theorem nm_pk_lt {l : List Nat} (h : ∀ x, x ∈ l → x < 256) : nm_pk l < 256 ^ l.length := by
  rcases List.eq_nil_or_concat l with h0 | ⟨l', x, h0⟩
  · rw [h0]
    decide
  · rw [h0, List.concat_eq_append, nm_pk_app]
    have h1 : nm_pk l' < 256 ^ l'.length := nm_pk_lt (fun y hy => h y (by rw [h0, List.concat_eq_append]; exact List.mem_append_left _ hy))
    have h2 : x < 256 := h x (by rw [h0, List.concat_eq_append]; simp)
    simp only [List.length_append, List.length_cons, List.length_nil]
    rw [Nat.pow_succ]
    omega
  termination_by l.length
  decreasing_by rw [h0]; simp
theorem nv_lt {l : List Nat} (h : nv_l l) : ∀ x, x ∈ l → x < 256 := fun x hx => by
  have := ps_abc_mem h.2.2 hx
  omega
theorem nv_64 {l : List Nat} (h : nv_l l) : nm_pk l < 18446744073709551616 := xi_pow8 (nm_pk_lt (nv_lt h)) h.2.1
theorem nm_digit {l : List Nat} (h : ∀ x, x ∈ l → x < 256) (t : Nat) : nm_pk l / 2 ^ (8 * t) % 256 = if t < l.length then l.getD (l.length - 1 - t) 0 else 0 := by
  rw [show (2 : Nat) ^ (8 * t) = 256 ^ t by rw [Nat.pow_mul]]
  by_cases ht : t < l.length
  · rw [if_pos ht]
    obtain ⟨a, x, b, hl, hb⟩ : ∃ a x b, l = a ++ x :: b ∧ b.length = t := by
      refine ⟨l.take (l.length - 1 - t), l[l.length - 1 - t]'(by omega), l.drop (l.length - 1 - t + 1), ?_, ?_⟩
      · rw [List.getElem_cons_drop, List.take_append_drop]
      · rw [List.length_drop]
        omega
    have e : l = (a ++ [x]) ++ b := by rw [hl]; simp
    have h1 : nm_pk b < 256 ^ t := by
      rw [← hb]
      exact nm_pk_lt (fun y hy => h y (by rw [hl]; simp [hy]))
    have h2 : x < 256 := h x (by rw [hl]; simp)
    have h3 : l.getD (l.length - 1 - t) 0 = x := by
      rw [hl]
      simp only [List.length_append, List.length_cons, hb]
      rw [show a.length + (t + 1) - 1 - t = a.length by omega]
      simp
    rw [h3, e, nm_pk_cat, hb, nm_pk_app, Nat.mul_comm, Nat.mul_add_div (Nat.pow_pos (by decide)), Nat.div_eq_of_lt h1]
    omega
  · rw [if_neg ht]
    have h1 := nm_pk_lt h
    have h2 : nm_pk l < 256 ^ t := Nat.lt_of_lt_of_le h1 (Nat.pow_le_pow_right (by decide) (by omega))
    rw [Nat.div_eq_of_lt h2]
/-- eight bits a step, down to -8 -/
def xi_sh : Nat → Int32
  | 0 => -8
  | t + 1 => nI (8 * t)
theorem xi_shd (t : Nat) : nI (8 * t) + Int32.ofInt (-8) = xi_sh t := by
  cases t with
  | zero => decide
  | succ t =>
    show nI (8 * (t + 1)) + Int32.ofInt (-8) = nI (8 * t)
    rw [show 8 * (t + 1) = 8 * t + 8 by omega, ← nI_add]
    rw [Int32.add_assoc, show nI 8 + Int32.ofInt (-8) = 0 by decide, Int32.add_zero]
theorem en_take {l : List Nat} {t : Nat} (h : t < l.length) : l.take (l.length - t) = l.take (l.length - (t + 1)) ++ [l.getD (l.length - 1 - t) 0] := by
  have e : l.length - t = (l.length - (t + 1)) + 1 := by omega
  rw [e, List.take_succ]
  congr 1
  have e2 : l.length - (t + 1) = l.length - 1 - t := by omega
  rw [e2, List.getD_eq_getElem?_getD, List.getElem?_eq_getElem (by omega)]
  rfl
theorem en_el_ge (tag : Nat) (c : List Nat) : c.length + 2 ≤ (en_el tag c).length := by
  rw [en_el_len]
  split <;> omega
theorem ps_mir2 : ∀ u, u < 256 → ps_mir (ps_mir u 8) 8 = u := by decide +kernel
def en_oi (r : Option Nat) : List Nat := match r with
  | some v => en_int v
  | none => []
def en_basic (t : Bool) (r : Option Nat) : List Nat := en_el 48 ((if t = true then en_true else []) ++ en_oi r)
def en_bits (u : Nat) : List Nat := en_el 3 (if u = 0 then [0] else [ps_tz u 8 0] ++ [u])
def en_bounds (p x : List ps_N) : List Nat := en_el 48 (en_list 160 p ++ en_list 161 x)
def en_con (E : ps_E) (x : Nat × Bool × List Nat) : List Nat :=
  if x.1 = 1 then en_basic E.2.1 E.2.2.1
  else if x.1 = 2 then (match E.2.2.2.1 with
    | some u => en_bits u
    | none => [])
  else if x.1 = 3 then en_bounds E.2.2.2.2.1 E.2.2.2.2.2
  else x.2.2
def en_ext (E : ps_E) (x : Nat × Bool × List Nat) : List Nat := en_el 48 (en_int x.1 ++ (if x.2.1 = true then en_true else []) ++ en_el 4 (en_con E x))
def en_exts (E : ps_E) : List (Nat × Bool × List Nat) → List Nat
  | [] => []
  | x :: r => en_ext E x ++ en_exts E r
theorem en_exts_app (E : ps_E) (a b : List (Nat × Bool × List Nat)) : en_exts E (a ++ b) = en_exts E a ++ en_exts E b := by
  induction a with
  | nil => rfl
  | cons l r ih => simp [en_exts, ih]
def en_more (E : ps_E) : List Nat := if E.1 = [] then [] else en_el 163 (en_el 48 (en_exts E E.1))
def en_two (a b : Nat) : List Nat := en_el 48 (en_int a ++ en_int b)
def en_head (H : ps_H) : List Nat := en_int H.1 ++ (en_name H.2.1 ++ (en_two H.2.2.1.1 H.2.2.1.2 ++ (en_name H.2.2.2.1 ++ en_two H.2.2.2.2.1 H.2.2.2.2.2)))
def en_cert (C : ps_C) : List Nat := en_el 48 (en_el 48 (en_head C.1.1.1 ++ en_more C.1.1.2) ++ en_int C.2)
/-- what was read is within its bounds -/
def cv_L (x : List ps_N) : Prop := x.length ≤ 3 ∧ ∀ n, n ∈ x → nv_n n
def cv_E (E : ps_E) : Prop := E.1.length ≤ 4 ∧ (∀ x, x ∈ E.1 → x.1 < 256 ∧ x.2.2.length ≤ 20 ∧ (x.1 = 2 → E.2.2.2.1 ≠ none)) ∧ (∀ v, E.2.2.1 = some v → v < 2147483648) ∧ (∀ u, E.2.2.2.1 = some u → u < 256) ∧ cv_L E.2.2.2.2.1 ∧ cv_L E.2.2.2.2.2
def cv_H (H : ps_H) : Prop := H.1 < 2147483648 ∧ nv_n H.2.1 ∧ (H.2.2.1.1 < 2147483648 ∧ H.2.2.1.2 < 2147483648) ∧ nv_n H.2.2.2.1 ∧ (2 ≤ H.2.2.2.2.1 ∧ H.2.2.2.2.1 < 2147483648) ∧ (1 ≤ H.2.2.2.2.2 ∧ H.2.2.2.2.2 ≤ 1000)
theorem wr_nm {M : xm_M} {e : List Nat} {p : Nat} {x : ps_N} (hp : 6 ≤ p) (h : nm_is M p x) : nm_is (wr_m M e) p x := nm_is_cg (wr_o (by omega) (by omega)) (wr_o (by omega) (by omega)) h
