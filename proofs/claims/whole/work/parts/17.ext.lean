/-! extensions: bits, octets -/
theorem xi_su : ∀ n, n < 32 → (((nI n).toUInt32 &&& Int32.toUInt32 31).toBitVec % 32).toNat = n := by decide +kernel
theorem xi_ushr {x k : Nat} (hx : x < 4294967296) (hk : k < 32) : ((nI x).toUInt32 >>> ((nI k).toUInt32 &&& Int32.toUInt32 31)).toInt32 = nI (x / 2 ^ k) := pk_ushrN hx (nI k) k (xi_su k hk)
theorem xi_and1 {x : Nat} (hx : x < 4294967296) : nI x &&& nI 1 = nI (x % 2) := pk_andN hx (m := nI 1) 1 (by decide)
theorem xi_and255 {x : Nat} (hx : x < 4294967296) : nI x &&& nI 255 = nI (x % 256) := pk_andN hx (m := nI 255) 8 (by decide)
theorem xi_shl1 (v : Nat) : nI v <<< ((nI 1) &&& 31) = nI (v * 2) := by
  apply xi_ext
  rw [pk_shl _ _ 1 (by decide), xi_tn, xi_tn]
  omega
set_option maxRecDepth 100000 in
theorem xi_or1 {v b : Nat} (hb : b < 2) : nI (v * 2) ||| nI b = nI (v * 2 + b) := by
  apply xi_ext
  show ((nI (v * 2)).toBitVec ||| (nI b).toBitVec).toNat = _
  rw [BitVec.toNat_or, xi_tn, xi_tn, xi_tn]
  have h1 : v * 2 % 4294967296 = 2 ^ 1 * (v % 2147483648) := by omega
  have h2 : (v * 2 + b) % 4294967296 = 2 ^ 1 * (v % 2147483648) + b := by omega
  have h3 : b % 4294967296 = b := by omega
  rw [h1, h2, h3]
  exact (Nat.two_pow_add_eq_or_of_lt hb _).symm
theorem ps_mir_lt (x : Nat) : ∀ n, ps_mir x n < 2 ^ n
  | 0 => by simp [ps_mir]
  | n + 1 => by
    have := ps_mir_lt x n
    unfold ps_mir
    rw [Nat.pow_succ]
    omega
theorem ps_tz_lt (x : Nat) : ∀ n k, ps_tz x n k ≤ n + k
  | 0, k => by simp [ps_tz]
  | n + 1, k => by
    unfold ps_tz
    split
    · have := ps_tz_lt x n (k + 1)
      omega
    · omega
/-- the rest of the octets -/
def rd_oct : rd_S → rd_S
  | some (i, l :: ls) => if l - i ≤ 20 then some (l, l :: ls) else none
  | _ => none
def ex_J (b : Nat → Nat) (st : rd_S) (f : Nat → Nat) (s : rd_S) (N k : Nat) : Prop :=
  (s = none ∧ N = 0 ∧ rd_oct st = none) ∨ ∃ i l ls, st = some (i, l :: ls) ∧ i ≤ l ∧ l - i ≤ 20 ∧ N = l - i ∧ s = some (i + k, l :: ls) ∧ ∀ j, j < k → f j = b (i + j)
/-- only the reader's cells, and those of the extension at p but for number and critical, are other ones -/
def ex_F (p : Nat) (M M' : xm_M) : Prop := (∀ q, q ≠ 1 → q ≠ 4 → q ≠ p → q ≠ p + 1 → M' q = M q) ∧ M' p 0 = M p 0 ∧ M' p 1 = M p 1
theorem ex_J0 {b f : Nat → Nat} {M : xm_M} (hI : rd_I M) (h : rd_rem (rd_of M) ≤ 20) : ex_J b (rd_of M) f (rd_of M) (rd_rem (rd_of M)) 0 := by
  rcases hs : rd_of M with _ | ⟨i, _ | ⟨l, ls⟩⟩
  · exact Or.inl ⟨rfl, rfl, rfl⟩
  · exact (rd_of_nil hs).elim
  · have hle := (rd_at_le hI hs).1
    rw [hs] at h
    exact Or.inr ⟨i, l, ls, rfl, hle, h, rfl, rfl, fun j hj => absurd hj (Nat.not_lt_zero _)⟩
theorem ex_J1 {b f f' : Nat → Nat} {st s : rd_S} {N k : Nat} (h : ex_J b st f s N k) (hk : k < N) (hf : ∀ j, j < k + 1 → f' j = if j = k then rd_byte b s else f j) : ex_J b st f' (rd_next s) N (k + 1) := by
  rcases h with ⟨-, rfl, -⟩ | ⟨i, l, ls, rfl, h1, h2, h3, rfl, h4⟩
  · omega
  · have hlt : i + k < l := by omega
    refine Or.inr ⟨i, l, ls, rfl, h1, h2, h3, if_pos hlt, fun j hj => ?_⟩
    rw [hf j hj]
    by_cases hjk : j = k
    · rw [if_pos hjk, hjk]
      exact if_pos hlt
    · rw [if_neg hjk]
      exact h4 j (by omega)
theorem rs_tr {α : Type} {X : Option (α × Nat × List Nat)} {s : rd_S} {V : α → Prop} (h : (s = none ∧ X = none) ∨ ∃ x t, X = some (x, t) ∧ s = some t ∧ V x) : rs_ok X s V := h
theorem rs_bas1 {b : Nat → Nat} {s s1 : rd_S} {t : Bool} (h : rs_ok (rd_run (ps_tru b) s) s1 (fun x => x = t)) (hc : t = true → rd_rem s1 = 0) : rs_ok (rd_run (ps_bas b) s) s1 (fun z => z = (t, none)) := by
  rcases s with _ | ⟨i, _ | ⟨l, ls⟩⟩
  · rw [rs_none h]
    exact Or.inl ⟨rfl, rfl⟩
  · rw [rs_none (P := ps_tru b) h]
    exact Or.inl ⟨rfl, rfl⟩
  · simp only [rd_run] at h ⊢
    unfold ps_bas
    cases hp : ps_tru b i l with
    | none =>
      rw [hp] at h
      rcases h with h | ⟨y, u, h, -⟩
      · exact Or.inl ⟨h.1, rfl⟩
      · cases h
    | some q =>
      obtain ⟨t', j⟩ := q
      rw [hp] at h
      rcases h with h | ⟨y, u, h, h', h''⟩
      · cases h.2
      · simp only [Option.some.injEq, Prod.mk.injEq] at h
        obtain ⟨rfl, rfl⟩ := h
        rw [h'] at hc
        simp only [rd_rem] at hc
        simp only []
        rw [if_neg]
        · exact Or.inr ⟨_, _, rfl, h', by rw [h'']⟩
        · intro z
          have := hc (by rw [← h'']; exact z.1)
          omega
theorem rs_bas2 {b : Nat → Nat} {s s1 s2 : rd_S} {w : Nat} (h : rs_ok (rd_run (ps_tru b) s) s1 (fun x => x = true)) (hr : 0 < rd_rem s1) (h2 : rs_ok (rd_run (ps_intr b 0 2147483647) s1) s2 (fun v => v = w)) : rs_ok (rd_run (ps_bas b) s) s2 (fun z => z = (true, some w)) := by
  rcases s with _ | ⟨i, _ | ⟨l, ls⟩⟩
  · rw [rs_none h] at hr
    exact absurd hr (by simp [rd_rem])
  · rw [rs_none (P := ps_tru b) h] at hr
    exact absurd hr (by simp [rd_rem])
  · simp only [rd_run] at h ⊢
    unfold ps_bas
    cases hp : ps_tru b i l with
    | none =>
      rw [hp] at h
      rcases h with h | ⟨y, u, h, -⟩
      · rw [h.1] at hr
        exact absurd hr (by simp [rd_rem])
      · cases h
    | some q =>
      obtain ⟨t', j⟩ := q
      rw [hp] at h
      rcases h with h | ⟨y, u, h, h', h''⟩
      · cases h.2
      · simp only [Option.some.injEq, Prod.mk.injEq] at h
        obtain ⟨rfl, rfl⟩ := h
        rw [h'] at hr h2
        simp only [rd_rem] at hr
        simp only [rd_run] at h2
        simp only []
        rw [if_pos ⟨h'', by omega⟩]
        cases hq : ps_intr b 0 2147483647 j l with
        | none =>
          rw [hq] at h2
          rcases h2 with h | ⟨y, u, h, -⟩
          · exact Or.inl ⟨h.1, rfl⟩
          · cases h
        | some r =>
          obtain ⟨v, k⟩ := r
          rw [hq] at h2
          rcases h2 with h | ⟨y, u, h, h3, h4⟩
          · cases h.2
          · simp only [Option.some.injEq, Prod.mk.injEq] at h
            obtain ⟨rfl, rfl⟩ := h
            exact Or.inr ⟨_, _, rfl, h3, by rw [h'', h4]⟩
theorem rs_bit {b : Nat → Nat} {s s' : rd_S} {v : Nat} (hs : ∀ i, s ≠ some (i, [])) (h0 : rd_rem (rd_next s) = 0 → v = 0 ∧ s' = if rd_byte b s = 0 then rd_next s else none)
    (h1 : 0 < rd_rem (rd_next s) → v = rd_byte b (rd_next s) ∧ s' = if rd_byte b (rd_next s) ≠ 0 ∧ rd_byte b s = ps_tz (rd_byte b (rd_next s)) 8 0 then rd_next (rd_next s) else none) : rs_ok (rd_run (ps_bit b) s) s' (fun x => x = v) := by
  rcases s with _ | ⟨i, _ | ⟨l, ls⟩⟩
  · obtain ⟨-, e⟩ := h0 rfl
    rw [e]
    refine Or.inl ⟨?_, rfl⟩
    split <;> rfl
  · exact absurd rfl (hs i)
  · simp only [rd_run]
    unfold ps_bit
    by_cases hi : i < l
    · have hn : rd_next (some (i, l :: ls)) = some (i + 1, l :: ls) := if_pos hi
      have hb : rd_byte b (some (i, l :: ls)) = b i := if_pos hi
      rw [hn, hb] at h0 h1
      simp only [rd_rem] at h0 h1
      rw [if_pos hi]
      by_cases hj : i + 1 < l
      · obtain ⟨hv, hs'⟩ := h1 (by omega)
        have hn2 : rd_next (some (i + 1, l :: ls)) = some (i + 2, l :: ls) := if_pos hj
        have hb2 : rd_byte b (some (i + 1, l :: ls)) = b (i + 1) := if_pos hj
        rw [hn2, hb2] at hs'
        rw [hb2] at hv
        rw [if_pos hj, hs']
        by_cases hc : b (i + 1) ≠ 0 ∧ b i = ps_tz (b (i + 1)) 8 0
        · rw [if_pos hc, if_pos hc]
          exact Or.inr ⟨_, _, rfl, rfl, hv.symm⟩
        · rw [if_neg hc, if_neg hc]
          exact Or.inl ⟨rfl, rfl⟩
      · obtain ⟨hv, hs'⟩ := h0 (by omega)
        rw [if_neg hj, hs']
        by_cases hc : b i = 0
        · rw [if_pos hc, if_pos hc]
          exact Or.inr ⟨_, _, rfl, rfl, hv.symm⟩
        · rw [if_neg hc, if_neg hc]
          exact Or.inl ⟨rfl, rfl⟩
    · have hn : rd_next (some (i, l :: ls)) = none := if_neg hi
      rw [hn] at h0
      obtain ⟨-, e⟩ := h0 rfl
      rw [if_neg hi, e]
      refine Or.inl ⟨?_, rfl⟩
      split <;> rfl
theorem rs_bnd {b : Nat → Nat} {s s1 s2 s' : rd_S} {V W : List ps_N → Prop} {m n : Nat} (h1 : rs_ok (rd_run (ps_list b 160) s) s1 V) (h2 : rs_ok (rd_run (ps_list b 161) s1) s2 W) (hV : ∀ x, V x → x.length = m) (hW : ∀ x, W x → x.length = n) (hs : s' = if m = 0 ∧ n = 0 then none else s2) : rs_ok (rd_run (ps_bnd b) s) s' (fun z => V z.1 ∧ W z.2) := by
  have h := rs_and h1 h2
  rcases s with _ | ⟨i, _ | ⟨l, ls⟩⟩
  · rw [hs, rs_none h]
    refine Or.inl ⟨?_, rfl⟩
    split <;> rfl
  · rw [hs, rs_none (P := pq_and (ps_list b 160) (ps_list b 161)) h]
    refine Or.inl ⟨?_, rfl⟩
    split <;> rfl
  · simp only [rd_run] at h ⊢
    unfold ps_bnd
    cases hp : pq_and (ps_list b 160) (ps_list b 161) i l with
    | none =>
      rw [hp] at h
      rcases h with h | ⟨y, u, h, -⟩
      · rw [hs, h.1]
        refine Or.inl ⟨?_, rfl⟩
        split <;> rfl
      · cases h
    | some q =>
      obtain ⟨⟨p, x⟩, j⟩ := q
      rw [hp] at h
      rcases h with h | ⟨y, u, h, h', h'', h3⟩
      · cases h.2
      · simp only [Option.some.injEq, Prod.mk.injEq] at h
        obtain ⟨rfl, rfl⟩ := h
        have e1 := hV _ h''
        have e2 := hW _ h3
        simp only [] at e1 e2 ⊢
        rw [hs]
        by_cases hc : p = [] ∧ x = []
        · rw [if_pos hc, if_pos]
          · exact Or.inl ⟨rfl, rfl⟩
          · rw [← e1, ← e2, hc.1, hc.2]
            exact ⟨rfl, rfl⟩
        · rw [if_neg hc, if_neg]
          · exact Or.inr ⟨_, _, rfl, h', h'', h3⟩
          · intro z
            rw [← e1, ← e2] at z
            exact hc ⟨List.eq_nil_of_length_eq_zero z.1, List.eq_nil_of_length_eq_zero z.2⟩
