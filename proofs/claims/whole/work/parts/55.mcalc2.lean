/-! the reference: what else stays -/
def md_X (S : List Nat) (M M' : xm_M) : Prop := (∀ q, q ≠ 277 → M' q = M q) ∧ ∀ j, j ∉ S → M' 277 j = M 277 j
theorem md_X.tr {S T U : List Nat} {A B C : xm_M} (h : md_X S A B) (g : md_X T B C) (hS : ∀ x ∈ S, x ∈ U) (hT : ∀ x ∈ T, x ∈ U) : md_X U A C := ⟨fun q a => (g.1 q a).trans (h.1 q a), fun j a => (g.2 j (fun z => a (hT j z))).trans (h.2 j (fun z => a (hS j z)))⟩
theorem md_X.up {S U : List Nat} {A B : xm_M} (h : md_X S A B) (hS : ∀ x ∈ S, x ∈ U) : md_X U A B := ⟨h.1, fun j a => h.2 j (fun z => a (hS j z))⟩
theorem md_F.x {A B : xm_M} (h : md_F A B) : md_X [6, 7] A B := ⟨h.1, fun j a => h.2 j (fun e => a (by rw [e]; decide)) (fun e => a (by rw [e]; decide))⟩
theorem md_N.x {A B : xm_M} (h : md_N A B) : md_X [6, 7, 16, 17, 18] A B := ⟨h.1, fun j a => h.2 j (fun e => a (by rw [e]; decide)) (fun e => a (by rw [e]; decide)) (fun e => a (by rw [e]; decide)) (fun e => a (by rw [e]; decide)) (fun e => a (by rw [e]; decide))⟩
theorem md_X.set (M : xm_M) (k v : Nat) : md_X [k] M (xm_set M 277 k v) := ⟨fun q a => xm_oth a, fun j a => xm_nk (fun e => a (by rw [e]; simp))⟩
/-- a field that isn't the reader's is put -/
theorem md_put {M : xm_M} {k v : Nat} (h6 : k ≠ 6) (h7 : k ≠ 7) (hI : md_I M) : md_I (xm_set M 277 k v) ∧ md_s (xm_set M 277 k v) = md_s M := by
  refine ⟨md_I.cg (xm_nk (fun e => h6 e.symm)) (xm_nk (fun e => h7 e.symm)) (xm_oth (by decide)) hI, md_s_cg (xm_nk (fun e => h6 e.symm)) (xm_nk (fun e => h7 e.symm))⟩
theorem mo_tru0 {b : Nat → Nat} {l : Nat} {s : Option Nat} (h : ∀ i, s = some i → ¬ (i < l ∧ b i = 1)) : mo_ok (mo_run (ps_tru b) l s) s (fun x => x = false) := by
  cases s with
  | none => exact Or.inl ⟨rfl, rfl⟩
  | some i =>
    refine Or.inr ⟨false, i, ?_, rfl, rfl⟩
    simp only [mo_run, ps_tru]
    rw [if_neg (h i rfl)]
theorem mo_tru1 {b : Nat → Nat} {l i : Nat} (h : i < l ∧ b i = 1) {f e : Nat} (hh : ps_hd b 1 i l = some (f, e)) : mo_run (ps_tru b) l (some i) = if e = f + 1 ∧ b f = 255 then some (true, e) else none := by
  simp only [mo_run, ps_tru]
  rw [if_pos h, hh]
theorem mo_tru2 {b : Nat → Nat} {l i : Nat} (h : i < l ∧ b i = 1) (hh : ps_hd b 1 i l = none) : mo_run (ps_tru b) l (some i) = none := by
  simp only [mo_run, ps_tru]
  rw [if_pos h, hh]
theorem mo_bas1 {b : Nat → Nat} {l : Nat} {s s1 : Option Nat} {t : Bool} (h : mo_ok (mo_run (ps_tru b) l s) s1 (fun x => x = t)) (hc : t = true → ∀ i, s1 = some i → ¬ i < l) : mo_ok (mo_run (ps_bas b) l s) s1 (fun z => z = (t, none)) := by
  cases s with
  | none =>
    rw [mo_none h]
    exact Or.inl ⟨rfl, rfl⟩
  | some i =>
    simp only [mo_run] at h ⊢
    unfold ps_bas
    rcases h with ⟨rfl, h⟩ | ⟨x, j, h, rfl, rfl⟩
    · rw [h]
      exact Or.inl ⟨rfl, rfl⟩
    · rw [h]
      simp only []
      rw [if_neg (fun z => hc z.1 j rfl z.2)]
      exact Or.inr ⟨_, j, rfl, rfl, rfl⟩
theorem mo_bas2 {b : Nat → Nat} {l j w : Nat} {s s2 : Option Nat} (h : mo_ok (mo_run (ps_tru b) l s) (some j) (fun x => x = true)) (hj : j < l) (h2 : mo_ok (mo_run (ps_intr b 0 2147483647) l (some j)) s2 (fun v => v = w)) : mo_ok (mo_run (ps_bas b) l s) s2 (fun z => z = (true, some w)) := by
  cases s with
  | none => cases (mo_none h)
  | some i =>
    simp only [mo_run] at h h2 ⊢
    unfold ps_bas
    rcases h with ⟨h, -⟩ | ⟨x, j', h, hj', rfl⟩
    · cases h
    · cases hj'
      rw [h]
      simp only []
      rw [if_pos ⟨trivial, hj⟩]
      rcases h2 with ⟨rfl, h2⟩ | ⟨y, k, h2, rfl, rfl⟩
      · rw [h2]
        exact Or.inl ⟨rfl, rfl⟩
      · rw [h2]
        exact Or.inr ⟨_, k, rfl, rfl, rfl⟩
theorem md_X.tt {U : List Nat} {A B C : xm_M} (h : md_X U A B) (g : md_X U B C) : md_X U A C := ⟨fun q a => (g.1 q a).trans (h.1 q a), fun j a => (g.2 j a).trans (h.2 j a)⟩
theorem md_X.rf (U : List Nat) (A : xm_M) : md_X U A A := ⟨fun _ _ => rfl, fun _ _ => rfl⟩
/-- wrong is put -/
theorem md_wr {M : xm_M} {v : Nat} (hI : md_I M) (hv : v ≤ 1) : md_I (xm_set M 277 7 v) ∧ md_F M (xm_set M 277 7 v) ∧ md_s (xm_set M 277 7 v) = if v = 0 then some (M 277 6) else none := md_done (M := M) (v := M 277 6) (w := v) (xm_nk (by decide)) xm_eq (fun q a => xm_oth a) (fun j _ b => xm_nk b) hI hI.1 hv
theorem md_ss (M : xm_M) : md_s M = if M 277 7 = 0 then some (M 277 6) else none := rfl
