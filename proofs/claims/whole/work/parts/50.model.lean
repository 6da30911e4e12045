/-! the reference: its reader is a place, or wrong -/
def md_s (M : xm_M) : Option Nat := if M 277 7 = 0 then some (M 277 6) else none
def md_I (M : xm_M) : Prop := M 277 6 ≤ 1443 ∧ M 277 7 ≤ 1 ∧ ∀ j, j < 1440 → M 278 j < 256
def md_F (M M' : xm_M) : Prop := (∀ q, q ≠ 277 → M' q = M q) ∧ ∀ j, j ≠ 6 → j ≠ 7 → M' 277 j = M 277 j
theorem md_F.rf (M : xm_M) : md_F M M := ⟨fun _ _ => rfl, fun _ _ _ => rfl⟩
theorem md_F.tr {A B C : xm_M} (h : md_F A B) (g : md_F B C) : md_F A C := ⟨fun q a => (g.1 q a).trans (h.1 q a), fun j a b => (g.2 j a b).trans (h.2 j a b)⟩
theorem md_s0 {M : xm_M} (h : M 277 7 = 0) : md_s M = some (M 277 6) := if_pos h
theorem md_s1 {M : xm_M} (h : M 277 7 ≠ 0) : md_s M = none := if_neg h
def mo_hd (b : Nat → Nat) (tag l : Nat) : Option Nat → Option (Nat × Nat)
  | some i => ps_hd b tag i l
  | none => none
def mo_run {α : Type} (P : Nat → Nat → Option (α × Nat)) (l : Nat) : Option Nat → Option (α × Nat)
  | some i => P i l
  | none => none
def mo_ok {α : Type} (X : Option (α × Nat)) (s : Option Nat) (V : α → Prop) : Prop := (s = none ∧ X = none) ∨ ∃ x j, X = some (x, j) ∧ s = some j ∧ V x
/-- byte t of w, by the other shift -/
theorem fd_sh : ∀ n, n < 32 → ((nI n &&& 31).toBitVec.smod 32).toNat = n := by decide +kernel
theorem fd_s (w : Int32) {t : Nat} (ht : t < 4) : (w >>> (nI (8 * t) &&& 31)) &&& nI 255 = nI (fd_b w t) := by
  rw [pk_and _ (m := nI 255) 8 (by decide)]
  have h1 := pk_shr w (nI (8 * t) &&& 31) (8 * t) (fd_sh _ (by omega))
  obtain ⟨x, hx⟩ : ∃ x, w >>> (nI (8 * t) &&& 31) = x := ⟨_, rfl⟩
  rw [hx] at h1 ⊢
  unfold fd_b
  congr 1
  have ex : x.toInt = if 2 * x.toBitVec.toNat < 2 ^ 32 then (x.toBitVec.toNat : Int) else (x.toBitVec.toNat : Int) - (2 ^ 32 : Nat) := BitVec.toInt_eq_toNat_cond _
  have ew : w.toInt = if 2 * w.toBitVec.toNat < 2 ^ 32 then (w.toBitVec.toNat : Int) else (w.toBitVec.toNat : Int) - (2 ^ 32 : Nat) := BitVec.toInt_eq_toNat_cond _
  have lx := x.toBitVec.isLt
  have lw := w.toBitVec.isLt
  rw [Int.shiftRight_eq_div_pow] at h1
  rcases (show t = 0 ∨ t = 1 ∨ t = 2 ∨ t = 3 by omega) with rfl | rfl | rfl | rfl <;> simp at h1 ⊢ <;> split at ex <;> split at ew <;> omega
theorem md_done {M M' : xm_M} {v w : Nat} (h6 : M' 277 6 = v) (h7 : M' 277 7 = w) (hq : ∀ q, q ≠ 277 → M' q = M q) (hj : ∀ j, j ≠ 6 → j ≠ 7 → M' 277 j = M 277 j) (hI : md_I M) (hv : v ≤ 1443) (hw : w ≤ 1) : md_I M' ∧ md_F M M' ∧ md_s M' = if w = 0 then some v else none := by
  refine ⟨⟨by omega, by omega, by rw [hq 278 (by decide)]; exact hI.2.2⟩, ⟨hq, hj⟩, ?_⟩
  unfold md_s
  rw [h6, h7]
theorem md_w {M : xm_M} (hI : md_I M) (h : md_s M = none) : M 277 7 = 1 := by
  unfold md_s at h
  have := hI.2.1
  by_cases c : M 277 7 = 0
  · rw [if_pos c] at h
    cases h
  · omega
theorem md_g {M : xm_M} {f : Nat} (h : md_s M = some f) : M 277 7 = 0 ∧ M 277 6 = f := by
  unfold md_s at h
  by_cases c : M 277 7 = 0
  · rw [if_pos c] at h
    exact ⟨c, Option.some.inj h⟩
  · rw [if_neg c] at h
    cases h
def mo_lv (e : Nat) : Option Nat → Option Nat
  | some i => if i = e then some i else none
  | none => none
theorem ps_be_lt {b : Nat → Nat} {f : Nat} (hb : ∀ j, b (f + j) < 256) : ∀ n, ps_be b f (n + 1) < (b f + 1) * 256 ^ n
  | 0 => by simp [ps_be]
  | n + 1 => by
    have := ps_be_lt hb n
    have h2 := hb (n + 1)
    show 256 * ps_be b f (n + 1) + b (f + (n + 1)) < _
    rw [Nat.pow_succ, ← Nat.mul_assoc]
    omega
theorem ps_be_lt2 {b : Nat → Nat} {f n : Nat} (hb : ∀ j, j < n → b (f + j) < 256) (hn : 1 ≤ n) (hn4 : n ≤ 4) (h0 : b f ≤ 127) : ps_be b f n < 2147483648 := by
  have e : ∀ m, m ≤ n → ps_be b f m = ps_be (fun j => if j < f + n then b j else 0) f m := by
    intro m
    induction m with
    | zero => intro _; rfl
    | succ m ih =>
      intro hm
      show 256 * ps_be b f m + b (f + m) = 256 * ps_be _ f m + (if f + m < f + n then b (f + m) else 0)
      rw [ih (by omega), if_pos (by omega)]
  rw [e n (Nat.le_refl _)]
  obtain ⟨m, rfl⟩ : ∃ m, n = m + 1 := ⟨n - 1, by omega⟩
  refine rd_pow4 (x := if f < f + (m + 1) then b f else 0) (j := m) (by rw [if_pos (by omega)]; exact h0) (by omega) (ps_be_lt (b := fun j => if j < f + (m + 1) then b j else 0) (f := f) (fun j => ?_) m)
  show (if f + j < f + (m + 1) then b (f + j) else 0) < 256
  split
  · exact hb j (by omega)
  · decide
theorem mo_int0 {b : Nat → Nat} {l : Nat} {s : Option Nat} (h : mo_hd b 2 l s = none) : mo_run (ps_int b) l s = none := by
  cases s with
  | none => rfl
  | some i =>
    simp only [mo_hd] at h
    simp only [mo_run, ps_int, h]
theorem mo_int1 {b : Nat → Nat} {l f e : Nat} {s : Option Nat} (h : mo_hd b 2 l s = some (f, e)) : mo_run (ps_int b) l s = if 1 ≤ e - f ∧ e - f ≤ 4 ∧ b f ≤ 127 ∧ ¬ (1 < e - f ∧ b f = 0 ∧ b (f + 1) < 128) then some (ps_be b f (e - f), e) else none := by
  cases s with
  | none => cases h
  | some i =>
    simp only [mo_hd] at h
    simp only [mo_run, ps_int, h]
theorem mo_hd_some {b : Nat → Nat} {tag l f e : Nat} {s : Option Nat} (h : mo_hd b tag l s = some (f, e)) : f ≤ e ∧ e ≤ l ∧ ∃ i, s = some i ∧ i + 2 ≤ f ∧ b i = tag ∧ i < l := by
  cases s with
  | none => cases h
  | some i =>
    obtain ⟨a, b', c, d, e', g⟩ := ps_hd_some h
    exact ⟨c, d, i, rfl, a, e', g⟩
