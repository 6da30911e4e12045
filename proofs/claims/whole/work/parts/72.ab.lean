/-! checking a path, of what is said of its certificates -/
def gk_any (S T N P C : Prop) (v : Nat) : Prop := (v = 1 ∧ ¬ S) ∨ (S ∧ ((v = 2 ∧ ¬ T) ∨ (T ∧ ((v = 3 ∧ ¬ N) ∨ (N ∧ ((v = 4 ∧ ¬ P) ∨ (P ∧ ((v = 5 ∧ C) ∨ (v = 0 ∧ ¬ C)))))))))
def gk_hold (au : Nat) (self : Prop) (u : Nat) (rest : Int) (v : Nat) : Prop := (v = 6 ∧ au = 0) ∨ (v = 7 ∧ au = 1 ∧ ¬ self ∧ rest ≤ 0) ∨ (au = 1 ∧ (self ∨ 0 < rest) ∧ ((v = 8 ∧ u ≠ 4294967295 ∧ u / 32 % 2 = 0) ∨ (v = 0 ∧ (u = 4294967295 ∨ u / 32 % 2 = 1))))
def gk_last (u a v : Nat) : Prop := (v = 9 ∧ u ≠ 4294967295 ∧ u &&& a ≠ a) ∨ (v = 0 ∧ (u = 4294967295 ∨ u &&& a = a))
def gk_rest (self : Prop) (re : Nat) (rest r : Int) : Prop := ∃ left : Int, ((self ∧ left = rest) ∨ (¬ self ∧ left = rest - 1)) ∧ ((re ≠ 4294967295 ∧ (re : Int) < left ∧ r = (re : Int)) ∨ (¬ (re ≠ 4294967295 ∧ (re : Int) < left) ∧ r = left))
def ab_cr (A : ab_T) : Prop := ∃ x ∈ A.2.1.1, x.2.1 = true ∧ ¬ (x.1 = 1 ∨ x.1 = 2 ∨ x.1 = 3)
def ab_self (A : ab_T) : Prop := A.1.2.1 = A.1.2.2.2.1
def ab_au (A : ab_T) : Nat := if A.2.1.2.1 = true then 1 else 0
def ab_us (A : ab_T) : Nat := ct_u A.2.1.2.2.2.1
def ab_re (A : ab_T) : Nat := ct_o A.2.1.2.2.1
def ab_any5 (As : Nat → ab_T) (P : Nat → Nat) (len p km ke : Nat) (hn : ps_N) (T : Int) (v : Nat) : Prop := gk_any (ck_sig (As (P p)).2.2.1 (As (P p)).2.2.2 km ke) (((As (P p)).1.2.2.1.1 : Int) ≤ T ∧ T ≤ ((As (P p)).1.2.2.1.2 : Int)) ((As (P p)).1.2.1 = hn) ((p + 1 ≠ len ∧ ab_self (As (P p))) ∨ ∀ q, q < p → ab_al (As (P q)) (As (P p)).1.2.2.2.1) (ab_cr (As (P p))) v
/-- the path from place p on, n being left -/
def ab_run (As : Nat → ab_T) (P : Nat → Nat) (len : Nat) (T : Int) (a : Nat) : Nat → Nat → Nat → Nat → ps_N → Int → Nat → Prop
  | 0, _, _, _, _, _, r => r = 0
  | n + 1, p, km, ke, hn, rest, r => ∃ v w, ab_any5 As P len p km ke hn T v ∧ ((v ≠ 0 ∧ w = v) ∨ (v = 0 ∧ ((n = 0 ∧ gk_last (ab_us (As (P p))) a w) ∨ (n ≠ 0 ∧ gk_hold (ab_au (As (P p))) (ab_self (As (P p))) (ab_us (As (P p))) rest w)))) ∧
    ((w ≠ 0 ∧ r = 16 * p + w) ∨ (w = 0 ∧ ∃ rest', gk_rest (ab_self (As (P p))) (ab_re (As (P p))) rest rest' ∧ ab_run As P len T a n (p + 1) (As (P p)).1.2.2.2.2.1 (As (P p)).1.2.2.2.2.2 (As (P p)).1.2.2.2.1 rest' r))
theorem gk_any_fn {S T N P C : Prop} {v w : Nat} (h : gk_any S T N P C v) (g : gk_any S T N P C w) : v = w := by
  unfold gk_any at h g
  rcases h with ⟨rfl, h1⟩ | ⟨h1, ⟨rfl, h2⟩ | ⟨h2, ⟨rfl, h3⟩ | ⟨h3, ⟨rfl, h4⟩ | ⟨h4, ⟨rfl, h5⟩ | ⟨rfl, h5⟩⟩⟩⟩⟩ <;>
  rcases g with ⟨rfl, g1⟩ | ⟨g1, ⟨rfl, g2⟩ | ⟨g2, ⟨rfl, g3⟩ | ⟨g3, ⟨rfl, g4⟩ | ⟨g4, ⟨rfl, g5⟩ | ⟨rfl, g5⟩⟩⟩⟩⟩ <;>
  first
    | rfl
    | contradiction
theorem gk_hold_fn {S : Prop} {au u : Nat} {rest : Int} {v w : Nat} (h : gk_hold au S u rest v) (g : gk_hold au S u rest w) : v = w := by
  unfold gk_hold at h g
  by_cases hS : S
  · simp only [hS, not_true_eq_false, false_and, and_false, true_or, true_and, or_false, false_or] at h g
    omega
  · simp only [hS, not_false_eq_true, false_and, and_false, true_or, true_and, or_false, false_or] at h g
    omega
theorem gk_last_fn {u a v w : Nat} (h : gk_last u a v) (g : gk_last u a w) : v = w := by
  unfold gk_last at h g
  omega
theorem gk_rest_fn {S : Prop} {re : Nat} {rest r s : Int} (h : gk_rest S re rest r) (g : gk_rest S re rest s) : r = s := by
  obtain ⟨l1, h1, h2⟩ := h
  obtain ⟨l2, g1, g2⟩ := g
  have e : l1 = l2 := by
    rcases h1 with ⟨a, rfl⟩ | ⟨a, rfl⟩ <;> rcases g1 with ⟨b, rfl⟩ | ⟨b, rfl⟩ <;> first
      | rfl
      | contradiction
  subst e
  omega
theorem gk_rest_ex (S : Prop) (re : Nat) (rest : Int) : ∃ r, gk_rest S re rest r := by
  obtain ⟨l, hl⟩ : ∃ l : Int, (S ∧ l = rest) ∨ (¬ S ∧ l = rest - 1) := by
    by_cases hS : S
    · exact ⟨_, Or.inl ⟨hS, rfl⟩⟩
    · exact ⟨_, Or.inr ⟨hS, rfl⟩⟩
  by_cases hc : re ≠ 4294967295 ∧ (re : Int) < l
  · exact ⟨_, l, hl, Or.inl ⟨hc.1, hc.2, rfl⟩⟩
  · exact ⟨_, l, hl, Or.inr ⟨hc, rfl⟩⟩
theorem ab_run_fn {As : Nat → ab_T} {P : Nat → Nat} {len : Nat} {T : Int} {a : Nat} : ∀ {n p km ke : Nat} {hn : ps_N} {rest : Int} {r s : Nat}, ab_run As P len T a n p km ke hn rest r → ab_run As P len T a n p km ke hn rest s → r = s
  | 0, _, _, _, _, _, r, s, h, g => by
    have h : r = 0 := h
    have g : s = 0 := g
    rw [h, g]
  | n + 1, p, km, ke, hn, rest, r, s, h, g => by
    obtain ⟨v, w, h1, h2, h3⟩ := h
    obtain ⟨v', w', g1, g2, g3⟩ := g
    have e := gk_any_fn h1 g1
    subst e
    have e2 : w = w' := by
      rcases h2 with ⟨a1, rfl⟩ | ⟨a1, h2⟩ <;> rcases g2 with ⟨b1, rfl⟩ | ⟨b1, g2⟩
      · rfl
      · exact absurd b1 a1
      · exact absurd a1 b1
      · rcases h2 with ⟨a2, h2⟩ | ⟨a2, h2⟩ <;> rcases g2 with ⟨b2, g2⟩ | ⟨b2, g2⟩
        · exact gk_last_fn h2 g2
        · exact absurd a2 b2
        · exact absurd b2 a2
        · exact gk_hold_fn h2 g2
    subst e2
    rcases h3 with ⟨a1, rfl⟩ | ⟨a1, r1, hr1, h3⟩ <;> rcases g3 with ⟨b1, rfl⟩ | ⟨b1, r2, hr2, g3⟩
    · rfl
    · exact absurd b1 a1
    · exact absurd a1 b1
    · have e3 := gk_rest_fn hr1 hr2
      subst e3
      exact ab_run_fn h3 g3
theorem xi_xor (a b : Nat) : nI a ^^^ nI b = nI (a ^^^ b) := by
  apply Int32.toBitVec_inj.mp
  show BitVec.ofNat 32 a ^^^ BitVec.ofNat 32 b = BitVec.ofNat 32 (a ^^^ b)
  rw [BitVec.ofNat_xor]
theorem us_last {u a : Nat} (ha : a < 256) : (nI a &&& (nI u ^^^ nI 4294967295)).toInt = 0 ↔ u &&& a = a := by
  have hle : a &&& (u ^^^ 4294967295) ≤ a := Nat.and_le_left
  rw [xi_xor, xi_and, nI_toInt (by omega)]
  have hb : ∀ i, (4294967295 : Nat).testBit i = decide (i < 32) := fun i => Nat.testBit_two_pow_sub_one 32 i
  have hi : ∀ i, 32 ≤ i → a.testBit i = false := fun i h => Nat.testBit_lt_two_pow (Nat.lt_of_lt_of_le (show a < 2 ^ 32 by omega) (Nat.pow_le_pow_right (by decide) h))
  constructor
  · intro h
    have h0 : a &&& (u ^^^ 4294967295) = 0 := by omega
    apply Nat.eq_of_testBit_eq
    intro i
    have h1 := congrArg (fun x => x.testBit i) h0
    simp only [Nat.testBit_and, Nat.testBit_xor, hb, Nat.zero_testBit] at h1 ⊢
    by_cases h32 : i < 32
    · rw [decide_eq_true h32] at h1
      revert h1
      cases a.testBit i <;> cases u.testBit i <;> simp
    · rw [hi i (by omega)]
      simp
  · intro h
    have h0 : a &&& (u ^^^ 4294967295) = 0 := by
      apply Nat.eq_of_testBit_eq
      intro i
      have h1 := congrArg (fun x => x.testBit i) h
      simp only [Nat.testBit_and, Nat.testBit_xor, hb, Nat.zero_testBit] at h1 ⊢
      by_cases h32 : i < 32
      · rw [decide_eq_true h32]
        revert h1
        cases a.testBit i <;> cases u.testBit i <;> simp
      · rw [hi i (by omega)]
        simp
    omega
theorem ab_us_b {A : ab_T} (h : ab_v A) : ab_us A = 4294967295 ∨ ab_us A < 256 := by
  unfold ab_us ct_u
  cases hu : A.2.1.2.2.2.1 with
  | none => exact Or.inl rfl
  | some u => exact Or.inr (ps_mir_lt u 8)
theorem ab_re_b {A : ab_T} (h : ab_v A) : ab_re A = 4294967295 ∨ ab_re A < 2147483648 := by
  unfold ab_re ct_o
  cases hu : A.2.1.2.2.1 with
  | none => exact Or.inl rfl
  | some u => exact Or.inr (h.2.1.2.2.1 u hu)
theorem ab_au_b (A : ab_T) : ab_au A ≤ 1 := by
  unfold ab_au
  split <;> decide
def md_bl : List Nat := md_al ++ [38, 39, 40, 41, 42]
