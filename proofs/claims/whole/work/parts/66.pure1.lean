/-! what was read is what would be written -/
theorem ps_sl_app {b : Nat → Nat} {i j k : Nat} (h1 : i ≤ j) (h2 : j ≤ k) : ps_sl b i k = ps_sl b i j ++ ps_sl b j k := by
  obtain ⟨n, rfl⟩ : ∃ n, j = i + n := ⟨j - i, by omega⟩
  obtain ⟨m, rfl⟩ : ∃ m, k = i + n + m := ⟨k - (i + n), by omega⟩
  clear h1 h2
  induction m with
  | zero => rw [Nat.add_zero, show ps_sl b (i + n) (i + n) = [] by simp [ps_sl], List.append_nil]
  | succ m ih => rw [ps_sl_succ b (i + n) m, ← List.append_assoc, ← ih, show i + n + (m + 1) = i + (n + m + 1) by omega, ps_sl_succ b i (n + m), show i + (n + m) = i + n + m by omega]
theorem ps_sl_l (b : Nat → Nat) (f g : Nat) : (ps_sl b f g).length = g - f := by simp [ps_sl]
theorem ps_sl_2 (b : Nat → Nat) (i : Nat) : ps_sl b i (i + 2) = [b i, b (i + 1)] := by
  unfold ps_sl
  rw [show i + 2 - i = 2 by omega]
  rfl
theorem ps_sl_3 (b : Nat → Nat) (i : Nat) : ps_sl b i (i + 3) = [b i, b (i + 1), b (i + 2)] := by
  unfold ps_sl
  rw [show i + 3 - i = 3 by omega]
  rfl
theorem ps_sl_1 (b : Nat → Nat) (i : Nat) : ps_sl b i (i + 1) = [b i] := by
  unfold ps_sl
  rw [show i + 1 - i = 1 by omega]
  rfl
theorem ec_hd {b : Nat → Nat} {tag i l f e : Nat} (h : ps_hd b tag i l = some (f, e)) : ps_sl b i e = en_el tag (ps_sl b f e) ∧ i + 2 ≤ f ∧ f ≤ e ∧ e ≤ l := by
  have h2 := ps_hd_some h
  refine ⟨?_, h2.1, h2.2.2.1, h2.2.2.2.1⟩
  unfold en_el en_len
  rw [ps_sl_l]
  unfold ps_hd at h
  split at h
  · rename_i c1
    split at h
    · rename_i c2
      split at h
      · simp only [Option.some.injEq, Prod.mk.injEq] at h
        obtain ⟨rfl, he⟩ := h
        rw [if_pos (by omega), ps_sl_app (j := i + 2) (by omega) (by omega), ps_sl_2, c1.2, show e - (i + 2) = b (i + 1) by omega]
        rfl
      · cases h
    · rename_i c2
      split at h
      · rename_i c3
        split at h
        · simp only [Option.some.injEq, Prod.mk.injEq] at h
          obtain ⟨rfl, he⟩ := h
          rw [if_neg (by omega), ps_sl_app (j := i + 3) (by omega) (by omega), ps_sl_3, c1.2, c3.1, show e - (i + 3) = b (i + 2) by omega]
          rfl
        · cases h
      · cases h
  · cases h
/-- P reads what enc writes, and it is V -/
def ec {α : Type} (b : Nat → Nat) (P : Nat → Nat → Option (α × Nat)) (enc : α → List Nat) (V : α → Prop) : Prop := ∀ i l x j, (∀ k, k < l → b k < 256) → i ≤ l → P i l = some (x, j) → i ≤ j ∧ j ≤ l ∧ ps_sl b i j = enc x ∧ V x
theorem ec_in {α : Type} {b : Nat → Nat} {tag : Nat} {P : Nat → Nat → Option (α × Nat)} {enc : α → List Nat} {V : α → Prop} (h : ec b P enc V) : ec b (pq_in b tag P) (fun x => en_el tag (enc x)) V := by
  intro i l x j hb hil hp
  obtain ⟨h1, h2, -, f, hh, hP⟩ := pq_in_some hp
  obtain ⟨g1, g2, g3, g4⟩ := ec_hd hh
  obtain ⟨k1, k2, k3, k4⟩ := h f j x j (fun k hk => hb k (by omega)) g3 hP
  exact ⟨by omega, h2, by rw [g1, k3], k4⟩
theorem ec_and {α β : Type} {b : Nat → Nat} {P : Nat → Nat → Option (α × Nat)} {Q : Nat → Nat → Option (β × Nat)} {e1 : α → List Nat} {e2 : β → List Nat} {V : α → Prop} {W : β → Prop} (h1 : ec b P e1 V) (h2 : ec b Q e2 W) : ec b (pq_and P Q) (fun z => e1 z.1 ++ e2 z.2) (fun z => V z.1 ∧ W z.2) := by
  intro i l z k hb hil hp
  unfold pq_and at hp
  cases hP : P i l with
  | none => rw [hP] at hp; cases hp
  | some p =>
    obtain ⟨x, j⟩ := p
    rw [hP] at hp
    simp only [] at hp
    obtain ⟨a1, a2, a3, a4⟩ := h1 i l x j hb hil hP
    cases hQ : Q j l with
    | none => rw [hQ] at hp; cases hp
    | some q =>
      obtain ⟨y, k'⟩ := q
      rw [hQ] at hp
      simp only [Option.some.injEq, Prod.mk.injEq] at hp
      obtain ⟨rfl, rfl⟩ := hp
      obtain ⟨b1, b2, b3, b4⟩ := h2 j l y k' hb a2 hQ
      exact ⟨by omega, b2, by rw [ps_sl_app a1 b1, a3, b3], a4, b4⟩
theorem ec_int (b : Nat → Nat) : ec b (ps_int b) en_int (fun v => v < 2147483648) := by
  intro i l v j hb hil h
  unfold ps_int at h
  cases hh : ps_hd b 2 i l with
  | none => rw [hh] at h; cases h
  | some p =>
    obtain ⟨f, e⟩ := p
    rw [hh] at h
    simp only [] at h
    obtain ⟨g1, g2, g3, g4⟩ := ec_hd hh
    by_cases hc : 1 ≤ e - f ∧ e - f ≤ 4 ∧ b f ≤ 127 ∧ ¬ (1 < e - f ∧ b f = 0 ∧ b (f + 1) < 128)
    · rw [if_pos hc] at h
      simp only [Option.some.injEq, Prod.mk.injEq] at h
      obtain ⟨hv, rfl⟩ := h
      have hlt := ps_be_lt2 (b := b) (f := f) (n := e - f) (fun j hj => hb _ (by omega)) hc.1 hc.2.1 hc.2.2.1
      rw [hv] at hlt
      refine ⟨by omega, g4, ?_, hlt⟩
      rw [g1]
      unfold en_int
      congr 1
      have b0 := hb f (by omega)
      rcases (show e = f + 1 ∨ e = f + 2 ∨ e = f + 3 ∨ e = f + 4 by omega) with he | he | he | he
      · rw [he, show f + 1 - f = 1 by omega] at hv
        simp only [ps_be, Nat.add_zero] at hv
        have hn : en_nb v 3 1 = 1 := by
          unfold en_nb
          rw [if_pos (by omega)]
        rw [hn, he, ps_sl_1]
        simp only [en_ib]
        congr 1
        omega
      · rw [he, show f + 2 - f = 2 by omega] at hv hc
        simp only [ps_be, Nat.add_zero] at hv
        have b1 := hb (f + 1) (by omega)
        have hn : en_nb v 3 1 = 2 := by
          unfold en_nb
          rw [if_neg (by omega)]
          unfold en_nb
          rw [if_pos (by omega)]
        rw [hn, he, ps_sl_2]
        simp only [en_ib]
        congr 1
        · omega
        · congr 1
          omega
      · rw [he, show f + 3 - f = 3 by omega] at hv hc
        simp only [ps_be, Nat.add_zero] at hv
        have b1 := hb (f + 1) (by omega)
        have b2 := hb (f + 2) (by omega)
        have hn : en_nb v 3 1 = 3 := by
          unfold en_nb
          rw [if_neg (by omega)]
          unfold en_nb
          rw [if_neg (by omega)]
          unfold en_nb
          rw [if_pos (by omega)]
        rw [hn, he, ps_sl_3]
        simp only [en_ib]
        congr 1
        · omega
        · congr 1
          · omega
          · congr 1
            omega
      · rw [he, show f + 4 - f = 4 by omega] at hv hc
        simp only [ps_be, Nat.add_zero] at hv
        have b1 := hb (f + 1) (by omega)
        have b2 := hb (f + 2) (by omega)
        have b3 := hb (f + 3) (by omega)
        have hn : en_nb v 3 1 = 4 := by
          unfold en_nb
          rw [if_neg (by omega)]
          unfold en_nb
          rw [if_neg (by omega)]
          unfold en_nb
          rw [if_neg (by omega)]
          rfl
        rw [hn, he, ps_sl_app (j := f + 3) (by omega) (by omega), ps_sl_3, ps_sl_1]
        simp only [en_ib, List.cons_append, List.nil_append]
        congr 1
        · omega
        · congr 1
          · omega
          · congr 1
            · omega
            · congr 1
              omega
    · rw [if_neg hc] at h
      cases h
theorem ec_intr (b : Nat → Nat) (lo hi : Nat) : ec b (ps_intr b lo hi) en_int (fun v => v < 2147483648 ∧ lo ≤ v ∧ v ≤ hi) := by
  intro i l v j hb hil h
  unfold ps_intr at h
  cases hp : ps_int b i l with
  | none => rw [hp] at h; cases h
  | some p =>
    obtain ⟨w, k⟩ := p
    rw [hp] at h
    simp only [] at h
    by_cases hc : lo ≤ w ∧ w ≤ hi
    · rw [if_pos hc] at h
      simp only [Option.some.injEq, Prod.mk.injEq] at h
      obtain ⟨rfl, rfl⟩ := h
      obtain ⟨a, b', c, d⟩ := ec_int b i l w k hb hil hp
      exact ⟨a, b', c, d, hc⟩
    · rw [if_neg hc] at h
      cases h
theorem ec_tru (b : Nat → Nat) : ec b (ps_tru b) (fun t => if t = true then en_true else []) (fun _ => True) := by
  intro i l t j hb hil h
  unfold ps_tru at h
  by_cases hc : i < l ∧ b i = 1
  · rw [if_pos hc] at h
    cases hh : ps_hd b 1 i l with
    | none => rw [hh] at h; cases h
    | some p =>
      obtain ⟨f, e⟩ := p
      rw [hh] at h
      simp only [] at h
      obtain ⟨g1, g2, g3, g4⟩ := ec_hd hh
      by_cases hc2 : e = f + 1 ∧ b f = 255
      · rw [if_pos hc2] at h
        simp only [Option.some.injEq, Prod.mk.injEq] at h
        obtain ⟨rfl, rfl⟩ := h
        refine ⟨by omega, g4, ?_, trivial⟩
        rw [g1, hc2.1, ps_sl_1, hc2.2]
        rfl
      · rw [if_neg hc2] at h
        cases h
  · rw [if_neg hc] at h
    simp only [Option.some.injEq, Prod.mk.injEq] at h
    obtain ⟨rfl, rfl⟩ := h
    exact ⟨Nat.le_refl _, hil, by simp [ps_sl], trivial⟩
theorem ec_label (b : Nat → Nat) : ec b (ps_label b) (en_el 19) nv_l := by
  intro i l x j hb hil h
  unfold ps_label at h
  cases hh : ps_hd b 19 i l with
  | none => rw [hh] at h; cases h
  | some p =>
    obtain ⟨f, e⟩ := p
    rw [hh] at h
    simp only [] at h
    obtain ⟨g1, g2, g3, g4⟩ := ec_hd hh
    by_cases hc : 1 ≤ e - f ∧ e - f ≤ 8 ∧ ps_abc (ps_sl b f e) = true
    · rw [if_pos hc] at h
      simp only [Option.some.injEq, Prod.mk.injEq] at h
      obtain ⟨rfl, rfl⟩ := h
      exact ⟨by omega, g4, g1, by rw [ps_sl_l]; exact hc.1, by rw [ps_sl_l]; exact hc.2.1, hc.2.2⟩
    · rw [if_neg hc] at h
      cases h
theorem ec_labels {b : Nat → Nat} {e : Nat} (hb : ∀ k, k < e → b k < 256) : ∀ n i x, i ≤ e → ps_labels b e n i = some x → ps_sl b i e = en_ls x ∧ x.length ≤ n ∧ ∀ l, l ∈ x → nv_l l
  | 0, i, x, hi, h => by
    unfold ps_labels at h
    split at h
    · rename_i hie
      simp only [Option.some.injEq] at h
      subst h
      rw [hie]
      exact ⟨by simp [ps_sl, en_ls], by simp, fun l hl => by cases hl⟩
    · cases h
  | n + 1, i, x, hi, h => by
    unfold ps_labels at h
    split at h
    · rename_i hie
      simp only [Option.some.injEq] at h
      subst h
      rw [hie]
      exact ⟨by simp [ps_sl, en_ls], by simp, fun l hl => by cases hl⟩
    · split at h
      · cases h
      · rename_i y j hy
        obtain ⟨a1, a2, a3, a4⟩ := ec_label b i e y j hb hi hy
        split at h
        · cases h
        · rename_i r hr
          obtain ⟨b1, b2, b3⟩ := ec_labels hb n j r a2 hr
          simp only [Option.some.injEq] at h
          subst h
          refine ⟨by rw [ps_sl_app a1 a2, a3, b1]; rfl, by simp; omega, fun l hl => ?_⟩
          rcases List.mem_cons.mp hl with rfl | hl
          · exact a4
          · exact b3 l hl
theorem ec_name (b : Nat → Nat) : ec b (ps_name b) en_name nv_n := by
  intro i l x j hb hil h
  unfold ps_name at h
  split at h
  · cases h
  · rename_i f e hh
    obtain ⟨g1, g2, g3, g4⟩ := ec_hd hh
    split at h
    · cases h
    · rename_i q hq
      simp only [Option.some.injEq, Prod.mk.injEq] at h
      obtain ⟨rfl, rfl⟩ := h
      obtain ⟨a, b', c⟩ := ec_labels (fun k hk => hb k (by omega)) 4 f q g3 hq
      exact ⟨by omega, g4, by rw [g1, a]; rfl, b', c⟩
theorem ec_names {b : Nat → Nat} {e : Nat} (hb : ∀ k, k < e → b k < 256) : ∀ n i x, i ≤ e → ps_names b e n i = some x → ps_sl b i e = en_ns x ∧ x.length ≤ n ∧ ∀ l, l ∈ x → nv_n l
  | 0, i, x, hi, h => by
    unfold ps_names at h
    split at h
    · rename_i hie
      simp only [Option.some.injEq] at h
      subst h
      rw [hie]
      exact ⟨by simp [ps_sl, en_ns], by simp, fun l hl => by cases hl⟩
    · cases h
  | n + 1, i, x, hi, h => by
    unfold ps_names at h
    split at h
    · rename_i hie
      simp only [Option.some.injEq] at h
      subst h
      rw [hie]
      exact ⟨by simp [ps_sl, en_ns], by simp, fun l hl => by cases hl⟩
    · split at h
      · cases h
      · rename_i y j hy
        obtain ⟨a1, a2, a3, a4⟩ := ec_name b i e y j hb hi hy
        split at h
        · cases h
        · rename_i r hr
          obtain ⟨b1, b2, b3⟩ := ec_names hb n j r a2 hr
          simp only [Option.some.injEq] at h
          subst h
          refine ⟨by rw [ps_sl_app a1 a2, a3, b1]; rfl, by simp; omega, fun l hl => ?_⟩
          rcases List.mem_cons.mp hl with rfl | hl
          · exact a4
          · exact b3 l hl
theorem ec_list (b : Nat → Nat) (tag : Nat) : ec b (fun i l => ps_list b tag i l) (en_list tag) cv_L := by
  intro i l x j hb hil h
  simp only [] at h
  unfold ps_list at h
  split at h
  · split at h
    · cases h
    · rename_i f e hh
      obtain ⟨g1, g2, g3, g4⟩ := ec_hd hh
      split at h
      · cases h
      · rename_i hfe
        split at h
        · cases h
        · rename_i q hq
          simp only [Option.some.injEq, Prod.mk.injEq] at h
          obtain ⟨rfl, rfl⟩ := h
          obtain ⟨a, b', c⟩ := ec_names (fun k hk => hb k (by omega)) 3 f q g3 hq
          refine ⟨by omega, g4, ?_, b', c⟩
          unfold en_list
          rw [if_neg, g1, a]
          intro z
          subst z
          have := ps_sl_l b f e
          rw [a] at this
          simp [en_ns] at this
          omega
  · simp only [Option.some.injEq, Prod.mk.injEq] at h
    obtain ⟨rfl, rfl⟩ := h
    exact ⟨Nat.le_refl _, hil, by simp [ps_sl, en_list], by decide, fun n hn => by cases hn⟩
theorem ec_bnd (b : Nat → Nat) : ec b (ps_bnd b) (fun z => en_list 160 z.1 ++ en_list 161 z.2) (fun z => cv_L z.1 ∧ cv_L z.2) := by
  intro i l x j hb hil h
  unfold ps_bnd at h
  split at h
  · cases h
  · rename_i p x' j' hp
    have := ec_and (ec_list b 160) (ec_list b 161) i l (p, x') j' hb hil hp
    split at h
    · cases h
    · simp only [Option.some.injEq, Prod.mk.injEq] at h
      obtain ⟨rfl, rfl⟩ := h
      exact this
theorem ec_bounds (b : Nat → Nat) : ec b (ps_bounds b) (fun z => en_bounds z.1 z.2) (fun z => cv_L z.1 ∧ cv_L z.2) := ec_in (ec_bnd b)
theorem ec_bit (b : Nat → Nat) : ec b (ps_bit b) (fun u => if u = 0 then [0] else [ps_tz u 8 0] ++ [u]) (fun u => u < 256) := by
  intro i l x j hb hil h
  unfold ps_bit at h
  split at h
  · split at h
    · split at h
      · rename_i h1 h2 h3
        simp only [Option.some.injEq, Prod.mk.injEq] at h
        obtain ⟨rfl, rfl⟩ := h
        refine ⟨by omega, by omega, ?_, hb _ h2⟩
        simp only []
        rw [if_neg h3.1, ps_sl_2, ← h3.2]
        rfl
      · cases h
    · split at h
      · rename_i h1 h2 h3
        simp only [Option.some.injEq, Prod.mk.injEq] at h
        obtain ⟨rfl, rfl⟩ := h
        exact ⟨by omega, by omega, by rw [ps_sl_1, h3]; rfl, by decide⟩
      · cases h
  · cases h
theorem ec_bits (b : Nat → Nat) : ec b (ps_bits b) en_bits (fun u => u < 256) := ec_in (ec_bit b)
theorem ec_bas (b : Nat → Nat) : ec b (ps_bas b) (fun z => (if z.1 = true then en_true else []) ++ en_oi z.2) (fun z => ∀ v, z.2 = some v → v < 2147483648) := by
  intro i l z j hb hil h
  unfold ps_bas at h
  split at h
  · cases h
  · rename_i t k hk
    obtain ⟨a1, a2, a3, -⟩ := ec_tru b i l t k hb hil hk
    split at h
    · split at h
      · cases h
      · rename_i v k2 hv
        obtain ⟨b1, b2, b3, b4⟩ := ec_intr b 0 2147483647 k l v k2 hb a2 hv
        simp only [Option.some.injEq, Prod.mk.injEq] at h
        obtain ⟨rfl, rfl⟩ := h
        refine ⟨by omega, b2, by rw [ps_sl_app a1 b1, a3, b3]; rfl, fun w hw => ?_⟩
        simp only [Option.some.injEq] at hw
        omega
    · simp only [Option.some.injEq, Prod.mk.injEq] at h
      obtain ⟨rfl, rfl⟩ := h
      refine ⟨a1, a2, by rw [a3]; simp [en_oi], fun w hw => by cases hw⟩
theorem ec_basic (b : Nat → Nat) : ec b (ps_basic b) (fun z => en_basic z.1 z.2) (fun z => ∀ v, z.2 = some v → v < 2147483648) := ec_in (ec_bas b)
