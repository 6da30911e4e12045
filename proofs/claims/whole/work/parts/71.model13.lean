/-! the reference: some, passes, signedByKey, takeKey -/
def ab_any (L : List ps_N) (x : ps_N) : Prop := ∃ y, y ∈ L ∧ y <+: x
theorem ab_any_app (L : List ps_N) (y x : ps_N) : ab_any (L ++ [y]) x ↔ (ab_any L x ∨ y <+: x) := by
  unfold ab_any
  constructor
  · rintro ⟨z, hz, h⟩
    rcases List.mem_append.mp hz with hz | hz
    · exact Or.inl ⟨z, hz, h⟩
    · simp only [List.mem_singleton] at hz
      subst hz
      exact Or.inr h
  · rintro (⟨z, hz, h⟩ | h)
    · exact ⟨z, List.mem_append_left _ hz, h⟩
    · exact ⟨y, by simp, h⟩
theorem ab_any0 (x : ps_N) : ¬ ab_any [] x := fun ⟨_, h, _⟩ => by cases h
def ab_al (A : ab_T) (x : ps_N) : Prop := (A.2.1.2.2.2.2.1 = [] ∨ ab_any A.2.1.2.2.2.2.1 x) ∧ ¬ ab_any A.2.1.2.2.2.2.2 x
theorem mz_end {b : Nat → Nat} {e n : Nat} {L : List ps_N} (h : ps_names b e n e = some L) : L = [] := by
  cases n <;> simp [ps_names] at h <;> exact h
theorem mz_cons {b : Nat → Nat} {e n i : Nat} {L : List ps_N} (hi : i < e) (h : ps_names b e n i = some L) : ∃ m y L2 f j, L = y :: L2 ∧ ps_hd b 48 i e = some (f, j) ∧ ps_labels b j 4 f = some y ∧ ps_names b e m j = some L2 ∧ i < j ∧ f ≤ j ∧ j ≤ e := by
  cases n with
  | zero =>
    unfold ps_names at h
    rw [if_neg (by omega)] at h
    cases h
  | succ m =>
    unfold ps_names at h
    rw [if_neg (by omega)] at h
    split at h
    · cases h
    · rename_i y j hy
      split at h
      · cases h
      · rename_i L2 hL
        simp only [Option.some.injEq] at h
        unfold ps_name at hy
        split at hy
        · cases hy
        · rename_i f g hh
          split at hy
          · cases hy
          · rename_i q hq
            simp only [Option.some.injEq, Prod.mk.injEq] at hy
            obtain ⟨rfl, rfl⟩ := hy
            have := ps_hd_some hh
            exact ⟨m, q, L2, f, g, h.symm, hh, hq, hL, by omega, by omega, by omega⟩
theorem md_fch {b : Nat → Nat} {M1 : xm_M} {As : Nat → ab_T} {r : Int32} {c n : Nat} (hc : c < n) (hn : n ≤ 8) (h : (¬ (0 ≤ (nI c).toInt ∧ (nI c).toInt < (n : Nat)) ∧ r = nI 0) ∨ ∃ a, nI c = nI a ∧ a < n ∧ r = nI 1 ∧ md_A b M1 (As a)) : r = nI 1 ∧ md_A b M1 (As c) := by
  have e1 : (nI c).toInt = (c : Int) := nI_toInt (by omega)
  rcases h with ⟨h, -⟩ | ⟨a, h, ha, hr, hA⟩
  · exact absurd ⟨by omega, by omega⟩ h
  · have e2 : (nI a).toInt = (a : Int) := nI_toInt (by omega)
    rw [← h, e1] at e2
    have : c = a := by omega
    rw [this]
    exact ⟨hr, hA⟩
theorem sg_step (s k m : Nat) : s ^ k % m * s % m = s ^ (k + 1) % m := by
  rw [Nat.pow_succ, Nat.mul_mod, Nat.mod_mod, ← Nat.mul_mod]

set_option maxRecDepth 100000 in
set_option maxHeartbeats 4000000 in
theorem ct_MD_some (ln : Launch) (Y : xw_Y) (M : xm_M) (a b c d : Nat) (x : ps_N) (L : List ps_N) (hab : a ≤ b) (hcd : c ≤ d) (hb : b ≤ 1440) (hd : d ≤ 1440) (hby : ∀ j, j < 1440 → M 278 j < 256) (hx : ps_labels (M 278) b 4 a = some x) (hL : ps_names (M 278) d 3 c = some L) : xc_i ln qm_MD_some 2 Y [.ref (Y.2.2.2 277), .int (nI a), .int (nI b), .int (nI c), .int (nI d)] M (fun r M1 => md_X [6, 7] M M1 ∧ ∃ t : Nat, r = nI t ∧ t < 2 ∧ (t = 1 ↔ ab_any L x)) := by
  refine xc_i.mk .boolean rfl (by decide) (Nat.le_of_ble_eq_true rfl) ?_
  intro X hXl hX hR
  subst hXl
  have hX : xv_ok X Y prog_9_method_36_code "CertificatePathModel" 7 (xc_rm 2) := hX
  show xv_V X Y 7 0 0 xw_lk xw_N M 0 [(0, .ref (Y.2.2.2 277)), (1, .int (nI a)), (2, .int (nI b)), (3, .int (nI c)), (4, .int (nI d))] []
  refine xv_iconst hX (v := nI 0) dc_MD_some_0 (by decide) (rfl : _ = 1) ?_
  refine xv_istore hX [1, 2, 3, 4, 5, 0] dc_MD_some_1 (by decide) (L' := [(0, .ref (Y.2.2.2 277)), (1, .int (nI a)), (2, .int (nI b)), (3, .int (nI c)), (4, .int (nI d)), (5, .int (nI 0))]) rfl (rfl : _ = 3) ?_
  refine xv_aload_n hX 0 dc_MD_some_3 rfl (rfl : _ = 4) ?_
  refine xv_iload_n hX 3 dc_MD_some_4 rfl (rfl : _ = 5) ?_
  refine xv_puti hX fl_MD_38 rfl rfl (by decide) dc_MD_some_5 (rfl : _ = 8) ?_
  refine xv_aload_n hX 0 dc_MD_some_8 rfl (rfl : _ = 9) ?_
  refine xv_iconst hX (v := nI 0) dc_MD_some_9 (by decide) (rfl : _ = 10) ?_
  refine xv_putz hX fl_MD_34 rfl rfl (by decide) (by decide) dc_MD_some_10 (rfl : _ = 13) ?_
  have lp13 : ∀ (fu13 : Nat) (Mk : xm_M) (s : Nat) (n : Nat) (pre : List ps_N) (L2 : List ps_N) (hF : md_X [6, 7] M Mk) (h7 : Mk 277 7 = 0) (h6 : Mk 277 6 ≤ d) (hN : ps_names (M 278) d n (Mk 277 6) = some L2) (hP : pre ++ L2 = L) (hs2 : s < 2) (hs : s = 1 ↔ ab_any pre x), d - Mk 277 6 < fu13 → xv_V X Y 7 0 0 xw_lk xw_N Mk 13 [(0, .ref (Y.2.2.2 277)), (1, .int (nI a)), (2, .int (nI b)), (3, .int (nI c)), (4, .int (nI d)), (5, .int (nI s))] [] := by
    intro n13
    induction n13 with
    | zero => intro Mk s n pre L2 hF h7 h6 hN hP hs2 hs hm13; exact absurd hm13 (Nat.not_lt_zero _)
    | succ n13 ih13 =>
      intro Mk s n pre L2 hF h7 h6 hN hP hs2 hs hm13
      refine xv_aload_n hX 0 dc_MD_some_13 rfl (rfl : _ = 14) ?_
      refine xv_geti hX fl_MD_38 rfl rfl (by decide) (v := Mk 277 6) rfl dc_MD_some_14 (rfl : _ = 17) ?_
      refine xv_iload hX 4 dc_MD_some_17 rfl (rfl : _ = 19) ?_
      refine xv_icmp_ge hX (nI_toInt (by omega)) (nI_toInt (by omega)) (tgt := 75) (pq := 22) dc_MD_some_19 (by decide) rfl (fun c19 => ?_) (fun c19 => ?_)
      · skip
        refine xv_iload hX 5 dc_MD_some_75 rfl (rfl : _ = 77) ?_
        refine xv_reti hX hR (xi_z (by omega)) dc_MD_some_77 ?_
        refine ⟨hF, s, rfl, hs2, ?_⟩
        rw [show Mk 277 6 = d by omega] at hN
        rw [mz_end hN, List.append_nil] at hP
        rw [← hP]
        exact hs
      · skip
        refine xv_aload_n hX 0 dc_MD_some_22 rfl (rfl : _ = 23) ?_
        refine xv_geti hX fl_MD_34 rfl rfl (by decide) (v := Mk 277 7) rfl dc_MD_some_23 (rfl : _ = 26) ?_
        refine xv_if_ne hX (nI_toInt (by omega)) (tgt := 75) (pq := 29) dc_MD_some_26 (by decide) rfl (fun c26 => ?_) (fun c26 => ?_)
        · exact absurd c26 (by omega)
        · skip
          refine xv_aload_n hX 0 dc_MD_some_29 rfl (rfl : _ = 30) ?_
          refine xv_bipush hX (v := nI 48) dc_MD_some_30 (by decide) (rfl : _ = 32) ?_
          refine xv_iload hX 4 dc_MD_some_32 rfl (rfl : _ = 34) ?_
          have bk : Mk 278 = M 278 := hF.1 278 (by decide)
          have hIk : md_I Mk := ⟨by omega, by omega, by rw [bk]; exact hby⟩
          obtain ⟨m, y, L3, f, j, kL, khd, klab, kN, kij, kfj, kjd⟩ := mz_cons (show Mk 277 6 < d by omega) hN
          refine xv_calli hX (As := [.int (nI 48), .int (nI d)]) (rest := []) (ct_MD_enter _ Y Mk 48 d hIk hd (by decide)) ml_MD_45 li_MD_enter rfl (by decide) rfl rfl rfl (by decide) ⟨by decide, by decide⟩ ⟨Nat.le_refl _, Nat.le_refl _⟩ (Nat.le_of_ble_eq_true rfl) dc_MD_some_34 (rfl : _ = 37) (fun r34 M34 p34 => ?_)
          obtain ⟨i34, f34, h34⟩ := p34
          rw [md_s0 h7, bk] at h34
          obtain ⟨hr34, hs34⟩ : r34 = nI j ∧ md_s M34 = some f := by
            rcases h34 with ⟨-, h, -⟩ | ⟨f2, e2, h, g1, g2⟩
            · have h2 : ps_hd (M 278) 48 (Mk 277 6) d = none := h
              rw [khd] at h2; cases h2
            · have h2 : ps_hd (M 278) 48 (Mk 277 6) d = some (f2, e2) := h
              rw [khd] at h2
              cases h2
              exact ⟨g2, g1⟩
          clear h34
          rw [hr34]
          obtain ⟨g7, g6⟩ := md_g hs34
          refine xv_istore hX [1, 2, 3, 4, 5, 6, 0] dc_MD_some_37 (by decide) (L' := [(0, .ref (Y.2.2.2 277)), (1, .int (nI a)), (2, .int (nI b)), (3, .int (nI c)), (4, .int (nI d)), (5, .int (nI s)), (6, .int (nI j))]) rfl (rfl : _ = 39) ?_
          refine xv_iload hX 5 dc_MD_some_39 rfl (rfl : _ = 41) ?_
          refine xv_if_ne hX (nI_toInt (by omega)) (tgt := 59) (pq := 44) dc_MD_some_41 (by decide) rfl (fun c41 => ?_) (fun c41 => ?_)
          · skip
            refine xv_iconst hX (v := nI 1) dc_MD_some_59 (by decide) (rfl : _ = 60) ?_
            refine xv_goto hX (pq := 64) dc_MD_some_60 (by decide) ?_
            refine xv_istore hX [1, 2, 3, 4, 5, 0, 6] dc_MD_some_64 (by decide) (L' := [(0, .ref (Y.2.2.2 277)), (1, .int (nI a)), (2, .int (nI b)), (3, .int (nI c)), (4, .int (nI d)), (5, .int (nI 1)), (6, .int (nI j))]) rfl (rfl : _ = 66) ?_
            refine xv_aload_n hX 0 dc_MD_some_66 rfl (rfl : _ = 67) ?_
            refine xv_iload hX 6 dc_MD_some_67 rfl (rfl : _ = 69) ?_
            refine xv_puti hX fl_MD_38 rfl rfl (by decide) dc_MD_some_69 (rfl : _ = 72) ?_
            refine xv_goto hX (pq := 13) dc_MD_some_72 (by decide) ?_
            refine xv_sub (L' := [(0, .ref (Y.2.2.2 277)), (1, .int (nI a)), (2, .int (nI b)), (3, .int (nI c)), (4, .int (nI d)), (5, .int (nI 1))]) [0, 1, 2, 3, 4, 5] rfl ?_
            exact ih13 (xm_set M34 277 6 j) 1 m (pre ++ [y]) L3 (hF.tt (md_X.tt (f34.x.up (by decide)) ((md_X.set M34 6 j).up (by decide)))) (by rw [xm_nk (by decide)]; exact g7) (by rw [xm_eq]; omega) (by rw [xm_eq]; exact kN) (by rw [← hP, kL]; simp) (by decide) (by rw [ab_any_app]; exact ⟨fun _ => Or.inl (hs.mp (by omega)), fun _ => rfl⟩) (by rw [xm_eq]; omega)
          · skip
            refine xv_aload_n hX 0 dc_MD_some_44 rfl (rfl : _ = 45) ?_
            refine xv_iload_n hX 1 dc_MD_some_45 rfl (rfl : _ = 46) ?_
            refine xv_iload_n hX 2 dc_MD_some_46 rfl (rfl : _ = 47) ?_
            refine xv_aload_n hX 0 dc_MD_some_47 rfl (rfl : _ = 48) ?_
            refine xv_geti hX fl_MD_38 rfl rfl (by decide) (v := f) g6 dc_MD_some_48 (rfl : _ = 51) ?_
            refine xv_iload hX 6 dc_MD_some_51 rfl (rfl : _ = 53) ?_
            refine xv_calli hX (As := [.int (nI a), .int (nI b), .int (nI f), .int (nI j)]) (rest := []) (ct_MD_inside _ Y M34 a b f j (by omega) (by omega) (by omega) (by omega) i34.2.2) ml_MD_186 li_MD_inside rfl (by decide) rfl rfl rfl (by decide) ⟨by decide, by decide⟩ ⟨Nat.le_refl _, Nat.le_refl _⟩ (Nat.le_of_ble_eq_true rfl) dc_MD_some_53 (rfl : _ = 56) (fun r53 M53 p53 => ?_)
            obtain ⟨pM, t, pr, pt, pi⟩ := p53
            rw [pM, pr]
            have hin : t = 1 ↔ y <+: x := by rw [pi, f34.1 278 (by decide), bk]; exact nw_pre 4 4 hab kfj hx klab
            refine xv_if_eq hX (nI_toInt (by omega)) (tgt := 63) (pq := 59) dc_MD_some_56 (by decide) rfl (fun c56 => ?_) (fun c56 => ?_)
            · skip
              refine xv_iconst hX (v := nI 0) dc_MD_some_63 (by decide) (rfl : _ = 64) ?_
              refine xv_istore hX [1, 2, 3, 4, 5, 0, 6] dc_MD_some_64 (by decide) (L' := [(0, .ref (Y.2.2.2 277)), (1, .int (nI a)), (2, .int (nI b)), (3, .int (nI c)), (4, .int (nI d)), (5, .int (nI 0)), (6, .int (nI j))]) rfl (rfl : _ = 66) ?_
              refine xv_aload_n hX 0 dc_MD_some_66 rfl (rfl : _ = 67) ?_
              refine xv_iload hX 6 dc_MD_some_67 rfl (rfl : _ = 69) ?_
              refine xv_puti hX fl_MD_38 rfl rfl (by decide) dc_MD_some_69 (rfl : _ = 72) ?_
              refine xv_goto hX (pq := 13) dc_MD_some_72 (by decide) ?_
              refine xv_sub (L' := [(0, .ref (Y.2.2.2 277)), (1, .int (nI a)), (2, .int (nI b)), (3, .int (nI c)), (4, .int (nI d)), (5, .int (nI 0))]) [0, 1, 2, 3, 4, 5] rfl ?_
              exact ih13 (xm_set M34 277 6 j) 0 m (pre ++ [y]) L3 (hF.tt (md_X.tt (f34.x.up (by decide)) ((md_X.set M34 6 j).up (by decide)))) (by rw [xm_nk (by decide)]; exact g7) (by rw [xm_eq]; omega) (by rw [xm_eq]; exact kN) (by rw [← hP, kL]; simp) (by decide) (by rw [ab_any_app]; exact ⟨fun z => absurd z (by decide), fun z => absurd z (fun z => by rcases z with z | z; (have := hs.mpr z; omega); (have := hin.mpr z; omega))⟩) (by rw [xm_eq]; omega)
            · skip
              refine xv_iconst hX (v := nI 1) dc_MD_some_59 (by decide) (rfl : _ = 60) ?_
              refine xv_goto hX (pq := 64) dc_MD_some_60 (by decide) ?_
              refine xv_istore hX [1, 2, 3, 4, 5, 0, 6] dc_MD_some_64 (by decide) (L' := [(0, .ref (Y.2.2.2 277)), (1, .int (nI a)), (2, .int (nI b)), (3, .int (nI c)), (4, .int (nI d)), (5, .int (nI 1)), (6, .int (nI j))]) rfl (rfl : _ = 66) ?_
              refine xv_aload_n hX 0 dc_MD_some_66 rfl (rfl : _ = 67) ?_
              refine xv_iload hX 6 dc_MD_some_67 rfl (rfl : _ = 69) ?_
              refine xv_puti hX fl_MD_38 rfl rfl (by decide) dc_MD_some_69 (rfl : _ = 72) ?_
              refine xv_goto hX (pq := 13) dc_MD_some_72 (by decide) ?_
              refine xv_sub (L' := [(0, .ref (Y.2.2.2 277)), (1, .int (nI a)), (2, .int (nI b)), (3, .int (nI c)), (4, .int (nI d)), (5, .int (nI 1))]) [0, 1, 2, 3, 4, 5] rfl ?_
              exact ih13 (xm_set M34 277 6 j) 1 m (pre ++ [y]) L3 (hF.tt (md_X.tt (f34.x.up (by decide)) ((md_X.set M34 6 j).up (by decide)))) (by rw [xm_nk (by decide)]; exact g7) (by rw [xm_eq]; omega) (by rw [xm_eq]; exact kN) (by rw [← hP, kL]; simp) (by decide) (by rw [ab_any_app]; exact ⟨fun _ => Or.inr (hin.mp (by omega)), fun _ => rfl⟩) (by rw [xm_eq]; omega)
  refine xv_sub (L' := [(0, .ref (Y.2.2.2 277)), (1, .int (nI a)), (2, .int (nI b)), (3, .int (nI c)), (4, .int (nI d)), (5, .int (nI 0))]) [0, 1, 2, 3, 4, 5] rfl ?_
  exact lp13 _ (xm_set (xm_set M 277 6 c) 277 7 0) 0 3 [] L (md_X.tt ((md_X.set M 6 c).up (by decide)) ((md_X.set (xm_set M 277 6 c) 7 0).up (by decide))) xm_eq (by rw [xm_nk (by decide), xm_eq]; exact hcd) (by rw [xm_nk (by decide), xm_eq]; exact hL) rfl (by decide) ⟨fun z => absurd z (by decide), fun z => absurd z (ab_any0 x)⟩ (Nat.lt_succ_self _)

set_option maxRecDepth 100000 in
set_option maxHeartbeats 4000000 in
theorem ct_MD_passes (ln : Launch) (Y : xw_Y) (M : xm_M) (p a b : Nat) (x : ps_N) (As : Nat → ab_T) (hG : md_G M As) (hp6 : p ≤ 6) (hpa : ∀ q, q < p → M 280 q < M 277 2) (hab : a ≤ b) (hb : b ≤ 1440) (hx : ps_labels (M 278) b 4 a = some x) : xc_i ln qm_MD_passes 10 Y [.ref (Y.2.2.2 277), .int (nI p), .int (nI a), .int (nI b)] M (fun r M1 => md_Y md_al M M1 ∧ ∃ t : Nat, r = nI t ∧ t < 2 ∧ (t = 1 ↔ ∀ q, q < p → ab_al (As (M 280 q)) x)) := by
  refine xc_i.mk .boolean rfl (by decide) (Nat.le_of_ble_eq_true rfl) ?_
  intro X hXl hX hR
  subst hXl
  have hX : xv_ok X Y prog_9_method_37_code "CertificatePathModel" 6 (xc_rm 10) := hX
  show xv_V X Y 6 0 0 xw_lk xw_N M 0 [(0, .ref (Y.2.2.2 277)), (1, .int (nI p)), (2, .int (nI a)), (3, .int (nI b))] []
  obtain ⟨hk8, hby, hkp⟩ := id hG
  refine xv_iconst hX (v := nI 1) dc_MD_passes_0 (by decide) (rfl : _ = 1) ?_
  refine xv_istore hX [1, 2, 3, 4, 0] dc_MD_passes_1 (by decide) (L' := [(0, .ref (Y.2.2.2 277)), (1, .int (nI p)), (2, .int (nI a)), (3, .int (nI b)), (4, .int (nI 1))]) rfl (rfl : _ = 3) ?_
  refine xv_iconst hX (v := nI 0) dc_MD_passes_3 (by decide) (rfl : _ = 4) ?_
  refine xv_istore hX [1, 2, 3, 4, 5, 0] dc_MD_passes_4 (by decide) (L' := [(0, .ref (Y.2.2.2 277)), (1, .int (nI p)), (2, .int (nI a)), (3, .int (nI b)), (4, .int (nI 1)), (5, .int (nI 0))]) rfl (rfl : _ = 6) ?_
  have lp6 : ∀ (fu6 : Nat) (Mk : xm_M) (q : Nat) (g : Nat) (hF : md_Y md_al M Mk) (hq : q ≤ p) (hg2 : g < 2) (hg : (g = 1 ∧ ∀ j, j < q → ab_al (As (M 280 j)) x) ∨ (g = 0 ∧ ¬ ∀ j, j < p → ab_al (As (M 280 j)) x)), p - q < fu6 → xv_V X Y 6 0 0 xw_lk xw_N Mk 6 [(0, .ref (Y.2.2.2 277)), (1, .int (nI p)), (2, .int (nI a)), (3, .int (nI b)), (4, .int (nI g)), (5, .int (nI q))] [] := by
    intro n6
    induction n6 with
    | zero => intro Mk q g hF hq hg2 hg hm6; exact absurd hm6 (Nat.not_lt_zero _)
    | succ n6 ih6 =>
      intro Mk q g hF hq hg2 hg hm6
      refine xv_iload hX 5 dc_MD_passes_6 rfl (rfl : _ = 8) ?_
      refine xv_iload_n hX 1 dc_MD_passes_8 rfl (rfl : _ = 9) ?_
      refine xv_icmp_ge hX (nI_toInt (by omega)) (nI_toInt (by omega)) (tgt := 100) (pq := 12) dc_MD_passes_9 (by decide) rfl (fun c9 => ?_) (fun c9 => ?_)
      · skip
        refine xv_iload hX 4 dc_MD_passes_100 rfl (rfl : _ = 102) ?_
        refine xv_reti hX hR (xi_z (by omega)) dc_MD_passes_102 ?_
        refine ⟨hF, g, rfl, hg2, fun z => ?_, fun z => ?_⟩
        · rcases hg with ⟨-, h⟩ | ⟨h, -⟩
          · exact fun j hj => h j (by omega)
          · omega
        · rcases hg with ⟨h, -⟩ | ⟨-, h⟩
          · exact h
          · exact absurd z h
      · skip
        refine xv_iload hX 4 dc_MD_passes_12 rfl (rfl : _ = 14) ?_
        refine xv_if_eq hX (nI_toInt (by omega)) (tgt := 100) (pq := 17) dc_MD_passes_14 (by decide) rfl (fun c14 => ?_) (fun c14 => ?_)
        · skip
          refine xv_iload hX 4 dc_MD_passes_100 rfl (rfl : _ = 102) ?_
          refine xv_reti hX hR (xi_z (by omega)) dc_MD_passes_102 ?_
          refine ⟨hF, g, rfl, hg2, fun z => ?_, fun z => ?_⟩
          · rcases hg with ⟨-, h⟩ | ⟨h, -⟩
            · exact fun j hj => h j (by omega)
            · omega
          · rcases hg with ⟨h, -⟩ | ⟨-, h⟩
            · exact h
            · exact absurd z h
        · skip
          refine xv_aload_n hX 0 dc_MD_passes_17 rfl (rfl : _ = 18) ?_
          have bk : Mk 278 = M 278 := hF.1 278 (by decide) (by decide)
          have b280 : Mk 280 q = M 280 q := by rw [hF.1 280 (by decide) (by decide)]
          have s2k : Mk 277 2 = M 277 2 := hF.2 2 (by decide)
          have hpq := hpa q (by omega)
          refine xv_aload_n hX 0 dc_MD_passes_18 rfl (rfl : _ = 19) ?_
          refine xv_getr hX fl_MD_16 rfl rfl (by decide) rfl dc_MD_passes_19 (rfl : _ = 22) ?_
          refine xv_iload hX 5 dc_MD_passes_22 rfl (rfl : _ = 24) ?_
          refine xv_iald hX rfl (by decide) (by omega) (by decide) (v := M 280 q) b280 dc_MD_passes_24 (rfl : _ = 25) ?_
          refine xv_calli hX (As := [.int (nI (M 280 q))]) (rest := []) (ct_MD_fetch _ Y Mk (nI (M 280 q)) As (hG.y hF)) ml_MD_183 li_MD_fetch rfl (by decide) rfl rfl rfl (by decide) ⟨by decide, by decide⟩ ⟨Nat.le_refl _, Nat.le_refl _⟩ (Nat.le_of_ble_eq_true rfl) dc_MD_passes_25 (rfl : _ = 28) (fun r25 M25 p25 => ?_)
          obtain ⟨f25, h25⟩ := p25
          rw [s2k, bk] at h25
          obtain ⟨hr25, hA⟩ := md_fch hpq hk8 h25
          clear h25
          rw [hr25]
          obtain ⟨-, hE, -⟩ := hA
          have hV := hG.v hpq
          have lpp := hE.2.1.2.2.2.2.2.1
          have lxx := hE.2.1.2.2.2.2.2.2
          have lp := lpp.1
          have lx := lxx.1
          have lp3 := hV.2.1.2.2.2.2.1.1
          have lx3 := hV.2.1.2.2.2.2.2.1
          refine xv_istore hX [1, 2, 3, 4, 0, 5] dc_MD_passes_28 (by decide) (L' := [(0, .ref (Y.2.2.2 277)), (1, .int (nI p)), (2, .int (nI a)), (3, .int (nI b)), (4, .int (nI 1)), (5, .int (nI q))]) rfl (rfl : _ = 30) ?_
          refine xv_iload hX 4 dc_MD_passes_30 rfl (rfl : _ = 32) ?_
          refine xv_if_eq hX (show (nI 1).toInt = 1 by decide) (tgt := 58) (pq := 35) dc_MD_passes_32 (by decide) rfl (fun c32 => ?_) (fun c32 => ?_)
          · exact absurd c32 (by decide)
          · skip
            refine xv_aload_n hX 0 dc_MD_passes_35 rfl (rfl : _ = 36) ?_
            refine xv_geti hX fl_MD_90 rfl rfl (by decide) (v := M25 277 32) rfl dc_MD_passes_36 (rfl : _ = 39) ?_
            refine xv_if_le hX (nI_toInt (by omega)) (tgt := 58) (pq := 42) dc_MD_passes_39 (by decide) rfl (fun c39 => ?_) (fun c39 => ?_)
            · skip
              refine xv_iload hX 4 dc_MD_passes_58 rfl (rfl : _ = 60) ?_
              refine xv_if_eq hX (show (nI 1).toInt = 1 by decide) (tgt := 94) (pq := 63) dc_MD_passes_60 (by decide) rfl (fun c60 => ?_) (fun c60 => ?_)
              · skip
                exact absurd c60 (by decide)
              · skip
                refine xv_aload_n hX 0 dc_MD_passes_63 rfl (rfl : _ = 64) ?_
                refine xv_geti hX fl_MD_99 rfl rfl (by decide) (v := M25 277 35) rfl dc_MD_passes_64 (rfl : _ = 67) ?_
                refine xv_if_le hX (nI_toInt (by omega)) (tgt := 94) (pq := 70) dc_MD_passes_67 (by decide) rfl (fun c67 => ?_) (fun c67 => ?_)
                · skip
                  refine xv_iinc hX 5 [1, 2, 3, 4, 5, 0] dc_MD_passes_94 rfl (xi_inc q 1) (by decide) (L' := [(0, .ref (Y.2.2.2 277)), (1, .int (nI p)), (2, .int (nI a)), (3, .int (nI b)), (4, .int (nI 1)), (5, .int (nI (q + 1)))]) rfl (rfl : _ = 97) ?_
                  refine xv_goto hX (pq := 6) dc_MD_passes_97 (by decide) ?_
                  refine xv_sub (L' := [(0, .ref (Y.2.2.2 277)), (1, .int (nI p)), (2, .int (nI a)), (3, .int (nI b)), (4, .int (nI 1)), (5, .int (nI (q + 1)))]) [0, 1, 2, 3, 4, 5] rfl ?_
                  exact ih6 M25 (q + 1) 1 (hF.tt (f25)) (by omega) (by omega) (Or.inl ⟨by omega, fun j hj => by by_cases e : j = q; (rw [e]; exact ⟨Or.inl (List.length_eq_zero_iff.mp (by omega)), (by rw [List.length_eq_zero_iff.mp (show (As (M 280 q)).2.1.2.2.2.2.2.length = 0 by omega)]; exact ab_any0 x)⟩); (rcases hg with ⟨-, h⟩ | ⟨h, -⟩; exact h j (by omega); omega)⟩) (by omega)
                · skip
                  refine xv_aload_n hX 0 dc_MD_passes_70 rfl (rfl : _ = 71) ?_
                  refine xv_iload_n hX 2 dc_MD_passes_71 rfl (rfl : _ = 72) ?_
                  refine xv_iload_n hX 3 dc_MD_passes_72 rfl (rfl : _ = 73) ?_
                  refine xv_aload_n hX 0 dc_MD_passes_73 rfl (rfl : _ = 74) ?_
                  refine xv_geti hX fl_MD_96 rfl rfl (by decide) (v := M25 277 36) rfl dc_MD_passes_74 (rfl : _ = 77) ?_
                  refine xv_aload_n hX 0 dc_MD_passes_77 rfl (rfl : _ = 78) ?_
                  refine xv_geti hX fl_MD_102 rfl rfl (by decide) (v := M25 277 37) rfl dc_MD_passes_78 (rfl : _ = 81) ?_
                  have b81 : M25 278 = M 278 := (f25.1 278 (by decide) (by decide)).trans bk
                  have hz33 : M25 277 36 = M25 277 36 := rfl
                  have hz34 : M25 277 37 = M25 277 37 := rfl
                  obtain ⟨hN81, hcd81, hd81⟩ : ps_names (M 278) (M25 277 37) 3 (M25 277 36) = some (As (M 280 q)).2.1.2.2.2.2.2 ∧ M25 277 36 ≤ M25 277 37 ∧ M25 277 37 ≤ 1440 := by rw [hz33, hz34]; exact lxx.2 (fun z => by have e9 := lxx.1; rw [z] at e9; simp at e9; omega)
                  refine xv_calli hX (As := [.int (nI a), .int (nI b), .int (nI (M25 277 36)), .int (nI (M25 277 37))]) (rest := []) (ct_MD_some _ Y M25 a b (M25 277 36) (M25 277 37) x (As (M 280 q)).2.1.2.2.2.2.2 hab hcd81 hb hd81 (by rw [b81]; exact hby) (by rw [b81]; exact hx) (by rw [b81]; exact hN81)) ml_MD_193 li_MD_some rfl (by decide) rfl rfl rfl (by decide) ⟨by decide, by decide⟩ ⟨Nat.le_refl _, Nat.le_refl _⟩ (Nat.le_of_ble_eq_true rfl) dc_MD_passes_81 (rfl : _ = 84) (fun r81 M81 p81 => ?_)
                  obtain ⟨f81, t81, pr81, pt81, q81⟩ := p81
                  rw [pr81]
                  refine xv_if_ne hX (nI_toInt (by omega)) (tgt := 91) (pq := 87) dc_MD_passes_84 (by decide) rfl (fun c84 => ?_) (fun c84 => ?_)
                  · skip
                    refine xv_iconst hX (v := nI 0) dc_MD_passes_91 (by decide) (rfl : _ = 92) ?_
                    refine xv_istore hX [1, 2, 3, 4, 0, 5] dc_MD_passes_92 (by decide) (L' := [(0, .ref (Y.2.2.2 277)), (1, .int (nI p)), (2, .int (nI a)), (3, .int (nI b)), (4, .int (nI 0)), (5, .int (nI q))]) rfl (rfl : _ = 94) ?_
                    refine xv_iinc hX 5 [1, 2, 3, 4, 5, 0] dc_MD_passes_94 rfl (xi_inc q 1) (by decide) (L' := [(0, .ref (Y.2.2.2 277)), (1, .int (nI p)), (2, .int (nI a)), (3, .int (nI b)), (4, .int (nI 0)), (5, .int (nI (q + 1)))]) rfl (rfl : _ = 97) ?_
                    refine xv_goto hX (pq := 6) dc_MD_passes_97 (by decide) ?_
                    refine xv_sub (L' := [(0, .ref (Y.2.2.2 277)), (1, .int (nI p)), (2, .int (nI a)), (3, .int (nI b)), (4, .int (nI 0)), (5, .int (nI (q + 1)))]) [0, 1, 2, 3, 4, 5] rfl ?_
                    exact ih6 M81 (q + 1) 0 (hF.tt (md_Y.tt f25 (f81.y.up (by decide)))) (by omega) (by omega) (Or.inr ⟨by omega, fun z => (z q (by omega)).2 (q81.mp (by omega))⟩) (by omega)
                  · skip
                    refine xv_iconst hX (v := nI 1) dc_MD_passes_87 (by decide) (rfl : _ = 88) ?_
                    refine xv_goto hX (pq := 92) dc_MD_passes_88 (by decide) ?_
                    refine xv_istore hX [1, 2, 3, 4, 0, 5] dc_MD_passes_92 (by decide) (L' := [(0, .ref (Y.2.2.2 277)), (1, .int (nI p)), (2, .int (nI a)), (3, .int (nI b)), (4, .int (nI 1)), (5, .int (nI q))]) rfl (rfl : _ = 94) ?_
                    refine xv_iinc hX 5 [1, 2, 3, 4, 5, 0] dc_MD_passes_94 rfl (xi_inc q 1) (by decide) (L' := [(0, .ref (Y.2.2.2 277)), (1, .int (nI p)), (2, .int (nI a)), (3, .int (nI b)), (4, .int (nI 1)), (5, .int (nI (q + 1)))]) rfl (rfl : _ = 97) ?_
                    refine xv_goto hX (pq := 6) dc_MD_passes_97 (by decide) ?_
                    refine xv_sub (L' := [(0, .ref (Y.2.2.2 277)), (1, .int (nI p)), (2, .int (nI a)), (3, .int (nI b)), (4, .int (nI 1)), (5, .int (nI (q + 1)))]) [0, 1, 2, 3, 4, 5] rfl ?_
                    exact ih6 M81 (q + 1) 1 (hF.tt (md_Y.tt f25 (f81.y.up (by decide)))) (by omega) (by omega) (Or.inl ⟨by omega, fun j hj => by by_cases e : j = q; (rw [e]; exact ⟨Or.inl (List.length_eq_zero_iff.mp (by omega)), fun h => by have := q81.mpr h; omega⟩); (rcases hg with ⟨-, h⟩ | ⟨h, -⟩; exact h j (by omega); omega)⟩) (by omega)
            · skip
              refine xv_aload_n hX 0 dc_MD_passes_42 rfl (rfl : _ = 43) ?_
              refine xv_iload_n hX 2 dc_MD_passes_43 rfl (rfl : _ = 44) ?_
              refine xv_iload_n hX 3 dc_MD_passes_44 rfl (rfl : _ = 45) ?_
              refine xv_aload_n hX 0 dc_MD_passes_45 rfl (rfl : _ = 46) ?_
              refine xv_geti hX fl_MD_84 rfl rfl (by decide) (v := M25 277 33) rfl dc_MD_passes_46 (rfl : _ = 49) ?_
              refine xv_aload_n hX 0 dc_MD_passes_49 rfl (rfl : _ = 50) ?_
              refine xv_geti hX fl_MD_93 rfl rfl (by decide) (v := M25 277 34) rfl dc_MD_passes_50 (rfl : _ = 53) ?_
              have b53 : M25 278 = M 278 := (f25.1 278 (by decide) (by decide)).trans bk
              have hz33 : M25 277 33 = M25 277 33 := rfl
              have hz34 : M25 277 34 = M25 277 34 := rfl
              obtain ⟨hN53, hcd53, hd53⟩ : ps_names (M 278) (M25 277 34) 3 (M25 277 33) = some (As (M 280 q)).2.1.2.2.2.2.1 ∧ M25 277 33 ≤ M25 277 34 ∧ M25 277 34 ≤ 1440 := by rw [hz33, hz34]; exact lpp.2 (fun z => by have e9 := lpp.1; rw [z] at e9; simp at e9; omega)
              refine xv_calli hX (As := [.int (nI a), .int (nI b), .int (nI (M25 277 33)), .int (nI (M25 277 34))]) (rest := []) (ct_MD_some _ Y M25 a b (M25 277 33) (M25 277 34) x (As (M 280 q)).2.1.2.2.2.2.1 hab hcd53 hb hd53 (by rw [b53]; exact hby) (by rw [b53]; exact hx) (by rw [b53]; exact hN53)) ml_MD_193 li_MD_some rfl (by decide) rfl rfl rfl (by decide) ⟨by decide, by decide⟩ ⟨Nat.le_refl _, Nat.le_refl _⟩ (Nat.le_of_ble_eq_true rfl) dc_MD_passes_53 (rfl : _ = 56) (fun r53 M53 p53 => ?_)
              obtain ⟨f53, t53, pr53, pt53, q53⟩ := p53
              rw [pr53]
              refine xv_istore hX [1, 2, 3, 4, 0, 5] dc_MD_passes_56 (by decide) (L' := [(0, .ref (Y.2.2.2 277)), (1, .int (nI p)), (2, .int (nI a)), (3, .int (nI b)), (4, .int (nI t53)), (5, .int (nI q))]) rfl (rfl : _ = 58) ?_
              refine xv_iload hX 4 dc_MD_passes_58 rfl (rfl : _ = 60) ?_
              refine xv_if_eq hX (nI_toInt (by omega)) (tgt := 94) (pq := 63) dc_MD_passes_60 (by decide) rfl (fun c60 => ?_) (fun c60 => ?_)
              · skip
                refine xv_iinc hX 5 [1, 2, 3, 4, 5, 0] dc_MD_passes_94 rfl (xi_inc q 1) (by decide) (L' := [(0, .ref (Y.2.2.2 277)), (1, .int (nI p)), (2, .int (nI a)), (3, .int (nI b)), (4, .int (nI t53)), (5, .int (nI (q + 1)))]) rfl (rfl : _ = 97) ?_
                refine xv_goto hX (pq := 6) dc_MD_passes_97 (by decide) ?_
                refine xv_sub (L' := [(0, .ref (Y.2.2.2 277)), (1, .int (nI p)), (2, .int (nI a)), (3, .int (nI b)), (4, .int (nI t53)), (5, .int (nI (q + 1)))]) [0, 1, 2, 3, 4, 5] rfl ?_
                exact ih6 M53 (q + 1) t53 (hF.tt (md_Y.tt f25 (f53.y.up (by decide)))) (by omega) (by omega) (Or.inr ⟨by omega, fun z => (z q (by omega)).1.elim (fun e => by rw [e] at lp; simp at lp; omega) (fun h => by have := q53.mpr h; omega)⟩) (by omega)
              · skip
                have z35 : M53 277 35 = M25 277 35 := f53.2 35 (by decide)
                refine xv_aload_n hX 0 dc_MD_passes_63 rfl (rfl : _ = 64) ?_
                refine xv_geti hX fl_MD_99 rfl rfl (by decide) (v := M25 277 35) z35 dc_MD_passes_64 (rfl : _ = 67) ?_
                refine xv_if_le hX (nI_toInt (by omega)) (tgt := 94) (pq := 70) dc_MD_passes_67 (by decide) rfl (fun c67 => ?_) (fun c67 => ?_)
                · skip
                  refine xv_iinc hX 5 [1, 2, 3, 4, 5, 0] dc_MD_passes_94 rfl (xi_inc q 1) (by decide) (L' := [(0, .ref (Y.2.2.2 277)), (1, .int (nI p)), (2, .int (nI a)), (3, .int (nI b)), (4, .int (nI t53)), (5, .int (nI (q + 1)))]) rfl (rfl : _ = 97) ?_
                  refine xv_goto hX (pq := 6) dc_MD_passes_97 (by decide) ?_
                  refine xv_sub (L' := [(0, .ref (Y.2.2.2 277)), (1, .int (nI p)), (2, .int (nI a)), (3, .int (nI b)), (4, .int (nI t53)), (5, .int (nI (q + 1)))]) [0, 1, 2, 3, 4, 5] rfl ?_
                  exact ih6 M53 (q + 1) t53 (hF.tt (md_Y.tt f25 (f53.y.up (by decide)))) (by omega) (by omega) (Or.inl ⟨by omega, fun j hj => by by_cases e : j = q; (rw [e]; exact ⟨Or.inr (q53.mp (by omega)), (by rw [List.length_eq_zero_iff.mp (show (As (M 280 q)).2.1.2.2.2.2.2.length = 0 by omega)]; exact ab_any0 x)⟩); (rcases hg with ⟨-, h⟩ | ⟨h, -⟩; exact h j (by omega); omega)⟩) (by omega)
                · skip
                  refine xv_aload_n hX 0 dc_MD_passes_70 rfl (rfl : _ = 71) ?_
                  refine xv_iload_n hX 2 dc_MD_passes_71 rfl (rfl : _ = 72) ?_
                  refine xv_iload_n hX 3 dc_MD_passes_72 rfl (rfl : _ = 73) ?_
                  refine xv_aload_n hX 0 dc_MD_passes_73 rfl (rfl : _ = 74) ?_
                  refine xv_geti hX fl_MD_96 rfl rfl (by decide) (v := M53 277 36) rfl dc_MD_passes_74 (rfl : _ = 77) ?_
                  refine xv_aload_n hX 0 dc_MD_passes_77 rfl (rfl : _ = 78) ?_
                  refine xv_geti hX fl_MD_102 rfl rfl (by decide) (v := M53 277 37) rfl dc_MD_passes_78 (rfl : _ = 81) ?_
                  have b81 : M53 278 = M 278 := (f53.1 278 (by decide)).trans ((f25.1 278 (by decide) (by decide)).trans bk)
                  have hz33 : M53 277 36 = M25 277 36 := f53.2 36 (by decide)
                  have hz34 : M53 277 37 = M25 277 37 := f53.2 37 (by decide)
                  obtain ⟨hN81, hcd81, hd81⟩ : ps_names (M 278) (M53 277 37) 3 (M53 277 36) = some (As (M 280 q)).2.1.2.2.2.2.2 ∧ M53 277 36 ≤ M53 277 37 ∧ M53 277 37 ≤ 1440 := by rw [hz33, hz34]; exact lxx.2 (fun z => by have e9 := lxx.1; rw [z] at e9; simp at e9; omega)
                  refine xv_calli hX (As := [.int (nI a), .int (nI b), .int (nI (M53 277 36)), .int (nI (M53 277 37))]) (rest := []) (ct_MD_some _ Y M53 a b (M53 277 36) (M53 277 37) x (As (M 280 q)).2.1.2.2.2.2.2 hab hcd81 hb hd81 (by rw [b81]; exact hby) (by rw [b81]; exact hx) (by rw [b81]; exact hN81)) ml_MD_193 li_MD_some rfl (by decide) rfl rfl rfl (by decide) ⟨by decide, by decide⟩ ⟨Nat.le_refl _, Nat.le_refl _⟩ (Nat.le_of_ble_eq_true rfl) dc_MD_passes_81 (rfl : _ = 84) (fun r81 M81 p81 => ?_)
                  obtain ⟨f81, t81, pr81, pt81, q81⟩ := p81
                  rw [pr81]
                  refine xv_if_ne hX (nI_toInt (by omega)) (tgt := 91) (pq := 87) dc_MD_passes_84 (by decide) rfl (fun c84 => ?_) (fun c84 => ?_)
                  · skip
                    refine xv_iconst hX (v := nI 0) dc_MD_passes_91 (by decide) (rfl : _ = 92) ?_
                    refine xv_istore hX [1, 2, 3, 4, 0, 5] dc_MD_passes_92 (by decide) (L' := [(0, .ref (Y.2.2.2 277)), (1, .int (nI p)), (2, .int (nI a)), (3, .int (nI b)), (4, .int (nI 0)), (5, .int (nI q))]) rfl (rfl : _ = 94) ?_
                    refine xv_iinc hX 5 [1, 2, 3, 4, 5, 0] dc_MD_passes_94 rfl (xi_inc q 1) (by decide) (L' := [(0, .ref (Y.2.2.2 277)), (1, .int (nI p)), (2, .int (nI a)), (3, .int (nI b)), (4, .int (nI 0)), (5, .int (nI (q + 1)))]) rfl (rfl : _ = 97) ?_
                    refine xv_goto hX (pq := 6) dc_MD_passes_97 (by decide) ?_
                    refine xv_sub (L' := [(0, .ref (Y.2.2.2 277)), (1, .int (nI p)), (2, .int (nI a)), (3, .int (nI b)), (4, .int (nI 0)), (5, .int (nI (q + 1)))]) [0, 1, 2, 3, 4, 5] rfl ?_
                    exact ih6 M81 (q + 1) 0 (hF.tt (md_Y.tt f25 (md_Y.tt (f53.y.up (by decide)) (f81.y.up (by decide))))) (by omega) (by omega) (Or.inr ⟨by omega, fun z => (z q (by omega)).2 (q81.mp (by omega))⟩) (by omega)
                  · skip
                    refine xv_iconst hX (v := nI 1) dc_MD_passes_87 (by decide) (rfl : _ = 88) ?_
                    refine xv_goto hX (pq := 92) dc_MD_passes_88 (by decide) ?_
                    refine xv_istore hX [1, 2, 3, 4, 0, 5] dc_MD_passes_92 (by decide) (L' := [(0, .ref (Y.2.2.2 277)), (1, .int (nI p)), (2, .int (nI a)), (3, .int (nI b)), (4, .int (nI 1)), (5, .int (nI q))]) rfl (rfl : _ = 94) ?_
                    refine xv_iinc hX 5 [1, 2, 3, 4, 5, 0] dc_MD_passes_94 rfl (xi_inc q 1) (by decide) (L' := [(0, .ref (Y.2.2.2 277)), (1, .int (nI p)), (2, .int (nI a)), (3, .int (nI b)), (4, .int (nI 1)), (5, .int (nI (q + 1)))]) rfl (rfl : _ = 97) ?_
                    refine xv_goto hX (pq := 6) dc_MD_passes_97 (by decide) ?_
                    refine xv_sub (L' := [(0, .ref (Y.2.2.2 277)), (1, .int (nI p)), (2, .int (nI a)), (3, .int (nI b)), (4, .int (nI 1)), (5, .int (nI (q + 1)))]) [0, 1, 2, 3, 4, 5] rfl ?_
                    exact ih6 M81 (q + 1) 1 (hF.tt (md_Y.tt f25 (md_Y.tt (f53.y.up (by decide)) (f81.y.up (by decide))))) (by omega) (by omega) (Or.inl ⟨by omega, fun j hj => by by_cases e : j = q; (rw [e]; exact ⟨Or.inr (q53.mp (by omega)), fun h => by have := q81.mpr h; omega⟩); (rcases hg with ⟨-, h⟩ | ⟨h, -⟩; exact h j (by omega); omega)⟩) (by omega)
  refine xv_sub (L' := [(0, .ref (Y.2.2.2 277)), (1, .int (nI p)), (2, .int (nI a)), (3, .int (nI b)), (4, .int (nI 1)), (5, .int (nI 0))]) [0, 1, 2, 3, 4, 5] rfl ?_
  exact lp6 _ M 0 1 (md_Y.rf _ _) (Nat.zero_le _) (by decide) (Or.inl ⟨rfl, fun j hj => absurd hj (Nat.not_lt_zero _)⟩) (Nat.lt_succ_self _)

set_option maxRecDepth 100000 in
set_option maxHeartbeats 4000000 in
theorem ct_MD_signedByKey (ln : Launch) (Y : xw_Y) (M : xm_M) (hs : M 277 13 < 2147483648) (hm : 2 ≤ M 277 38) (hm2 : M 277 38 < 2147483648) (he : M 277 39 ≤ 1000) (h14 : M 277 14 ≤ 1440) (h15 : M 277 15 ≤ 1440) (hby : ∀ j, j < 1440 → M 278 j < 256) : xc_i ln qm_MD_signedByKey 1 Y [.ref (Y.2.2.2 277)] M (fun r M1 => M1 = M ∧ ∃ t : Nat, r = nI t ∧ t < 2 ∧ (t = 1 ↔ ck_sig (M 277 13) (ps_hash (M 278) (M 277 14) (M 277 15 - M 277 14)) (M 277 38) (M 277 39))) := by
  refine xc_i.mk .boolean rfl (by decide) (Nat.le_of_ble_eq_true rfl) ?_
  intro X hXl hX hR
  subst hXl
  have hX : xv_ok X Y prog_9_method_38_code "CertificatePathModel" 4 (xc_rm 1) := hX
  show xv_V X Y 4 0 0 xw_lk xw_N M 0 [(0, .ref (Y.2.2.2 277))] []
  have h10 : lN ((M 277 13) ^ 0 % (M 277 38)) = lN 1 := by rw [Nat.pow_zero, Nat.mod_eq_of_lt (by omega)]
  refine xv_lconst hX (v := lN 1) dc_MD_signedByKey_0 rfl (rfl : _ = 1) ?_
  refine xv_lstore_n hX [1, 0] dc_MD_signedByKey_1 (by decide) (L' := [(0, .ref (Y.2.2.2 277)), (1, .long (lN 1))]) rfl (rfl : _ = 2) ?_
  rw [← h10]
  refine xv_iconst hX (v := nI 0) dc_MD_signedByKey_2 (by decide) (rfl : _ = 3) ?_
  refine xv_istore_n hX [1, 2, 0] dc_MD_signedByKey_3 (by decide) (L' := [(0, .ref (Y.2.2.2 277)), (1, .long (lN ((M 277 13) ^ 0 % (M 277 38)))), (3, .int (nI 0))]) rfl (rfl : _ = 4) ?_
  have lp4 : ∀ (fu4 : Nat) (k : Nat) (hk : k ≤ M 277 39), M 277 39 - k < fu4 → xv_V X Y 4 0 0 xw_lk xw_N M 4 [(0, .ref (Y.2.2.2 277)), (1, .long (lN ((M 277 13) ^ k % (M 277 38)))), (3, .int (nI k))] [] := by
    intro n4
    induction n4 with
    | zero => intro k hk hm4; exact absurd hm4 (Nat.not_lt_zero _)
    | succ n4 ih4 =>
      intro k hk hm4
      refine xv_iload_n hX 2 dc_MD_signedByKey_4 rfl (rfl : _ = 5) ?_
      refine xv_aload_n hX 0 dc_MD_signedByKey_5 rfl (rfl : _ = 6) ?_
      refine xv_geti hX fl_MD_196 rfl rfl (by decide) (v := M 277 39) rfl dc_MD_signedByKey_6 (rfl : _ = 9) ?_
      refine xv_icmp_ge hX (nI_toInt (by omega)) (nI_toInt (by omega)) (tgt := 32) (pq := 12) dc_MD_signedByKey_9 (by decide) rfl (fun c9 => ?_) (fun c9 => ?_)
      · skip
        have hpm := Nat.mod_lt ((M 277 13) ^ k) (show 0 < M 277 38 by omega)
        have hke : k = M 277 39 := by omega
        refine xv_aload_n hX 0 dc_MD_signedByKey_32 rfl (rfl : _ = 33) ?_
        refine xv_geti hX fl_MD_171 rfl rfl (by decide) (v := M 277 13) rfl dc_MD_signedByKey_33 (rfl : _ = 36) ?_
        refine xv_aload_n hX 0 dc_MD_signedByKey_36 rfl (rfl : _ = 37) ?_
        refine xv_geti hX fl_MD_199 rfl rfl (by decide) (v := M 277 38) rfl dc_MD_signedByKey_37 (rfl : _ = 40) ?_
        refine xv_icmp_ge hX (nI_toInt (by omega)) (nI_toInt (by omega)) (tgt := 70) (pq := 43) dc_MD_signedByKey_40 (by decide) rfl (fun c40 => ?_) (fun c40 => ?_)
        · skip
          refine xv_iconst hX (v := nI 0) dc_MD_signedByKey_70 (by decide) (rfl : _ = 71) ?_
          refine xv_reti hX hR (by decide) dc_MD_signedByKey_71 ?_
          first
          | exact ⟨rfl, 0, rfl, by decide, by simp, fun z => absurd z.1 (by omega)⟩
          | exact ⟨rfl, 0, rfl, by decide, by simp, fun z => (c63 (by rw [hke]; exact z.2)).elim⟩
        · skip
          refine xv_lload_n hX 1 dc_MD_signedByKey_43 rfl (rfl : _ = 44) ?_
          refine xv_aload_n hX 0 dc_MD_signedByKey_44 rfl (rfl : _ = 45) ?_
          refine xv_aload_n hX 0 dc_MD_signedByKey_45 rfl (rfl : _ = 46) ?_
          refine xv_geti hX fl_MD_129 rfl rfl (by decide) (v := M 277 14) rfl dc_MD_signedByKey_46 (rfl : _ = 49) ?_
          refine xv_aload_n hX 0 dc_MD_signedByKey_49 rfl (rfl : _ = 50) ?_
          refine xv_geti hX fl_MD_165 rfl rfl (by decide) (v := M 277 15) rfl dc_MD_signedByKey_50 (rfl : _ = 53) ?_
          refine xv_calli hX (As := [.int (nI (M 277 14)), .int (nI (M 277 15))]) (rest := [.long (lN ((M 277 13) ^ k % (M 277 38)))]) (ct_MD_hashed _ Y M (M 277 14) (M 277 15) h14 h15 hby) ml_MD_30 li_MD_hashed rfl (by decide) rfl rfl rfl (by decide) ⟨by decide, by decide⟩ ⟨Nat.le_refl _, Nat.le_refl _⟩ (Nat.le_of_ble_eq_true rfl) dc_MD_signedByKey_53 (rfl : _ = 56) (fun r53 M53 p53 => ?_)
          rw [p53.1, p53.2]
          have hlt := ps_hash_lt (M 278) (M 277 14) (M 277 15 - M 277 14)
          have hhm := Nat.mod_lt (ps_hash (M 278) (M 277 14) (M 277 15 - M 277 14)) (show 0 < M 277 38 by omega)
          refine xv_aload_n hX 0 dc_MD_signedByKey_56 rfl (rfl : _ = 57) ?_
          refine xv_geti hX fl_MD_199 rfl rfl (by decide) (v := M 277 38) rfl dc_MD_signedByKey_57 (rfl : _ = 60) ?_
          refine xv_irem hX dc_MD_signedByKey_60 (xi_ge0 (by omega) hm2) (pk_rem (by omega) (by omega) (by omega)) (rfl : _ = 61) ?_
          refine xv_i2l hX dc_MD_signedByKey_61 (nI_l (by omega)) (rfl : _ = 62) ?_
          refine xv_lcmp hX dc_MD_signedByKey_62 (rfl : _ = 63) ?_
          refine xv_if_ne hX (rfl : (lg_cmp (lN ((M 277 13) ^ k % (M 277 38))) (lN ((ps_hash (M 278) (M 277 14) (M 277 15 - M 277 14)) % (M 277 38)))).toInt = _) (tgt := 70) (pq := 66) dc_MD_signedByKey_63 (by decide) rfl (fun c63 => ?_) (fun c63 => ?_)
          · skip
            have c63 : (M 277 13) ^ k % (M 277 38) ≠ (ps_hash (M 278) (M 277 14) (M 277 15 - M 277 14)) % (M 277 38) := fun h => c63 ((xi_lcmp (by omega) (by omega)).mpr h)
            refine xv_iconst hX (v := nI 0) dc_MD_signedByKey_70 (by decide) (rfl : _ = 71) ?_
            refine xv_reti hX hR (by decide) dc_MD_signedByKey_71 ?_
            first
            | exact ⟨rfl, 0, rfl, by decide, by simp, fun z => absurd z.1 (by omega)⟩
            | exact ⟨rfl, 0, rfl, by decide, by simp, fun z => (c63 (by rw [hke]; exact z.2)).elim⟩
          · skip
            have c63 : (M 277 13) ^ k % (M 277 38) = (ps_hash (M 278) (M 277 14) (M 277 15 - M 277 14)) % (M 277 38) := (xi_lcmp (by omega) (by omega)).mp c63
            refine xv_iconst hX (v := nI 1) dc_MD_signedByKey_66 (by decide) (rfl : _ = 67) ?_
            refine xv_goto hX (pq := 71) dc_MD_signedByKey_67 (by decide) ?_
            refine xv_reti hX hR (by decide) dc_MD_signedByKey_71 ?_
            exact ⟨rfl, 1, rfl, by decide, fun _ => ⟨by omega, by rw [← hke]; exact c63⟩, fun _ => rfl⟩
      · skip
        have hpm := Nat.mod_lt ((M 277 13) ^ k) (show 0 < M 277 38 by omega)
        refine xv_lload_n hX 1 dc_MD_signedByKey_12 rfl (rfl : _ = 13) ?_
        refine xv_aload_n hX 0 dc_MD_signedByKey_13 rfl (rfl : _ = 14) ?_
        refine xv_geti hX fl_MD_171 rfl rfl (by decide) (v := M 277 13) rfl dc_MD_signedByKey_14 (rfl : _ = 17) ?_
        refine xv_i2l hX dc_MD_signedByKey_17 (nI_l (by omega)) (rfl : _ = 18) ?_
        refine xv_lmul hX dc_MD_signedByKey_18 (lN_mul ((M 277 13) ^ k % (M 277 38)) (M 277 13)) (rfl : _ = 19) ?_
        refine xv_aload_n hX 0 dc_MD_signedByKey_19 rfl (rfl : _ = 20) ?_
        refine xv_geti hX fl_MD_199 rfl rfl (by decide) (v := M 277 38) rfl dc_MD_signedByKey_20 (rfl : _ = 23) ?_
        refine xv_i2l hX dc_MD_signedByKey_23 (nI_l (by omega)) (rfl : _ = 24) ?_
        refine xv_lrem hX dc_MD_signedByKey_24 (xi_lne0 (by omega) hm2) ((pk_lRem (ck_mul (by omega) hs) (by omega) (by omega)).trans (congrArg lN (sg_step _ _ _))) (rfl : _ = 25) ?_
        refine xv_lstore_n hX [1, 0, 2] dc_MD_signedByKey_25 (by decide) (L' := [(0, .ref (Y.2.2.2 277)), (1, .long (lN ((M 277 13) ^ (k + 1) % (M 277 38)))), (3, .int (nI k))]) rfl (rfl : _ = 26) ?_
        refine xv_iinc hX 2 [1, 2, 0] dc_MD_signedByKey_26 rfl (xi_inc k 1) (by decide) (L' := [(0, .ref (Y.2.2.2 277)), (1, .long (lN ((M 277 13) ^ (k + 1) % (M 277 38)))), (3, .int (nI (k + 1)))]) rfl (rfl : _ = 29) ?_
        refine xv_goto hX (pq := 4) dc_MD_signedByKey_29 (by decide) ?_
        refine xv_sub (L' := [(0, .ref (Y.2.2.2 277)), (1, .long (lN ((M 277 13) ^ (k + 1) % (M 277 38)))), (3, .int (nI (k + 1)))]) [0, 1, 2] rfl ?_
        exact ih4 (k + 1) (by omega) (by omega)
  refine xv_sub (L' := [(0, .ref (Y.2.2.2 277)), (1, .long (lN ((M 277 13) ^ 0 % (M 277 38)))), (3, .int (nI 0))]) [0, 1, 2] rfl ?_
  exact lp4 _ 0 (Nat.zero_le _) (Nat.lt_succ_self _)

set_option maxRecDepth 100000 in
set_option maxHeartbeats 4000000 in
theorem ct_MD_takeKey (ln : Launch) (Y : xw_Y) (M : xm_M)  : xc_v ln qm_MD_takeKey 0 Y [.ref (Y.2.2.2 277)] M (fun M1 => M1 = xm_set (xm_set (xm_set (xm_set M 277 38 (M 277 11)) 277 39 (M 277 12)) 277 40 (M 277 22)) 277 41 (M 277 23)) := by
  refine xc_v.mk rfl (by decide) (Nat.le_of_ble_eq_true rfl) ?_
  intro X hXl hX hR
  subst hXl
  have hX : xv_ok X Y prog_9_method_39_code "CertificatePathModel" 1 (xc_rm 0) := hX
  show xv_V X Y 1 0 0 xw_lk xw_N M 0 [(0, .ref (Y.2.2.2 277))] []
  refine xv_aload_n hX 0 dc_MD_takeKey_0 rfl (rfl : _ = 1) ?_
  refine xv_aload_n hX 0 dc_MD_takeKey_1 rfl (rfl : _ = 2) ?_
  refine xv_geti hX fl_MD_120 rfl rfl (by decide) (v := M 277 11) rfl dc_MD_takeKey_2 (rfl : _ = 5) ?_
  refine xv_puti hX fl_MD_199 rfl rfl (by decide) dc_MD_takeKey_5 (rfl : _ = 8) ?_
  refine xv_aload_n hX 0 dc_MD_takeKey_8 rfl (rfl : _ = 9) ?_
  refine xv_aload_n hX 0 dc_MD_takeKey_9 rfl (rfl : _ = 10) ?_
  refine xv_geti hX fl_MD_123 rfl rfl (by decide) (v := M 277 12) (xm_nk (by decide)) dc_MD_takeKey_10 (rfl : _ = 13) ?_
  refine xv_puti hX fl_MD_196 rfl rfl (by decide) dc_MD_takeKey_13 (rfl : _ = 16) ?_
  refine xv_aload_n hX 0 dc_MD_takeKey_16 rfl (rfl : _ = 17) ?_
  refine xv_aload_n hX 0 dc_MD_takeKey_17 rfl (rfl : _ = 18) ?_
  refine xv_geti hX fl_MD_150 rfl rfl (by decide) (v := M 277 22) ((xm_nk (by decide)).trans (xm_nk (by decide))) dc_MD_takeKey_18 (rfl : _ = 21) ?_
  refine xv_puti hX fl_MD_202 rfl rfl (by decide) dc_MD_takeKey_21 (rfl : _ = 24) ?_
  refine xv_aload_n hX 0 dc_MD_takeKey_24 rfl (rfl : _ = 25) ?_
  refine xv_aload_n hX 0 dc_MD_takeKey_25 rfl (rfl : _ = 26) ?_
  refine xv_geti hX fl_MD_153 rfl rfl (by decide) (v := M 277 23) ((xm_nk (by decide)).trans ((xm_nk (by decide)).trans (xm_nk (by decide)))) dc_MD_takeKey_26 (rfl : _ = 29) ?_
  refine xv_puti hX fl_MD_205 rfl rfl (by decide) dc_MD_takeKey_29 (rfl : _ = 32) ?_
  refine xv_retv hX hR dc_MD_takeKey_32 ?_
  exact rfl
