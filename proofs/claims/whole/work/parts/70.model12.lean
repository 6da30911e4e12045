/-! the reference: names -/
set_option maxRecDepth 100000 in
set_option maxHeartbeats 4000000 in
theorem ct_MD_inside (ln : Launch) (Y : xw_Y) (M : xm_M) (a b c d : Nat) (hab : a ≤ b) (hcd : c ≤ d) (hb : b ≤ 1440) (hd : d ≤ 1440) (hby : ∀ j, j < 1440 → M 278 j < 256) : xc_i ln qm_MD_inside 0 Y [.ref (Y.2.2.2 277), .int (nI a), .int (nI b), .int (nI c), .int (nI d)] M (fun r M1 => M1 = M ∧ ∃ t : Nat, r = nI t ∧ t < 2 ∧ (t = 1 ↔ md_in (M 278) a b c d)) := by
  refine xc_i.mk .boolean rfl (by decide) (Nat.le_of_ble_eq_true rfl) ?_
  intro X hXl hX hR
  subst hXl
  have hX : xv_ok X Y prog_9_method_29_code "CertificatePathModel" 7 (xc_rm 0) := hX
  show xv_V X Y 7 0 0 xw_lk xw_N M 0 [(0, .ref (Y.2.2.2 277)), (1, .int (nI a)), (2, .int (nI b)), (3, .int (nI c)), (4, .int (nI d))] []
  refine xv_iload hX 4 dc_MD_inside_0 rfl (rfl : _ = 2) ?_
  refine xv_iload_n hX 3 dc_MD_inside_2 rfl (rfl : _ = 3) ?_
  refine xv_isub hX dc_MD_inside_3 (pk_sub (by omega)) (rfl : _ = 4) ?_
  refine xv_iload_n hX 2 dc_MD_inside_4 rfl (rfl : _ = 5) ?_
  refine xv_iload_n hX 1 dc_MD_inside_5 rfl (rfl : _ = 6) ?_
  refine xv_isub hX dc_MD_inside_6 (pk_sub (by omega)) (rfl : _ = 7) ?_
  refine xv_icmp_le hX (nI_toInt (by omega)) (nI_toInt (by omega)) (tgt := 12) (pq := 10) dc_MD_inside_7 (by decide) rfl (fun c7 => ?_) (fun c7 => ?_)
  · skip
    refine xv_iconst hX (v := nI 1) dc_MD_inside_12 (by decide) (rfl : _ = 13) ?_
    refine xv_istore hX [1, 2, 3, 4, 5, 0] dc_MD_inside_13 (by decide) (L' := [(0, .ref (Y.2.2.2 277)), (1, .int (nI a)), (2, .int (nI b)), (3, .int (nI c)), (4, .int (nI d)), (5, .int (nI 1))]) rfl (rfl : _ = 15) ?_
    refine xv_iconst hX (v := nI 0) dc_MD_inside_15 (by decide) (rfl : _ = 16) ?_
    refine xv_istore hX [1, 2, 3, 4, 5, 6, 0] dc_MD_inside_16 (by decide) (L' := [(0, .ref (Y.2.2.2 277)), (1, .int (nI a)), (2, .int (nI b)), (3, .int (nI c)), (4, .int (nI d)), (5, .int (nI 1)), (6, .int (nI 0))]) rfl (rfl : _ = 18) ?_
    have lp18 : ∀ (fu18 : Nat) (s : Nat) (k : Nat) (hk : k ≤ d - c) (hs2 : s < 2) (hs : (s = 1 ∧ ∀ j, j < k → M 278 (a + j) = M 278 (c + j)) ∨ (s = 0 ∧ ¬ md_in (M 278) a b c d)), d - c - k < fu18 → xv_V X Y 7 0 0 xw_lk xw_N M 18 [(0, .ref (Y.2.2.2 277)), (1, .int (nI a)), (2, .int (nI b)), (3, .int (nI c)), (4, .int (nI d)), (5, .int (nI s)), (6, .int (nI k))] [] := by
      intro n18
      induction n18 with
      | zero => intro s k hk hs2 hs hm18; exact absurd hm18 (Nat.not_lt_zero _)
      | succ n18 ih18 =>
        intro s k hk hs2 hs hm18
        refine xv_iload hX 6 dc_MD_inside_18 rfl (rfl : _ = 20) ?_
        refine xv_iload hX 4 dc_MD_inside_20 rfl (rfl : _ = 22) ?_
        refine xv_iload_n hX 3 dc_MD_inside_22 rfl (rfl : _ = 23) ?_
        refine xv_isub hX dc_MD_inside_23 (pk_sub (by omega)) (rfl : _ = 24) ?_
        refine xv_icmp_ge hX (nI_toInt (by omega)) (nI_toInt (by omega)) (tgt := 66) (pq := 27) dc_MD_inside_24 (by decide) rfl (fun c24 => ?_) (fun c24 => ?_)
        · skip
          refine xv_iload hX 5 dc_MD_inside_66 rfl (rfl : _ = 68) ?_
          refine xv_reti hX hR (xi_z (by omega)) dc_MD_inside_68 ?_
          refine ⟨rfl, s, rfl, hs2, fun z => ?_, fun z => ?_⟩
          · rcases hs with ⟨-, h⟩ | ⟨h, -⟩
            · exact ⟨by omega, fun j hj => h j (by omega)⟩
            · omega
          · rcases hs with ⟨h, -⟩ | ⟨-, h⟩
            · exact h
            · exact absurd z h
        · skip
          refine xv_iload hX 5 dc_MD_inside_27 rfl (rfl : _ = 29) ?_
          refine xv_if_eq hX (nI_toInt (by omega)) (tgt := 57) (pq := 32) dc_MD_inside_29 (by decide) rfl (fun c29 => ?_) (fun c29 => ?_)
          · skip
            refine xv_iconst hX (v := nI 0) dc_MD_inside_57 (by decide) (rfl : _ = 58) ?_
            refine xv_istore hX [1, 2, 3, 4, 5, 0, 6] dc_MD_inside_58 (by decide) (L' := [(0, .ref (Y.2.2.2 277)), (1, .int (nI a)), (2, .int (nI b)), (3, .int (nI c)), (4, .int (nI d)), (5, .int (nI 0)), (6, .int (nI k))]) rfl (rfl : _ = 60) ?_
            refine xv_iinc hX 6 [1, 2, 3, 4, 5, 6, 0] dc_MD_inside_60 rfl (xi_inc k 1) (by decide) (L' := [(0, .ref (Y.2.2.2 277)), (1, .int (nI a)), (2, .int (nI b)), (3, .int (nI c)), (4, .int (nI d)), (5, .int (nI 0)), (6, .int (nI (k + 1)))]) rfl (rfl : _ = 63) ?_
            refine xv_goto hX (pq := 18) dc_MD_inside_63 (by decide) ?_
            refine xv_sub (L' := [(0, .ref (Y.2.2.2 277)), (1, .int (nI a)), (2, .int (nI b)), (3, .int (nI c)), (4, .int (nI d)), (5, .int (nI 0)), (6, .int (nI (k + 1)))]) [0, 1, 2, 3, 4, 5, 6] rfl ?_
            exact ih18 0 (k + 1) (by omega) (by decide) (Or.inr ⟨rfl, by first | exact (fun z => absurd (z.2 k (by omega)) (by omega)) | (rcases hs with ⟨h, -⟩ | ⟨-, h⟩; omega; exact h)⟩) (by omega)
          · skip
            refine xv_aload_n hX 0 dc_MD_inside_32 rfl (rfl : _ = 33) ?_
            refine xv_getr hX fl_MD_7 rfl rfl (by decide) rfl dc_MD_inside_33 (rfl : _ = 36) ?_
            refine xv_iload_n hX 1 dc_MD_inside_36 rfl (rfl : _ = 37) ?_
            refine xv_iload hX 6 dc_MD_inside_37 rfl (rfl : _ = 39) ?_
            refine xv_iadd hX dc_MD_inside_39 (nI_add a k) (rfl : _ = 40) ?_
            refine xv_iald hX rfl (by decide) (by omega) (by decide) (v := M 278 (a + k)) rfl dc_MD_inside_40 (rfl : _ = 41) ?_
            refine xv_aload_n hX 0 dc_MD_inside_41 rfl (rfl : _ = 42) ?_
            refine xv_getr hX fl_MD_7 rfl rfl (by decide) rfl dc_MD_inside_42 (rfl : _ = 45) ?_
            refine xv_iload_n hX 3 dc_MD_inside_45 rfl (rfl : _ = 46) ?_
            refine xv_iload hX 6 dc_MD_inside_46 rfl (rfl : _ = 48) ?_
            refine xv_iadd hX dc_MD_inside_48 (nI_add c k) (rfl : _ = 49) ?_
            refine xv_iald hX rfl (by decide) (by omega) (by decide) (v := M 278 (c + k)) rfl dc_MD_inside_49 (rfl : _ = 50) ?_
            have hy1 := hby (a + k) (by omega)
            have hy2 := hby (c + k) (by omega)
            refine xv_icmp_ne hX (nI_toInt (by omega)) (nI_toInt (by omega)) (tgt := 57) (pq := 53) dc_MD_inside_50 (by decide) rfl (fun c50 => ?_) (fun c50 => ?_)
            · skip
              refine xv_iconst hX (v := nI 0) dc_MD_inside_57 (by decide) (rfl : _ = 58) ?_
              refine xv_istore hX [1, 2, 3, 4, 5, 0, 6] dc_MD_inside_58 (by decide) (L' := [(0, .ref (Y.2.2.2 277)), (1, .int (nI a)), (2, .int (nI b)), (3, .int (nI c)), (4, .int (nI d)), (5, .int (nI 0)), (6, .int (nI k))]) rfl (rfl : _ = 60) ?_
              refine xv_iinc hX 6 [1, 2, 3, 4, 5, 6, 0] dc_MD_inside_60 rfl (xi_inc k 1) (by decide) (L' := [(0, .ref (Y.2.2.2 277)), (1, .int (nI a)), (2, .int (nI b)), (3, .int (nI c)), (4, .int (nI d)), (5, .int (nI 0)), (6, .int (nI (k + 1)))]) rfl (rfl : _ = 63) ?_
              refine xv_goto hX (pq := 18) dc_MD_inside_63 (by decide) ?_
              refine xv_sub (L' := [(0, .ref (Y.2.2.2 277)), (1, .int (nI a)), (2, .int (nI b)), (3, .int (nI c)), (4, .int (nI d)), (5, .int (nI 0)), (6, .int (nI (k + 1)))]) [0, 1, 2, 3, 4, 5, 6] rfl ?_
              exact ih18 0 (k + 1) (by omega) (by decide) (Or.inr ⟨rfl, by first | exact (fun z => absurd (z.2 k (by omega)) (by omega)) | (rcases hs with ⟨h, -⟩ | ⟨-, h⟩; omega; exact h)⟩) (by omega)
            · skip
              refine xv_iconst hX (v := nI 1) dc_MD_inside_53 (by decide) (rfl : _ = 54) ?_
              refine xv_goto hX (pq := 58) dc_MD_inside_54 (by decide) ?_
              refine xv_istore hX [1, 2, 3, 4, 5, 0, 6] dc_MD_inside_58 (by decide) (L' := [(0, .ref (Y.2.2.2 277)), (1, .int (nI a)), (2, .int (nI b)), (3, .int (nI c)), (4, .int (nI d)), (5, .int (nI 1)), (6, .int (nI k))]) rfl (rfl : _ = 60) ?_
              refine xv_iinc hX 6 [1, 2, 3, 4, 5, 6, 0] dc_MD_inside_60 rfl (xi_inc k 1) (by decide) (L' := [(0, .ref (Y.2.2.2 277)), (1, .int (nI a)), (2, .int (nI b)), (3, .int (nI c)), (4, .int (nI d)), (5, .int (nI 1)), (6, .int (nI (k + 1)))]) rfl (rfl : _ = 63) ?_
              refine xv_goto hX (pq := 18) dc_MD_inside_63 (by decide) ?_
              refine xv_sub (L' := [(0, .ref (Y.2.2.2 277)), (1, .int (nI a)), (2, .int (nI b)), (3, .int (nI c)), (4, .int (nI d)), (5, .int (nI 1)), (6, .int (nI (k + 1)))]) [0, 1, 2, 3, 4, 5, 6] rfl ?_
              exact ih18 1 (k + 1) (by omega) (by decide) (Or.inl ⟨rfl, fun j hj => by by_cases e : j = k; (rw [e]; omega); (rcases hs with ⟨-, h⟩ | ⟨h, -⟩; exact h j (by omega); omega)⟩) (by omega)
    refine xv_sub (L' := [(0, .ref (Y.2.2.2 277)), (1, .int (nI a)), (2, .int (nI b)), (3, .int (nI c)), (4, .int (nI d)), (5, .int (nI 1)), (6, .int (nI 0))]) [0, 1, 2, 3, 4, 5, 6] rfl ?_
    exact lp18 _ 1 0 (Nat.zero_le _) (by decide) (Or.inl ⟨rfl, fun j hj => absurd hj (Nat.not_lt_zero _)⟩) (Nat.lt_succ_self _)
  · skip
    refine xv_iconst hX (v := nI 0) dc_MD_inside_10 (by decide) (rfl : _ = 11) ?_
    refine xv_reti hX hR (by decide) dc_MD_inside_11 ?_
    exact ⟨rfl, 0, rfl, by decide, fun z => absurd z (by decide), fun z => absurd z.1 (by omega)⟩

set_option maxRecDepth 100000 in
set_option maxHeartbeats 4000000 in
theorem ct_MD_equalNames (ln : Launch) (Y : xw_Y) (M : xm_M) (a b c d : Nat) (hab : a ≤ b) (hcd : c ≤ d) (hb : b ≤ 1440) (hd : d ≤ 1440) (hby : ∀ j, j < 1440 → M 278 j < 256) : xc_i ln qm_MD_equalNames 1 Y [.ref (Y.2.2.2 277), .int (nI a), .int (nI b), .int (nI c), .int (nI d)] M (fun r M1 => M1 = M ∧ ∃ t : Nat, r = nI t ∧ t < 2 ∧ (t = 1 ↔ b - a = d - c ∧ md_in (M 278) a b c d)) := by
  refine xc_i.mk .boolean rfl (by decide) (Nat.le_of_ble_eq_true rfl) ?_
  intro X hXl hX hR
  subst hXl
  have hX : xv_ok X Y prog_9_method_30_code "CertificatePathModel" 5 (xc_rm 1) := hX
  show xv_V X Y 5 0 0 xw_lk xw_N M 0 [(0, .ref (Y.2.2.2 277)), (1, .int (nI a)), (2, .int (nI b)), (3, .int (nI c)), (4, .int (nI d))] []
  refine xv_iload_n hX 2 dc_MD_equalNames_0 rfl (rfl : _ = 1) ?_
  refine xv_iload_n hX 1 dc_MD_equalNames_1 rfl (rfl : _ = 2) ?_
  refine xv_isub hX dc_MD_equalNames_2 (pk_sub (by omega)) (rfl : _ = 3) ?_
  refine xv_iload hX 4 dc_MD_equalNames_3 rfl (rfl : _ = 5) ?_
  refine xv_iload_n hX 3 dc_MD_equalNames_5 rfl (rfl : _ = 6) ?_
  refine xv_isub hX dc_MD_equalNames_6 (pk_sub (by omega)) (rfl : _ = 7) ?_
  refine xv_icmp_ne hX (nI_toInt (by omega)) (nI_toInt (by omega)) (tgt := 26) (pq := 10) dc_MD_equalNames_7 (by decide) rfl (fun c7 => ?_) (fun c7 => ?_)
  · skip
    refine xv_iconst hX (v := nI 0) dc_MD_equalNames_26 (by decide) (rfl : _ = 27) ?_
    refine xv_reti hX hR (by decide) dc_MD_equalNames_27 ?_
    first
    | exact ⟨rfl, 0, rfl, by decide, by simp, fun h => absurd h.1 (by omega)⟩
    | exact ⟨rfl, 0, rfl, by decide, by simp, fun h => absurd (pi.mpr h.2) (by omega)⟩
  · skip
    refine xv_aload_n hX 0 dc_MD_equalNames_10 rfl (rfl : _ = 11) ?_
    refine xv_iload_n hX 1 dc_MD_equalNames_11 rfl (rfl : _ = 12) ?_
    refine xv_iload_n hX 2 dc_MD_equalNames_12 rfl (rfl : _ = 13) ?_
    refine xv_iload_n hX 3 dc_MD_equalNames_13 rfl (rfl : _ = 14) ?_
    refine xv_iload hX 4 dc_MD_equalNames_14 rfl (rfl : _ = 16) ?_
    refine xv_calli hX (As := [.int (nI a), .int (nI b), .int (nI c), .int (nI d)]) (rest := []) (ct_MD_inside _ Y M a b c d (by omega) (by omega) (by omega) (by omega) hby) ml_MD_186 li_MD_inside rfl (by decide) rfl rfl rfl (by decide) ⟨by decide, by decide⟩ ⟨Nat.le_refl _, Nat.le_refl _⟩ (Nat.le_of_ble_eq_true rfl) dc_MD_equalNames_16 (rfl : _ = 19) (fun r16 M16 p16 => ?_)
    obtain ⟨pM, t, pr, pt, pi⟩ := p16
    rw [pM, pr]
    refine xv_if_eq hX (nI_toInt (by omega)) (tgt := 26) (pq := 22) dc_MD_equalNames_19 (by decide) rfl (fun c19 => ?_) (fun c19 => ?_)
    · skip
      refine xv_iconst hX (v := nI 0) dc_MD_equalNames_26 (by decide) (rfl : _ = 27) ?_
      refine xv_reti hX hR (by decide) dc_MD_equalNames_27 ?_
      first
      | exact ⟨rfl, 0, rfl, by decide, by simp, fun h => absurd h.1 (by omega)⟩
      | exact ⟨rfl, 0, rfl, by decide, by simp, fun h => absurd (pi.mpr h.2) (by omega)⟩
    · skip
      refine xv_iconst hX (v := nI 1) dc_MD_equalNames_22 (by decide) (rfl : _ = 23) ?_
      refine xv_goto hX (pq := 27) dc_MD_equalNames_23 (by decide) ?_
      refine xv_reti hX hR (by decide) dc_MD_equalNames_27 ?_
      exact ⟨rfl, 1, rfl, by decide, fun _ => ⟨by omega, pi.mp (by omega)⟩, fun _ => rfl⟩

set_option maxRecDepth 100000 in
set_option maxHeartbeats 4000000 in
theorem ct_MD_within (ln : Launch) (Y : xw_Y) (M : xm_M) (i : Int32) (b1 : Nat) (j : Int32) (b2 : Nat) (hb1 : b1 < 2) (hb2 : b2 < 2) (As : Nat → ab_T) (hG : md_G M As) : xc_i ln qm_MD_within 10 Y [.ref (Y.2.2.2 277), .int i, .int (nI b1), .int j, .int (nI b2)] M (fun r M1 => md_Y md_al M M1 ∧ ((¬ ((0 ≤ i.toInt ∧ i.toInt < (M 277 2 : Nat)) ∧ 0 ≤ j.toInt ∧ j.toInt < (M 277 2 : Nat)) ∧ r = nI 0) ∨ ∃ x y, i = nI x ∧ j = nI y ∧ x < M 277 2 ∧ y < M 277 2 ∧ ∃ t, r = nI t ∧ t < 2 ∧ (t = 1 ↔ ab_nm (As y) b2 <+: ab_nm (As x) b1))) := by
  refine xc_i.mk .boolean rfl (by decide) (Nat.le_of_ble_eq_true rfl) ?_
  intro X hXl hX hR
  subst hXl
  have hX : xv_ok X Y prog_9_method_31_code "CertificatePathModel" 7 (xc_rm 10) := hX
  show xv_V X Y 7 0 0 xw_lk xw_N M 0 [(0, .ref (Y.2.2.2 277)), (1, .int i), (2, .int (nI b1)), (3, .int j), (4, .int (nI b2))] []
  obtain ⟨hk8, hb8, hkp⟩ := id hG
  refine xv_aload_n hX 0 dc_MD_within_0 rfl (rfl : _ = 1) ?_
  refine xv_iload_n hX 1 dc_MD_within_1 rfl (rfl : _ = 2) ?_
  refine xv_calli hX (As := [.int i]) (rest := []) (ct_MD_fetch _ Y M i As hG) ml_MD_183 li_MD_fetch rfl (by decide) rfl rfl rfl (by decide) ⟨by decide, by decide⟩ ⟨Nat.le_refl _, Nat.le_refl _⟩ (Nat.le_of_ble_eq_true rfl) dc_MD_within_2 (rfl : _ = 5) (fun r2 M2 p2 => ?_)
  obtain ⟨f2, h2⟩ := p2
  obtain ⟨t2, z2, ht2, hi2⟩ : ∃ t, r2 = nI t ∧ t < 2 ∧ (t = 1 ↔ (0 ≤ (i).toInt ∧ (i).toInt < (M 277 2 : Nat))) := by
    rcases h2 with ⟨h, hr⟩ | ⟨a, hva, ha, hr, -⟩
    · exact ⟨0, hr, by decide, fun z => absurd z (by decide), fun z => absurd z h⟩
    · exact ⟨1, hr, by decide, fun _ => by rw [hva, nI_toInt (by omega)]; omega, fun _ => rfl⟩
  rw [z2]
  have G2 := hG.y f2
  refine xv_if_ne hX (nI_toInt (by omega)) (tgt := 10) (pq := 8) dc_MD_within_5 (by decide) rfl (fun c5 => ?_) (fun c5 => ?_)
  · skip
    have hin := hi2.mp (by omega)
    obtain ⟨x, rfl, hx, -, hHx, -⟩ : ∃ a, i = nI a ∧ a < M 277 2 ∧ r2 = nI 1 ∧ md_A (M 278) M2 (As a) := by rcases h2 with ⟨h, -⟩ | h; exact absurd hin h; exact h
    clear h2
    have nx1 := hHx.2.1
    have nx0 := hHx.2.2.2.1
    obtain ⟨-, -, x1a, x1b⟩ := id nx1
    obtain ⟨-, -, x0a, x0b⟩ := id nx0
    have s2c : M2 277 2 = M 277 2 := f2.2 2 (by decide)
    refine xv_iload_n hX 2 dc_MD_within_10 rfl (rfl : _ = 11) ?_
    refine xv_if_eq hX (nI_toInt (by omega)) (tgt := 21) (pq := 14) dc_MD_within_11 (by decide) rfl (fun c11 => ?_) (fun c11 => ?_)
    · skip
      refine xv_aload_n hX 0 dc_MD_within_21 rfl (rfl : _ = 22) ?_
      refine xv_geti hX fl_MD_150 rfl rfl (by decide) (v := M2 277 22) rfl dc_MD_within_22 (rfl : _ = 25) ?_
      refine xv_istore hX [1, 2, 3, 4, 5, 0] dc_MD_within_25 (by decide) (L' := [(0, .ref (Y.2.2.2 277)), (1, .int (nI x)), (2, .int (nI b1)), (3, .int j), (4, .int (nI b2)), (5, .int (nI (M2 277 22)))]) rfl (rfl : _ = 27) ?_
      refine xv_iload_n hX 2 dc_MD_within_27 rfl (rfl : _ = 28) ?_
      refine xv_if_eq hX (nI_toInt (by omega)) (tgt := 38) (pq := 31) dc_MD_within_28 (by decide) rfl (fun c28 => ?_) (fun c28 => ?_)
      · skip
        refine xv_aload_n hX 0 dc_MD_within_38 rfl (rfl : _ = 39) ?_
        refine xv_geti hX fl_MD_153 rfl rfl (by decide) (v := M2 277 23) rfl dc_MD_within_39 (rfl : _ = 42) ?_
        refine xv_istore hX [1, 2, 3, 4, 5, 6, 0] dc_MD_within_42 (by decide) (L' := [(0, .ref (Y.2.2.2 277)), (1, .int (nI x)), (2, .int (nI b1)), (3, .int j), (4, .int (nI b2)), (5, .int (nI (M2 277 22))), (6, .int (nI (M2 277 23)))]) rfl (rfl : _ = 44) ?_
        refine xv_aload_n hX 0 dc_MD_within_44 rfl (rfl : _ = 45) ?_
        refine xv_iload_n hX 3 dc_MD_within_45 rfl (rfl : _ = 46) ?_
        refine xv_calli hX (As := [.int j]) (rest := []) (ct_MD_fetch _ Y M2 j As G2) ml_MD_183 li_MD_fetch rfl (by decide) rfl rfl rfl (by decide) ⟨by decide, by decide⟩ ⟨Nat.le_refl _, Nat.le_refl _⟩ (Nat.le_of_ble_eq_true rfl) dc_MD_within_46 (rfl : _ = 49) (fun r46 M46 p46 => ?_)
        obtain ⟨f46, h46⟩ := p46
        obtain ⟨t46, z46, ht46, hi46⟩ : ∃ t, r46 = nI t ∧ t < 2 ∧ (t = 1 ↔ (0 ≤ (j).toInt ∧ (j).toInt < (M2 277 2 : Nat))) := by
          rcases h46 with ⟨h, hr⟩ | ⟨a, hva, ha, hr, -⟩
          · exact ⟨0, hr, by decide, fun z => absurd z (by decide), fun z => absurd z h⟩
          · exact ⟨1, hr, by decide, fun _ => by rw [hva, nI_toInt (by omega)]; omega, fun _ => rfl⟩
        rw [z46]
        have G46 := G2.y f46
        refine xv_if_ne hX (nI_toInt (by omega)) (tgt := 54) (pq := 52) dc_MD_within_49 (by decide) rfl (fun c49 => ?_) (fun c49 => ?_)
        · skip
          have hin2 := hi46.mp (by omega)
          obtain ⟨y, rfl, hy, -, hHy, -⟩ : ∃ a, j = nI a ∧ a < M2 277 2 ∧ r46 = nI 1 ∧ md_A (M2 278) M46 (As a) := by rcases h46 with ⟨h, -⟩ | h; exact absurd hin2 h; exact h
          clear h46
          rw [f2.1 278 (by decide) (by decide)] at hHy
          have ny1 := hHy.2.1
          have ny0 := hHy.2.2.2.1
          obtain ⟨-, -, y1a, y1b⟩ := id ny1
          obtain ⟨-, -, y0a, y0b⟩ := id ny0
          refine xv_aload_n hX 0 dc_MD_within_54 rfl (rfl : _ = 55) ?_
          refine xv_iload hX 5 dc_MD_within_55 rfl (rfl : _ = 57) ?_
          refine xv_iload hX 6 dc_MD_within_57 rfl (rfl : _ = 59) ?_
          refine xv_iload hX 4 dc_MD_within_59 rfl (rfl : _ = 61) ?_
          refine xv_if_eq hX (nI_toInt (by omega)) (tgt := 71) (pq := 64) dc_MD_within_61 (by decide) rfl (fun c61 => ?_) (fun c61 => ?_)
          · skip
            refine xv_aload_n hX 0 dc_MD_within_71 rfl (rfl : _ = 72) ?_
            refine xv_geti hX fl_MD_150 rfl rfl (by decide) (v := M46 277 22) rfl dc_MD_within_72 (rfl : _ = 75) ?_
            refine xv_iload hX 4 dc_MD_within_75 rfl (rfl : _ = 77) ?_
            refine xv_if_eq hX (nI_toInt (by omega)) (tgt := 87) (pq := 80) dc_MD_within_77 (by decide) rfl (fun c77 => ?_) (fun c77 => ?_)
            · skip
              refine xv_aload_n hX 0 dc_MD_within_87 rfl (rfl : _ = 88) ?_
              refine xv_geti hX fl_MD_153 rfl rfl (by decide) (v := M46 277 23) rfl dc_MD_within_88 (rfl : _ = 91) ?_
              refine xv_calli hX (As := [.int (nI (M2 277 22)), .int (nI (M2 277 23)), .int (nI (M46 277 22)), .int (nI (M46 277 23))]) (rest := []) (ct_MD_inside _ Y M46 (M2 277 22) (M2 277 23) (M46 277 22) (M46 277 23) (by omega) (by omega) (by omega) (by omega) G46.2.1) ml_MD_186 li_MD_inside rfl (by decide) rfl rfl rfl (by decide) ⟨by decide, by decide⟩ ⟨Nat.le_refl _, Nat.le_refl _⟩ (Nat.le_of_ble_eq_true rfl) dc_MD_within_91 (rfl : _ = 94) (fun r91 M91 p91 => ?_)
              obtain ⟨pM, t, pr, pt, pi⟩ := p91
              rw [pM, pr]
              refine xv_reti hX hR (xi_z (by omega)) dc_MD_within_94 ?_
              refine ⟨f2.tt f46, Or.inr ⟨x, y, rfl, rfl, hx, by omega, t, rfl, pt, ?_⟩⟩
              rw [pi, f46.1 278 (by decide) (by decide), f2.1 278 (by decide) (by decide), show ab_nm (As x) b1 = _ from (if_pos (by omega)), show ab_nm (As y) b2 = _ from (if_pos (by omega))]
              exact nw_pre 4 4 nx0.2.2.1 ny0.2.2.1 nx0.1 ny0.1
            · skip
              exact absurd c77 (by omega)
          · skip
            refine xv_aload_n hX 0 dc_MD_within_64 rfl (rfl : _ = 65) ?_
            refine xv_geti hX fl_MD_135 rfl rfl (by decide) (v := M46 277 19) rfl dc_MD_within_65 (rfl : _ = 68) ?_
            refine xv_goto hX (pq := 75) dc_MD_within_68 (by decide) ?_
            refine xv_iload hX 4 dc_MD_within_75 rfl (rfl : _ = 77) ?_
            refine xv_if_eq hX (nI_toInt (by omega)) (tgt := 87) (pq := 80) dc_MD_within_77 (by decide) rfl (fun c77 => ?_) (fun c77 => ?_)
            · skip
              exact absurd c77 (by omega)
            · skip
              refine xv_aload_n hX 0 dc_MD_within_80 rfl (rfl : _ = 81) ?_
              refine xv_geti hX fl_MD_138 rfl rfl (by decide) (v := M46 277 20) rfl dc_MD_within_81 (rfl : _ = 84) ?_
              refine xv_goto hX (pq := 91) dc_MD_within_84 (by decide) ?_
              refine xv_calli hX (As := [.int (nI (M2 277 22)), .int (nI (M2 277 23)), .int (nI (M46 277 19)), .int (nI (M46 277 20))]) (rest := []) (ct_MD_inside _ Y M46 (M2 277 22) (M2 277 23) (M46 277 19) (M46 277 20) (by omega) (by omega) (by omega) (by omega) G46.2.1) ml_MD_186 li_MD_inside rfl (by decide) rfl rfl rfl (by decide) ⟨by decide, by decide⟩ ⟨Nat.le_refl _, Nat.le_refl _⟩ (Nat.le_of_ble_eq_true rfl) dc_MD_within_91 (rfl : _ = 94) (fun r91 M91 p91 => ?_)
              obtain ⟨pM, t, pr, pt, pi⟩ := p91
              rw [pM, pr]
              refine xv_reti hX hR (xi_z (by omega)) dc_MD_within_94 ?_
              refine ⟨f2.tt f46, Or.inr ⟨x, y, rfl, rfl, hx, by omega, t, rfl, pt, ?_⟩⟩
              rw [pi, f46.1 278 (by decide) (by decide), f2.1 278 (by decide) (by decide), show ab_nm (As x) b1 = _ from (if_pos (by omega)), show ab_nm (As y) b2 = _ from (if_neg (by omega))]
              exact nw_pre 4 4 nx0.2.2.1 ny1.2.2.1 nx0.1 ny1.1
        · skip
          refine xv_iconst hX (v := nI 0) dc_MD_within_52 (by decide) (rfl : _ = 53) ?_
          refine xv_reti hX hR (by decide) dc_MD_within_53 ?_
          exact ⟨f2.tt f46, Or.inl ⟨fun z => by have := hi46.mpr (by rw [s2c]; exact z.2); omega, rfl⟩⟩
      · skip
        exact absurd c28 (by omega)
    · skip
      refine xv_aload_n hX 0 dc_MD_within_14 rfl (rfl : _ = 15) ?_
      refine xv_geti hX fl_MD_135 rfl rfl (by decide) (v := M2 277 19) rfl dc_MD_within_15 (rfl : _ = 18) ?_
      refine xv_goto hX (pq := 25) dc_MD_within_18 (by decide) ?_
      refine xv_istore hX [1, 2, 3, 4, 5, 0] dc_MD_within_25 (by decide) (L' := [(0, .ref (Y.2.2.2 277)), (1, .int (nI x)), (2, .int (nI b1)), (3, .int j), (4, .int (nI b2)), (5, .int (nI (M2 277 19)))]) rfl (rfl : _ = 27) ?_
      refine xv_iload_n hX 2 dc_MD_within_27 rfl (rfl : _ = 28) ?_
      refine xv_if_eq hX (nI_toInt (by omega)) (tgt := 38) (pq := 31) dc_MD_within_28 (by decide) rfl (fun c28 => ?_) (fun c28 => ?_)
      · skip
        exact absurd c28 (by omega)
      · skip
        refine xv_aload_n hX 0 dc_MD_within_31 rfl (rfl : _ = 32) ?_
        refine xv_geti hX fl_MD_138 rfl rfl (by decide) (v := M2 277 20) rfl dc_MD_within_32 (rfl : _ = 35) ?_
        refine xv_goto hX (pq := 42) dc_MD_within_35 (by decide) ?_
        refine xv_istore hX [1, 2, 3, 4, 5, 6, 0] dc_MD_within_42 (by decide) (L' := [(0, .ref (Y.2.2.2 277)), (1, .int (nI x)), (2, .int (nI b1)), (3, .int j), (4, .int (nI b2)), (5, .int (nI (M2 277 19))), (6, .int (nI (M2 277 20)))]) rfl (rfl : _ = 44) ?_
        refine xv_aload_n hX 0 dc_MD_within_44 rfl (rfl : _ = 45) ?_
        refine xv_iload_n hX 3 dc_MD_within_45 rfl (rfl : _ = 46) ?_
        refine xv_calli hX (As := [.int j]) (rest := []) (ct_MD_fetch _ Y M2 j As G2) ml_MD_183 li_MD_fetch rfl (by decide) rfl rfl rfl (by decide) ⟨by decide, by decide⟩ ⟨Nat.le_refl _, Nat.le_refl _⟩ (Nat.le_of_ble_eq_true rfl) dc_MD_within_46 (rfl : _ = 49) (fun r46 M46 p46 => ?_)
        obtain ⟨f46, h46⟩ := p46
        obtain ⟨t46, z46, ht46, hi46⟩ : ∃ t, r46 = nI t ∧ t < 2 ∧ (t = 1 ↔ (0 ≤ (j).toInt ∧ (j).toInt < (M2 277 2 : Nat))) := by
          rcases h46 with ⟨h, hr⟩ | ⟨a, hva, ha, hr, -⟩
          · exact ⟨0, hr, by decide, fun z => absurd z (by decide), fun z => absurd z h⟩
          · exact ⟨1, hr, by decide, fun _ => by rw [hva, nI_toInt (by omega)]; omega, fun _ => rfl⟩
        rw [z46]
        have G46 := G2.y f46
        refine xv_if_ne hX (nI_toInt (by omega)) (tgt := 54) (pq := 52) dc_MD_within_49 (by decide) rfl (fun c49 => ?_) (fun c49 => ?_)
        · skip
          have hin2 := hi46.mp (by omega)
          obtain ⟨y, rfl, hy, -, hHy, -⟩ : ∃ a, j = nI a ∧ a < M2 277 2 ∧ r46 = nI 1 ∧ md_A (M2 278) M46 (As a) := by rcases h46 with ⟨h, -⟩ | h; exact absurd hin2 h; exact h
          clear h46
          rw [f2.1 278 (by decide) (by decide)] at hHy
          have ny1 := hHy.2.1
          have ny0 := hHy.2.2.2.1
          obtain ⟨-, -, y1a, y1b⟩ := id ny1
          obtain ⟨-, -, y0a, y0b⟩ := id ny0
          refine xv_aload_n hX 0 dc_MD_within_54 rfl (rfl : _ = 55) ?_
          refine xv_iload hX 5 dc_MD_within_55 rfl (rfl : _ = 57) ?_
          refine xv_iload hX 6 dc_MD_within_57 rfl (rfl : _ = 59) ?_
          refine xv_iload hX 4 dc_MD_within_59 rfl (rfl : _ = 61) ?_
          refine xv_if_eq hX (nI_toInt (by omega)) (tgt := 71) (pq := 64) dc_MD_within_61 (by decide) rfl (fun c61 => ?_) (fun c61 => ?_)
          · skip
            refine xv_aload_n hX 0 dc_MD_within_71 rfl (rfl : _ = 72) ?_
            refine xv_geti hX fl_MD_150 rfl rfl (by decide) (v := M46 277 22) rfl dc_MD_within_72 (rfl : _ = 75) ?_
            refine xv_iload hX 4 dc_MD_within_75 rfl (rfl : _ = 77) ?_
            refine xv_if_eq hX (nI_toInt (by omega)) (tgt := 87) (pq := 80) dc_MD_within_77 (by decide) rfl (fun c77 => ?_) (fun c77 => ?_)
            · skip
              refine xv_aload_n hX 0 dc_MD_within_87 rfl (rfl : _ = 88) ?_
              refine xv_geti hX fl_MD_153 rfl rfl (by decide) (v := M46 277 23) rfl dc_MD_within_88 (rfl : _ = 91) ?_
              refine xv_calli hX (As := [.int (nI (M2 277 19)), .int (nI (M2 277 20)), .int (nI (M46 277 22)), .int (nI (M46 277 23))]) (rest := []) (ct_MD_inside _ Y M46 (M2 277 19) (M2 277 20) (M46 277 22) (M46 277 23) (by omega) (by omega) (by omega) (by omega) G46.2.1) ml_MD_186 li_MD_inside rfl (by decide) rfl rfl rfl (by decide) ⟨by decide, by decide⟩ ⟨Nat.le_refl _, Nat.le_refl _⟩ (Nat.le_of_ble_eq_true rfl) dc_MD_within_91 (rfl : _ = 94) (fun r91 M91 p91 => ?_)
              obtain ⟨pM, t, pr, pt, pi⟩ := p91
              rw [pM, pr]
              refine xv_reti hX hR (xi_z (by omega)) dc_MD_within_94 ?_
              refine ⟨f2.tt f46, Or.inr ⟨x, y, rfl, rfl, hx, by omega, t, rfl, pt, ?_⟩⟩
              rw [pi, f46.1 278 (by decide) (by decide), f2.1 278 (by decide) (by decide), show ab_nm (As x) b1 = _ from (if_neg (by omega)), show ab_nm (As y) b2 = _ from (if_pos (by omega))]
              exact nw_pre 4 4 nx1.2.2.1 ny0.2.2.1 nx1.1 ny0.1
            · skip
              exact absurd c77 (by omega)
          · skip
            refine xv_aload_n hX 0 dc_MD_within_64 rfl (rfl : _ = 65) ?_
            refine xv_geti hX fl_MD_135 rfl rfl (by decide) (v := M46 277 19) rfl dc_MD_within_65 (rfl : _ = 68) ?_
            refine xv_goto hX (pq := 75) dc_MD_within_68 (by decide) ?_
            refine xv_iload hX 4 dc_MD_within_75 rfl (rfl : _ = 77) ?_
            refine xv_if_eq hX (nI_toInt (by omega)) (tgt := 87) (pq := 80) dc_MD_within_77 (by decide) rfl (fun c77 => ?_) (fun c77 => ?_)
            · skip
              exact absurd c77 (by omega)
            · skip
              refine xv_aload_n hX 0 dc_MD_within_80 rfl (rfl : _ = 81) ?_
              refine xv_geti hX fl_MD_138 rfl rfl (by decide) (v := M46 277 20) rfl dc_MD_within_81 (rfl : _ = 84) ?_
              refine xv_goto hX (pq := 91) dc_MD_within_84 (by decide) ?_
              refine xv_calli hX (As := [.int (nI (M2 277 19)), .int (nI (M2 277 20)), .int (nI (M46 277 19)), .int (nI (M46 277 20))]) (rest := []) (ct_MD_inside _ Y M46 (M2 277 19) (M2 277 20) (M46 277 19) (M46 277 20) (by omega) (by omega) (by omega) (by omega) G46.2.1) ml_MD_186 li_MD_inside rfl (by decide) rfl rfl rfl (by decide) ⟨by decide, by decide⟩ ⟨Nat.le_refl _, Nat.le_refl _⟩ (Nat.le_of_ble_eq_true rfl) dc_MD_within_91 (rfl : _ = 94) (fun r91 M91 p91 => ?_)
              obtain ⟨pM, t, pr, pt, pi⟩ := p91
              rw [pM, pr]
              refine xv_reti hX hR (xi_z (by omega)) dc_MD_within_94 ?_
              refine ⟨f2.tt f46, Or.inr ⟨x, y, rfl, rfl, hx, by omega, t, rfl, pt, ?_⟩⟩
              rw [pi, f46.1 278 (by decide) (by decide), f2.1 278 (by decide) (by decide), show ab_nm (As x) b1 = _ from (if_neg (by omega)), show ab_nm (As y) b2 = _ from (if_neg (by omega))]
              exact nw_pre 4 4 nx1.2.2.1 ny1.2.2.1 nx1.1 ny1.1
        · skip
          refine xv_iconst hX (v := nI 0) dc_MD_within_52 (by decide) (rfl : _ = 53) ?_
          refine xv_reti hX hR (by decide) dc_MD_within_53 ?_
          exact ⟨f2.tt f46, Or.inl ⟨fun z => by have := hi46.mpr (by rw [s2c]; exact z.2); omega, rfl⟩⟩
  · skip
    refine xv_iconst hX (v := nI 0) dc_MD_within_8 (by decide) (rfl : _ = 9) ?_
    refine xv_reti hX hR (by decide) dc_MD_within_9 ?_
    exact ⟨f2, Or.inl ⟨fun z => by have := hi2.mpr z.1; omega, rfl⟩⟩
