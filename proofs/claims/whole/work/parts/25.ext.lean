/-! Extension; bits -/
set_option maxRecDepth 100000 in
set_option maxHeartbeats 4000000 in
theorem ct_EX_isKnown (l : Launch) (Y : xw_Y) (M : xm_M) (p : Nat) (hp : xk_ex p) (h1 : M p 0 < 256) : xc_i l qm_EX_isKnown 0 Y [.ref (Y.2.2.2 p)] M (fun r M1 => M1 = M ∧ ∃ t : Nat, r = nI t ∧ t < 2 ∧ (t = 1 ↔ (M p 0 = 1 ∨ M p 0 = 2 ∨ M p 0 = 3))) := by
  refine xc_i.mk .boolean rfl (by decide) (Nat.le_of_ble_eq_true rfl) ?_
  intro X hXl hX hR
  subst hXl
  have hX : xv_ok X Y prog_4_method_2_code "CertificatePath$Extension" 1 (xc_rm 0) := hX
  show xv_V X Y 1 0 0 xw_lk xw_N M 0 [(0, .ref (Y.2.2.2 p))] []
  refine xv_aload_n hX 0 dc_EX_isKnown_0 rfl (rfl : _ = 1) ?_
  refine xv_geti hX fl_EX_9 rfl hp.1 (xk_N (Nat.lt_of_succ_lt hp.2.2.2.2)) (v := M p 0) rfl dc_EX_isKnown_1 (rfl : _ = 4) ?_
  refine xv_iconst hX (v := nI 1) dc_EX_isKnown_4 (by decide) (rfl : _ = 5) ?_
  refine xv_icmp_eq hX (nI_toInt (by omega)) (show (nI 1).toInt = 1 by decide) (tgt := 24) (pq := 8) dc_EX_isKnown_5 (by decide) rfl (fun c5 => ?_) (fun c5 => ?_)
  · skip
    refine xv_iconst hX (v := nI 1) dc_EX_isKnown_24 (by decide) (rfl : _ = 25) ?_
    refine xv_goto hX (pq := 29) dc_EX_isKnown_25 (by decide) ?_
    refine xv_reti hX hR (by decide) dc_EX_isKnown_29 ?_
    exact ⟨rfl, 1, rfl, by decide, by omega, by omega⟩
  · skip
    refine xv_aload_n hX 0 dc_EX_isKnown_8 rfl (rfl : _ = 9) ?_
    refine xv_geti hX fl_EX_9 rfl hp.1 (xk_N (Nat.lt_of_succ_lt hp.2.2.2.2)) (v := M p 0) rfl dc_EX_isKnown_9 (rfl : _ = 12) ?_
    refine xv_iconst hX (v := nI 2) dc_EX_isKnown_12 (by decide) (rfl : _ = 13) ?_
    refine xv_icmp_eq hX (nI_toInt (by omega)) (show (nI 2).toInt = 2 by decide) (tgt := 24) (pq := 16) dc_EX_isKnown_13 (by decide) rfl (fun c13 => ?_) (fun c13 => ?_)
    · skip
      refine xv_iconst hX (v := nI 1) dc_EX_isKnown_24 (by decide) (rfl : _ = 25) ?_
      refine xv_goto hX (pq := 29) dc_EX_isKnown_25 (by decide) ?_
      refine xv_reti hX hR (by decide) dc_EX_isKnown_29 ?_
      exact ⟨rfl, 1, rfl, by decide, by omega, by omega⟩
    · skip
      refine xv_aload_n hX 0 dc_EX_isKnown_16 rfl (rfl : _ = 17) ?_
      refine xv_geti hX fl_EX_9 rfl hp.1 (xk_N (Nat.lt_of_succ_lt hp.2.2.2.2)) (v := M p 0) rfl dc_EX_isKnown_17 (rfl : _ = 20) ?_
      refine xv_iconst hX (v := nI 3) dc_EX_isKnown_20 (by decide) (rfl : _ = 21) ?_
      refine xv_icmp_ne hX (nI_toInt (by omega)) (show (nI 3).toInt = 3 by decide) (tgt := 28) (pq := 24) dc_EX_isKnown_21 (by decide) rfl (fun c21 => ?_) (fun c21 => ?_)
      · skip
        refine xv_iconst hX (v := nI 0) dc_EX_isKnown_28 (by decide) (rfl : _ = 29) ?_
        refine xv_reti hX hR (by decide) dc_EX_isKnown_29 ?_
        exact ⟨rfl, 0, rfl, by decide, by omega, by omega⟩
      · skip
        refine xv_iconst hX (v := nI 1) dc_EX_isKnown_24 (by decide) (rfl : _ = 25) ?_
        refine xv_goto hX (pq := 29) dc_EX_isKnown_25 (by decide) ?_
        refine xv_reti hX hR (by decide) dc_EX_isKnown_29 ?_
        exact ⟨rfl, 1, rfl, by decide, by omega, by omega⟩

set_option maxRecDepth 100000 in
set_option maxHeartbeats 4000000 in
theorem ct_EX_readOctets (l : Launch) (Y : xw_Y) (M : xm_M) (p : Nat) (hp : xk_ex p) (hI : rd_I M) : xc_v l qm_EX_readOctets 1 Y [.ref (Y.2.2.2 p), .ref (Y.2.2.2 1)] M (fun M1 => rd_I M1 ∧ ex_F p M M1 ∧ rd_of M1 = rd_oct (rd_of M) ∧ ∀ i l ls, rd_of M = some (i, l :: ls) → l - i ≤ 20 → M1 p 3 = l - i ∧ ∀ j, j < l - i → M1 (p + 1) j = M 3 (i + j)) := by
  refine xc_v.mk rfl (by decide) (Nat.le_of_ble_eq_true rfl) ?_
  intro X hXl hX hR
  subst hXl
  have hX : xv_ok X Y prog_4_method_3_code "CertificatePath$Extension" 3 (xc_rm 1) := hX
  show xv_V X Y 3 0 0 xw_lk xw_N M 0 [(0, .ref (Y.2.2.2 p)), (1, .ref (Y.2.2.2 1))] []
  have hp6 := hp.2.2.2.1
  have hn := rd_rem_le hI
  have hc0 : ∀ q, q < 6 → (xm_set M p 3 (rd_rem (rd_of M))) q = M q := fun q hq => xm_oth (by omega)
  have hI0 : rd_I (xm_set M p 3 (rd_rem (rd_of M))) := hI.cg hc0
  have ho0 : rd_of (xm_set M p 3 (rd_rem (rd_of M))) = rd_of M := rd_of_cg hc0
  refine xv_aload_n hX 0 dc_EX_readOctets_0 rfl (rfl : _ = 1) ?_
  refine xv_aload_n hX 1 dc_EX_readOctets_1 rfl (rfl : _ = 2) ?_
  refine xv_calli hX (As := []) (rest := [.ref (Y.2.2.2 p)]) (ct_RD_remaining _ Y M hI) ml_EX_26 li_RD_remaining rfl (by decide) rfl rfl rfl (by decide) ⟨by decide, by decide⟩ ⟨Nat.le_refl _, Nat.le_refl _⟩ (Nat.le_of_ble_eq_true rfl) dc_EX_readOctets_2 (rfl : _ = 5) (fun r2 M2 p2 => ?_)
  rw [p2.1, p2.2]
  refine xv_puti hX fl_EX_23 rfl hp.1 (xk_N (Nat.lt_of_succ_lt hp.2.2.2.2)) dc_EX_readOctets_5 (rfl : _ = 8) ?_
  refine xv_aload_n hX 0 dc_EX_readOctets_8 rfl (rfl : _ = 9) ?_
  refine xv_geti hX fl_EX_23 rfl hp.1 (xk_N (Nat.lt_of_succ_lt hp.2.2.2.2)) (v := rd_rem (rd_of M)) xm_eq dc_EX_readOctets_9 (rfl : _ = 12) ?_
  refine xv_aload_n hX 0 dc_EX_readOctets_12 rfl (rfl : _ = 13) ?_
  refine xv_getr hX fl_EX_19 rfl hp.1 (xk_N (Nat.lt_of_succ_lt hp.2.2.2.2)) hp.2.2.1 dc_EX_readOctets_13 (rfl : _ = 16) ?_
  refine xv_alen hX (n := 20) hp.2.1 ⟨_, rfl⟩ (xk_N hp.2.2.2.2) dc_EX_readOctets_16 (rfl : _ = 17) ?_
  refine xv_icmp_le hX (nI_toInt (by omega)) (show (nI 20).toInt = 20 by decide) (tgt := 29) (pq := 20) dc_EX_readOctets_17 (by decide) rfl (fun c17 => ?_) (fun c17 => ?_)
  · skip
    refine xv_iconst hX (v := nI 0) dc_EX_readOctets_29 (by decide) (rfl : _ = 30) ?_
    refine xv_istore_n hX [1, 2, 0] dc_EX_readOctets_30 (by decide) (L' := [(0, .ref (Y.2.2.2 p)), (1, .ref (Y.2.2.2 1)), (2, .int (nI 0))]) rfl (rfl : _ = 31) ?_
    have lp31 : ∀ (n : Nat) (Mk : xm_M) (N : Nat) (k : Nat) (hN : N ≤ 20) (hk : k ≤ N) (hz : Mk p 3 = N) (hIk : rd_I Mk) (hF : ex_F p M Mk) (hJ : ex_J (M 3) (rd_of M) (Mk (p + 1)) (rd_of Mk) N k), N - k < n → xv_V X Y 3 0 0 xw_lk xw_N Mk 31 [(0, .ref (Y.2.2.2 p)), (1, .ref (Y.2.2.2 1)), (2, .int (nI k))] [] := by
      intro n31
      induction n31 with
      | zero => intro Mk N k hN hk hz hIk hF hJ hm31; exact absurd hm31 (Nat.not_lt_zero _)
      | succ n31 ih31 =>
        intro Mk N k hN hk hz hIk hF hJ hm31
        refine xv_iload_n hX 2 dc_EX_readOctets_31 rfl (rfl : _ = 32) ?_
        refine xv_aload_n hX 0 dc_EX_readOctets_32 rfl (rfl : _ = 33) ?_
        refine xv_geti hX fl_EX_23 rfl hp.1 (xk_N (Nat.lt_of_succ_lt hp.2.2.2.2)) (v := Mk p 3) rfl dc_EX_readOctets_33 (rfl : _ = 36) ?_
        refine xv_icmp_ge hX (nI_toInt (by omega)) (nI_toInt (by omega)) (tgt := 55) (pq := 39) dc_EX_readOctets_36 (by decide) rfl (fun c36 => ?_) (fun c36 => ?_)
        · skip
          refine xv_retv hX hR dc_EX_readOctets_55 ?_
          refine ⟨hIk, hF, ?_, ?_⟩
          · rcases hJ with ⟨h1, -, h2⟩ | ⟨i, l, ls, h1, h2, h3, h4, h5, h6⟩
            · rw [h1, h2]
            · rw [h5, h1]
              show _ = if l - i ≤ 20 then some (l, l :: ls) else none
              rw [if_pos h3, show i + k = l by omega]
          · intro i l ls hs hle
            rcases hJ with ⟨-, -, h2⟩ | ⟨i', l', ls', h1, h2, h3, h4, h5, h6⟩
            · rw [hs] at h2
              exact absurd (h2.symm.trans (if_pos hle)) (by simp)
            · rw [hs] at h1
              simp only [Option.some.injEq, Prod.mk.injEq, List.cons.injEq] at h1
              obtain ⟨rfl, rfl, rfl⟩ := h1
              exact ⟨by omega, fun j hj => h6 j (by omega)⟩
        · skip
          refine xv_aload_n hX 0 dc_EX_readOctets_39 rfl (rfl : _ = 40) ?_
          refine xv_getr hX fl_EX_19 rfl hp.1 (xk_N (Nat.lt_of_succ_lt hp.2.2.2.2)) hp.2.2.1 dc_EX_readOctets_40 (rfl : _ = 43) ?_
          refine xv_iload_n hX 2 dc_EX_readOctets_43 rfl (rfl : _ = 44) ?_
          refine xv_aload_n hX 1 dc_EX_readOctets_44 rfl (rfl : _ = 45) ?_
          refine xv_calli hX (As := []) (rest := [.int (nI k), .ref (Y.2.2.2 (p + 1))]) (ct_RD_readByte _ Y Mk hIk) ml_EX_35 li_RD_readByte rfl (by decide) rfl rfl rfl (by decide) ⟨by decide, by decide⟩ ⟨Nat.le_refl _, Nat.le_refl _⟩ (Nat.le_of_ble_eq_true rfl) dc_EX_readOctets_45 (rfl : _ = 48) (fun r45 M45 p45 => ?_)
          obtain ⟨⟨i45, f45, e45⟩, z45⟩ := p45
          have bk : Mk 3 = M 3 := hF.1 3 (by decide) (by decide) (by omega) (by omega)
          rw [bk] at z45
          have hw1 : rd_byte (M 3) (rd_of Mk) < 256 := by have h := rd_byte_lt hIk; rw [bk] at h; exact h
          obtain ⟨w, hw⟩ : ∃ w, rd_byte (M 3) (rd_of Mk) = w := ⟨_, rfl⟩
          rw [z45, hw]
          have hc9 : ∀ q, q < 6 → (xm_set M45 (p + 1) k w) q = M45 q := fun q hq => xm_oth (by omega)
          refine xv_iast hX hp.2.1 (xk_N hp.2.2.2.2) (by omega) (by decide) dc_EX_readOctets_48 (rfl : _ = 49) ?_
          refine xv_iinc hX 2 [1, 2, 0] dc_EX_readOctets_49 rfl (xi_inc k 1) (by decide) (L' := [(0, .ref (Y.2.2.2 p)), (1, .ref (Y.2.2.2 1)), (2, .int (nI (k + 1)))]) rfl (rfl : _ = 52) ?_
          refine xv_goto hX (pq := 31) dc_EX_readOctets_52 (by decide) ?_
          refine xv_sub (L' := [(0, .ref (Y.2.2.2 p)), (1, .ref (Y.2.2.2 1)), (2, .int (nI (k + 1)))]) [0, 1, 2] rfl ?_
          exact ih31 (xm_set M45 (p + 1) k w) N (k + 1) hN (by omega) (by rw [xm_oth (by omega), f45 p (by omega) (by omega)]; exact hz) (i45.cg hc9) (by refine ⟨fun q a1 a2 a3 a4 => ?_, ?_, ?_⟩; rw [xm_oth a4, f45 q a1 a2]; exact hF.1 q a1 a2 a3 a4; rw [xm_oth (by omega), f45 p (by omega) (by omega)]; exact hF.2.1; rw [xm_oth (by omega), f45 p (by omega) (by omega)]; exact hF.2.2) (by rw [rd_of_cg hc9, e45]; exact ex_J1 hJ (by omega) (fun j hj => by rw [xm_row, f45 (p + 1) (by omega) (by omega), hw])) (by omega)
    refine xv_sub (L' := [(0, .ref (Y.2.2.2 p)), (1, .ref (Y.2.2.2 1)), (2, .int (nI 0))]) [0, 1, 2] rfl ?_
    exact lp31 _ (xm_set M p 3 (rd_rem (rd_of M))) (rd_rem (rd_of M)) 0 (by omega) (Nat.zero_le _) xm_eq hI0 (by refine ⟨fun q a1 a2 a3 a4 => xm_oth a3, xm_nk (by decide), xm_nk (by decide)⟩) (by rw [ho0]; exact ex_J0 hI (by omega)) (Nat.lt_succ_self _)
  · skip
    refine xv_aload_n hX 1 dc_EX_readOctets_20 rfl (rfl : _ = 21) ?_
    refine xv_callv hX (As := []) (rest := []) (ct_RD_refuse _ Y (xm_set M p 3 (rd_rem (rd_of M))) hI0) ml_EX_32 li_RD_refuse rfl (by decide) rfl rfl rfl (by decide) ⟨by decide, by decide⟩ ⟨Nat.le_refl _, Nat.le_refl _⟩ (Nat.le_of_ble_eq_true rfl) dc_EX_readOctets_21 (rfl : _ = 24) (fun M21 p21 => ?_)
    obtain ⟨i21, f21, e21⟩ := p21
    have hc21 : ∀ q, q < 6 → (xm_set M21 p 3 0) q = M21 q := fun q hq => xm_oth (by omega)
    have hbig : rd_oct (rd_of M) = none := by
      rcases hs : rd_of M with _ | ⟨i, _ | ⟨l, ls⟩⟩
      · rfl
      · rfl
      · rw [hs] at c17
        simp only [rd_rem] at c17
        exact if_neg (by omega)
    refine xv_aload_n hX 0 dc_EX_readOctets_24 rfl (rfl : _ = 25) ?_
    refine xv_iconst hX (v := nI 0) dc_EX_readOctets_25 (by decide) (rfl : _ = 26) ?_
    refine xv_puti hX fl_EX_23 rfl hp.1 (xk_N (Nat.lt_of_succ_lt hp.2.2.2.2)) dc_EX_readOctets_26 (rfl : _ = 29) ?_
    refine xv_iconst hX (v := nI 0) dc_EX_readOctets_29 (by decide) (rfl : _ = 30) ?_
    refine xv_istore_n hX [1, 2, 0] dc_EX_readOctets_30 (by decide) (L' := [(0, .ref (Y.2.2.2 p)), (1, .ref (Y.2.2.2 1)), (2, .int (nI 0))]) rfl (rfl : _ = 31) ?_
    have lp31 : ∀ (n : Nat) (Mk : xm_M) (N : Nat) (k : Nat) (hN : N ≤ 20) (hk : k ≤ N) (hz : Mk p 3 = N) (hIk : rd_I Mk) (hF : ex_F p M Mk) (hJ : ex_J (M 3) (rd_of M) (Mk (p + 1)) (rd_of Mk) N k), N - k < n → xv_V X Y 3 0 0 xw_lk xw_N Mk 31 [(0, .ref (Y.2.2.2 p)), (1, .ref (Y.2.2.2 1)), (2, .int (nI k))] [] := by
      intro n31
      induction n31 with
      | zero => intro Mk N k hN hk hz hIk hF hJ hm31; exact absurd hm31 (Nat.not_lt_zero _)
      | succ n31 ih31 =>
        intro Mk N k hN hk hz hIk hF hJ hm31
        refine xv_iload_n hX 2 dc_EX_readOctets_31 rfl (rfl : _ = 32) ?_
        refine xv_aload_n hX 0 dc_EX_readOctets_32 rfl (rfl : _ = 33) ?_
        refine xv_geti hX fl_EX_23 rfl hp.1 (xk_N (Nat.lt_of_succ_lt hp.2.2.2.2)) (v := Mk p 3) rfl dc_EX_readOctets_33 (rfl : _ = 36) ?_
        refine xv_icmp_ge hX (nI_toInt (by omega)) (nI_toInt (by omega)) (tgt := 55) (pq := 39) dc_EX_readOctets_36 (by decide) rfl (fun c36 => ?_) (fun c36 => ?_)
        · skip
          refine xv_retv hX hR dc_EX_readOctets_55 ?_
          refine ⟨hIk, hF, ?_, ?_⟩
          · rcases hJ with ⟨h1, -, h2⟩ | ⟨i, l, ls, h1, h2, h3, h4, h5, h6⟩
            · rw [h1, h2]
            · rw [h5, h1]
              show _ = if l - i ≤ 20 then some (l, l :: ls) else none
              rw [if_pos h3, show i + k = l by omega]
          · intro i l ls hs hle
            rcases hJ with ⟨-, -, h2⟩ | ⟨i', l', ls', h1, h2, h3, h4, h5, h6⟩
            · rw [hs] at h2
              exact absurd (h2.symm.trans (if_pos hle)) (by simp)
            · rw [hs] at h1
              simp only [Option.some.injEq, Prod.mk.injEq, List.cons.injEq] at h1
              obtain ⟨rfl, rfl, rfl⟩ := h1
              exact ⟨by omega, fun j hj => h6 j (by omega)⟩
        · skip
          refine xv_aload_n hX 0 dc_EX_readOctets_39 rfl (rfl : _ = 40) ?_
          refine xv_getr hX fl_EX_19 rfl hp.1 (xk_N (Nat.lt_of_succ_lt hp.2.2.2.2)) hp.2.2.1 dc_EX_readOctets_40 (rfl : _ = 43) ?_
          refine xv_iload_n hX 2 dc_EX_readOctets_43 rfl (rfl : _ = 44) ?_
          refine xv_aload_n hX 1 dc_EX_readOctets_44 rfl (rfl : _ = 45) ?_
          refine xv_calli hX (As := []) (rest := [.int (nI k), .ref (Y.2.2.2 (p + 1))]) (ct_RD_readByte _ Y Mk hIk) ml_EX_35 li_RD_readByte rfl (by decide) rfl rfl rfl (by decide) ⟨by decide, by decide⟩ ⟨Nat.le_refl _, Nat.le_refl _⟩ (Nat.le_of_ble_eq_true rfl) dc_EX_readOctets_45 (rfl : _ = 48) (fun r45 M45 p45 => ?_)
          obtain ⟨⟨i45, f45, e45⟩, z45⟩ := p45
          have bk : Mk 3 = M 3 := hF.1 3 (by decide) (by decide) (by omega) (by omega)
          rw [bk] at z45
          have hw1 : rd_byte (M 3) (rd_of Mk) < 256 := by have h := rd_byte_lt hIk; rw [bk] at h; exact h
          obtain ⟨w, hw⟩ : ∃ w, rd_byte (M 3) (rd_of Mk) = w := ⟨_, rfl⟩
          rw [z45, hw]
          have hc9 : ∀ q, q < 6 → (xm_set M45 (p + 1) k w) q = M45 q := fun q hq => xm_oth (by omega)
          refine xv_iast hX hp.2.1 (xk_N hp.2.2.2.2) (by omega) (by decide) dc_EX_readOctets_48 (rfl : _ = 49) ?_
          refine xv_iinc hX 2 [1, 2, 0] dc_EX_readOctets_49 rfl (xi_inc k 1) (by decide) (L' := [(0, .ref (Y.2.2.2 p)), (1, .ref (Y.2.2.2 1)), (2, .int (nI (k + 1)))]) rfl (rfl : _ = 52) ?_
          refine xv_goto hX (pq := 31) dc_EX_readOctets_52 (by decide) ?_
          refine xv_sub (L' := [(0, .ref (Y.2.2.2 p)), (1, .ref (Y.2.2.2 1)), (2, .int (nI (k + 1)))]) [0, 1, 2] rfl ?_
          exact ih31 (xm_set M45 (p + 1) k w) N (k + 1) hN (by omega) (by rw [xm_oth (by omega), f45 p (by omega) (by omega)]; exact hz) (i45.cg hc9) (by refine ⟨fun q a1 a2 a3 a4 => ?_, ?_, ?_⟩; rw [xm_oth a4, f45 q a1 a2]; exact hF.1 q a1 a2 a3 a4; rw [xm_oth (by omega), f45 p (by omega) (by omega)]; exact hF.2.1; rw [xm_oth (by omega), f45 p (by omega) (by omega)]; exact hF.2.2) (by rw [rd_of_cg hc9, e45]; exact ex_J1 hJ (by omega) (fun j hj => by rw [xm_row, f45 (p + 1) (by omega) (by omega), hw])) (by omega)
    refine xv_sub (L' := [(0, .ref (Y.2.2.2 p)), (1, .ref (Y.2.2.2 1)), (2, .int (nI 0))]) [0, 1, 2] rfl ?_
    exact lp31 _ (xm_set M21 p 3 0) 0 0 (by decide) (by decide) xm_eq (i21.cg hc21) (by refine ⟨fun q a1 a2 a3 a4 => ?_, ?_, ?_⟩; rw [xm_oth a3, f21 q a1 a2, xm_oth a3]; rw [xm_nk (by decide), f21 p (by omega) (by omega), xm_nk (by decide)]; rw [xm_nk (by decide), f21 p (by omega) (by omega), xm_nk (by decide)]) (by rw [rd_of_cg hc21, e21]; exact Or.inl ⟨rfl, rfl, hbig⟩) (Nat.lt_succ_self _)

set_option maxRecDepth 100000 in
set_option maxHeartbeats 4000000 in
theorem ct_CT_mirrored (l : Launch) (Y : xw_Y) (M : xm_M) (x : Nat) (hx : x < 256) : xc_i l qm_CT_mirrored 0 Y [.int (nI x)] M (fun r M1 => M1 = M ∧ r = nI (ps_mir x 8)) := by
  refine xc_i.mk .int rfl (by decide) (Nat.le_of_ble_eq_true rfl) ?_
  intro X hXl hX hR
  subst hXl
  have hX : xv_ok X Y prog_3_method_24_code "CertificatePath$Certificate" 3 (xc_rm 0) := hX
  show xv_V X Y 3 0 0 xw_lk xw_N M 0 [(0, .int (nI x))] []
  refine xv_iconst hX (v := nI 0) dc_CT_mirrored_0 (by decide) (rfl : _ = 1) ?_
  refine xv_istore_n hX [1, 0] dc_CT_mirrored_1 (by decide) (L' := [(0, .int (nI x)), (1, .int (nI 0))]) rfl (rfl : _ = 2) ?_
  refine xv_iconst hX (v := nI 0) dc_CT_mirrored_2 (by decide) (rfl : _ = 3) ?_
  refine xv_istore_n hX [1, 2, 0] dc_CT_mirrored_3 (by decide) (L' := [(0, .int (nI x)), (1, .int (nI 0)), (2, .int (nI 0))]) rfl (rfl : _ = 4) ?_
  have lp4 : ∀ (n : Nat) (k : Nat) (v : Nat) (hk : k ≤ 8) (hv : v = ps_mir x k), 8 - k < n → xv_V X Y 3 0 0 xw_lk xw_N M 4 [(0, .int (nI x)), (1, .int (nI v)), (2, .int (nI k))] [] := by
    intro n4
    induction n4 with
    | zero => intro k v hk hv hm4; exact absurd hm4 (Nat.not_lt_zero _)
    | succ n4 ih4 =>
      intro k v hk hv hm4
      refine xv_iload_n hX 2 dc_CT_mirrored_4 rfl (rfl : _ = 5) ?_
      refine xv_bipush hX (v := nI 8) dc_CT_mirrored_5 (by decide) (rfl : _ = 7) ?_
      refine xv_icmp_ge hX (nI_toInt (by omega)) (show (nI 8).toInt = 8 by decide) (tgt := 26) (pq := 10) dc_CT_mirrored_7 (by decide) rfl (fun c7 => ?_) (fun c7 => ?_)
      · skip
        refine xv_iload_n hX 1 dc_CT_mirrored_26 rfl (rfl : _ = 27) ?_
        refine xv_reti hX hR rfl dc_CT_mirrored_27 ?_
        exact ⟨rfl, by rw [hv, show k = 8 by omega]⟩
      · skip
        subst hv
        refine xv_iload_n hX 1 dc_CT_mirrored_10 rfl (rfl : _ = 11) ?_
        refine xv_iconst hX (v := nI 1) dc_CT_mirrored_11 (by decide) (rfl : _ = 12) ?_
        refine xv_ishl hX dc_CT_mirrored_12 (xi_shl1 _) (rfl : _ = 13) ?_
        refine xv_iload_n hX 0 dc_CT_mirrored_13 rfl (rfl : _ = 14) ?_
        refine xv_iload_n hX 2 dc_CT_mirrored_14 rfl (rfl : _ = 15) ?_
        refine xv_iushr hX dc_CT_mirrored_15 (xi_ushr (by omega) (by omega)) (rfl : _ = 16) ?_
        refine xv_iconst hX (v := nI 1) dc_CT_mirrored_16 (by decide) (rfl : _ = 17) ?_
        refine xv_iand hX dc_CT_mirrored_17 (xi_and1 (by have := Nat.div_le_self x (2 ^ k); omega)) (rfl : _ = 18) ?_
        refine xv_ior hX dc_CT_mirrored_18 (xi_or1 (Nat.mod_lt _ (by decide))) (rfl : _ = 19) ?_
        refine xv_istore_n hX [1, 0, 2] dc_CT_mirrored_19 (by decide) (L' := [(0, .int (nI x)), (1, .int (nI (ps_mir x k * 2 + x / 2 ^ k % 2))), (2, .int (nI k))]) rfl (rfl : _ = 20) ?_
        refine xv_iinc hX 2 [1, 2, 0] dc_CT_mirrored_20 rfl (xi_inc k 1) (by decide) (L' := [(0, .int (nI x)), (1, .int (nI (ps_mir x k * 2 + x / 2 ^ k % 2))), (2, .int (nI (k + 1)))]) rfl (rfl : _ = 23) ?_
        refine xv_goto hX (pq := 4) dc_CT_mirrored_23 (by decide) ?_
        refine xv_sub (L' := [(0, .int (nI x)), (1, .int (nI (ps_mir x k * 2 + x / 2 ^ k % 2))), (2, .int (nI (k + 1)))]) [0, 1, 2] rfl ?_
        exact ih4 (k + 1) _ (by omega) (by show _ = 2 * ps_mir x k + _; omega) (by omega)
  refine xv_sub (L' := [(0, .int (nI x)), (1, .int (nI 0)), (2, .int (nI 0))]) [0, 1, 2] rfl ?_
  exact lp4 _ 0 0 (by decide) rfl (Nat.lt_succ_self _)

set_option maxRecDepth 100000 in
set_option maxHeartbeats 4000000 in
theorem ct_CT_zerosBehind (l : Launch) (Y : xw_Y) (M : xm_M) (x : Nat) (hx : x < 256) : xc_i l qm_CT_zerosBehind 0 Y [.int (nI x)] M (fun r M1 => M1 = M ∧ r = nI (ps_tz x 8 0)) := by
  refine xc_i.mk .int rfl (by decide) (Nat.le_of_ble_eq_true rfl) ?_
  intro X hXl hX hR
  subst hXl
  have hX : xv_ok X Y prog_3_method_25_code "CertificatePath$Certificate" 2 (xc_rm 0) := hX
  show xv_V X Y 2 0 0 xw_lk xw_N M 0 [(0, .int (nI x))] []
  refine xv_iconst hX (v := nI 0) dc_CT_zerosBehind_0 (by decide) (rfl : _ = 1) ?_
  refine xv_istore_n hX [1, 0] dc_CT_zerosBehind_1 (by decide) (L' := [(0, .int (nI x)), (1, .int (nI 0))]) rfl (rfl : _ = 2) ?_
  have lp2 : ∀ (n : Nat) (k : Nat) (hk : k ≤ 8) (hv : ps_tz x 8 0 = ps_tz x (8 - k) k), 8 - k < n → xv_V X Y 2 0 0 xw_lk xw_N M 2 [(0, .int (nI x)), (1, .int (nI k))] [] := by
    intro n2
    induction n2 with
    | zero => intro k hk hv hm2; exact absurd hm2 (Nat.not_lt_zero _)
    | succ n2 ih2 =>
      intro k hk hv hm2
      refine xv_iload_n hX 1 dc_CT_zerosBehind_2 rfl (rfl : _ = 3) ?_
      refine xv_bipush hX (v := nI 8) dc_CT_zerosBehind_3 (by decide) (rfl : _ = 5) ?_
      refine xv_icmp_ge hX (nI_toInt (by omega)) (show (nI 8).toInt = 8 by decide) (tgt := 22) (pq := 8) dc_CT_zerosBehind_5 (by decide) rfl (fun c5 => ?_) (fun c5 => ?_)
      · skip
        refine xv_iload_n hX 1 dc_CT_zerosBehind_22 rfl (rfl : _ = 23) ?_
        refine xv_reti hX hR rfl dc_CT_zerosBehind_23 ?_
        refine ⟨rfl, congrArg nI ?_⟩
        rw [hv]
        first
        | (rw [show k = 8 by omega]; rfl)
        | (rw [show 8 - k = (8 - (k + 1)) + 1 by omega]; exact (if_neg (by omega)).symm)
      · skip
        refine xv_iload_n hX 0 dc_CT_zerosBehind_8 rfl (rfl : _ = 9) ?_
        refine xv_iload_n hX 1 dc_CT_zerosBehind_9 rfl (rfl : _ = 10) ?_
        refine xv_iushr hX dc_CT_zerosBehind_10 (xi_ushr (by omega) (by omega)) (rfl : _ = 11) ?_
        refine xv_iconst hX (v := nI 1) dc_CT_zerosBehind_11 (by decide) (rfl : _ = 12) ?_
        refine xv_iand hX dc_CT_zerosBehind_12 (xi_and1 (by have := Nat.div_le_self x (2 ^ k); omega)) (rfl : _ = 13) ?_
        refine xv_if_ne hX (nI_toInt (by omega)) (tgt := 22) (pq := 16) dc_CT_zerosBehind_13 (by decide) rfl (fun c13 => ?_) (fun c13 => ?_)
        · skip
          refine xv_iload_n hX 1 dc_CT_zerosBehind_22 rfl (rfl : _ = 23) ?_
          refine xv_reti hX hR rfl dc_CT_zerosBehind_23 ?_
          refine ⟨rfl, congrArg nI ?_⟩
          rw [hv]
          first
          | (rw [show k = 8 by omega]; rfl)
          | (rw [show 8 - k = (8 - (k + 1)) + 1 by omega]; exact (if_neg (by omega)).symm)
        · skip
          refine xv_iinc hX 1 [1, 0] dc_CT_zerosBehind_16 rfl (xi_inc k 1) (by decide) (L' := [(0, .int (nI x)), (1, .int (nI (k + 1)))]) rfl (rfl : _ = 19) ?_
          refine xv_goto hX (pq := 2) dc_CT_zerosBehind_19 (by decide) ?_
          refine xv_sub (L' := [(0, .int (nI x)), (1, .int (nI (k + 1)))]) [0, 1] rfl ?_
          exact ih2 (k + 1) (by omega) (by rw [hv, show 8 - k = (8 - (k + 1)) + 1 by omega]; exact if_pos (by omega)) (by omega)
  refine xv_sub (L' := [(0, .int (nI x)), (1, .int (nI 0))]) [0, 1] rfl ?_
  exact lp2 _ 0 (by decide) rfl (Nat.lt_succ_self _)
