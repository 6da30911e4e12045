/-! NameList: covers, read -/
def nm_ok (M : xm_M) (p : Nat) : Prop := M p 1 ≤ 4 ∧ ∀ m, m < M p 1 → M (p + 1) m < 18446744073709551616

set_option maxRecDepth 100000 in
set_option maxHeartbeats 4000000 in
theorem ct_NL_covers (l : Launch) (Y : xw_Y) (M : xm_M) (p q : Nat) (hp : xk_nl p) (hq : xk_nm q) (h1 : M p 1 ≤ 3) (h2 : ∀ k, k < M p 1 → nm_ok M (p + 2 + 2 * k)) (h3 : nm_ok M q) : xc_i l qm_NL_covers 1 Y [.ref (Y.2.2.2 p), .ref (Y.2.2.2 q)] M (fun r M1 => M1 = M ∧ ∃ t : Nat, r = nI t ∧ t < 2 ∧ (t = 1 ↔ ∃ k, k < M p 1 ∧ nm_wi M q (p + 2 + 2 * k))) := by
  refine xc_i.mk .boolean rfl (by decide) (Nat.le_of_ble_eq_true rfl) ?_
  intro X hXl hX hR
  subst hXl
  have hX : xv_ok X Y prog_6_method_2_code "CertificatePath$NameList" 3 (xc_rm 1) := hX
  show xv_V X Y 3 0 0 xw_lk xw_N M 0 [(0, .ref (Y.2.2.2 p)), (1, .ref (Y.2.2.2 q))] []
  refine xv_iconst hX (v := nI 0) dc_NL_covers_0 (by decide) (rfl : _ = 1) ?_
  refine xv_istore_n hX [1, 2, 0] dc_NL_covers_1 (by decide) (L' := [(0, .ref (Y.2.2.2 p)), (1, .ref (Y.2.2.2 q)), (2, .int (nI 0))]) rfl (rfl : _ = 2) ?_
  have lp2 : ∀ (n : Nat) (k : Nat) (hk : k ≤ M p 1) (he : ∀ m, m < k → ¬ nm_wi M q (p + 2 + 2 * m)), M p 1 - k < n → xv_V X Y 3 0 0 xw_lk xw_N M 2 [(0, .ref (Y.2.2.2 p)), (1, .ref (Y.2.2.2 q)), (2, .int (nI k))] [] := by
    intro n2
    induction n2 with
    | zero => intro k hk he hm2; exact absurd hm2 (Nat.not_lt_zero _)
    | succ n2 ih2 =>
      intro k hk he hm2
      refine xv_iload_n hX 2 dc_NL_covers_2 rfl (rfl : _ = 3) ?_
      refine xv_aload_n hX 0 dc_NL_covers_3 rfl (rfl : _ = 4) ?_
      refine xv_geti hX fl_NL_18 rfl hp.1 (xk_N (by have := hp.2.2.2.2.2; omega)) (v := M p 1) rfl dc_NL_covers_4 (rfl : _ = 7) ?_
      refine xv_icmp_ge hX (nI_toInt (by omega)) (nI_toInt (by omega)) (tgt := 31) (pq := 10) dc_NL_covers_7 (by decide) rfl (fun c7 => ?_) (fun c7 => ?_)
      · skip
        refine xv_iconst hX (v := nI 0) dc_NL_covers_31 (by decide) (rfl : _ = 32) ?_
        refine xv_reti hX hR (by decide) dc_NL_covers_32 ?_
        exact ⟨rfl, 0, rfl, by decide, by simp, fun ⟨m, hm, hw⟩ => absurd hw (he m (by omega))⟩
      · skip
        refine xv_aload_n hX 1 dc_NL_covers_10 rfl (rfl : _ = 11) ?_
        refine xv_aload_n hX 0 dc_NL_covers_11 rfl (rfl : _ = 12) ?_
        refine xv_getr hX fl_NL_11 rfl hp.1 (xk_N (by have := hp.2.2.2.2.2; omega)) hp.2.2.1 dc_NL_covers_12 (rfl : _ = 15) ?_
        refine xv_iload_n hX 2 dc_NL_covers_15 rfl (rfl : _ = 16) ?_
        refine xv_aald hX hp.2.1 (C := xw_A3) rfl (xk_N (by have := hp.2.2.2.2.2; omega)) (by omega) (by decide) (v := p + 2 + 2 * k) ((hp.2.2.2.1 _ (by omega)).1) dc_NL_covers_16 (rfl : _ = 17) ?_
        refine xv_calli hX (As := [.ref (Y.2.2.2 (p + 2 + 2 * k))]) (rest := []) (ct_NM_isWithin _ Y M q (p + 2 + 2 * k) hq (hp.2.2.2.1 k (by omega)).2 h3.1 (h2 k (by omega)).1 h3.2 (h2 k (by omega)).2) ml_NL_22 li_NM_isWithin hq.1 (xk_N (Nat.lt_of_succ_lt hq.2.2.2.2)) rfl rfl rfl (by decide) ⟨by decide, by decide⟩ ⟨Nat.le_refl _, Nat.le_refl _⟩ (Nat.le_of_ble_eq_true rfl) dc_NL_covers_17 (rfl : _ = 20) (fun r17 M17 p17 => ?_)
        obtain ⟨pM, t, pr, pt, pi⟩ := p17
        rw [pM, pr]
        refine xv_if_eq hX (nI_toInt (by omega)) (tgt := 25) (pq := 23) dc_NL_covers_20 (by decide) rfl (fun c20 => ?_) (fun c20 => ?_)
        · skip
          refine xv_iinc hX 2 [1, 2, 0] dc_NL_covers_25 rfl (xi_inc k 1) (by decide) (L' := [(0, .ref (Y.2.2.2 p)), (1, .ref (Y.2.2.2 q)), (2, .int (nI (k + 1)))]) rfl (rfl : _ = 28) ?_
          refine xv_goto hX (pq := 2) dc_NL_covers_28 (by decide) ?_
          refine xv_sub (L' := [(0, .ref (Y.2.2.2 p)), (1, .ref (Y.2.2.2 q)), (2, .int (nI (k + 1)))]) [0, 1, 2] rfl ?_
          exact ih2 (k + 1) (by omega) (fun m hm => by rcases Nat.lt_or_eq_of_le (Nat.le_of_lt_succ hm) with h | h; exact he m h; rw [h]; exact fun z => absurd (pi.mpr z) (by omega)) (by omega)
        · skip
          refine xv_iconst hX (v := nI 1) dc_NL_covers_23 (by decide) (rfl : _ = 24) ?_
          refine xv_reti hX hR (by decide) dc_NL_covers_24 ?_
          exact ⟨rfl, 1, rfl, by decide, fun _ => ⟨k, by omega, pi.mp (by omega)⟩, fun _ => rfl⟩
  refine xv_sub (L' := [(0, .ref (Y.2.2.2 p)), (1, .ref (Y.2.2.2 q)), (2, .int (nI 0))]) [0, 1, 2] rfl ?_
  exact lp2 _ 0 (Nat.zero_le _) (fun m hm => absurd hm (Nat.not_lt_zero _)) (Nat.lt_succ_self _)

set_option maxRecDepth 100000 in
set_option maxHeartbeats 4000000 in
theorem ct_NL_readIfThere (l : Launch) (Y : xw_Y) (M : xm_M) (p tag : Nat) (hp : xk_nl p) (ht : tag < 256) (hI : rd_I M) (hd : rd_D 3 (rd_of M)) : xc_v l qm_NL_readIfThere 2 Y [.ref (Y.2.2.2 p), .ref (Y.2.2.2 1), .int (nI tag)] M (fun M1 => rd_I M1 ∧ nl_F p M M1 ∧ M1 p 1 ≤ 3 ∧ ((rd_of M1 = none ∧ rd_run (ps_list (M 3) tag) (rd_of M) = none) ∨ ∃ x s, rd_run (ps_list (M 3) tag) (rd_of M) = some (x, s) ∧ rd_of M1 = some s ∧ nl_is M1 p x)) := by
  refine xc_v.mk rfl (by decide) (Nat.le_of_ble_eq_true rfl) ?_
  intro X hXl hX hR
  subst hXl
  have hX : xv_ok X Y prog_6_method_3_code "CertificatePath$NameList" 3 (xc_rm 2) := hX
  show xv_V X Y 3 0 0 xw_lk xw_N M 0 [(0, .ref (Y.2.2.2 p)), (1, .ref (Y.2.2.2 1)), (2, .int (nI tag))] []
  have hp6 := hp.2.2.2.2.1
  have hc0 : ∀ q, q < 6 → (xm_set M p 1 0) q = M q := fun q hq => xm_oth (by omega)
  have hI0 : rd_I (xm_set M p 1 0) := hI.cg hc0
  have ho0 : rd_of (xm_set M p 1 0) = rd_of M := rd_of_cg hc0
  refine xv_aload_n hX 0 dc_NL_readIfThere_0 rfl (rfl : _ = 1) ?_
  refine xv_iconst hX (v := nI 0) dc_NL_readIfThere_1 (by decide) (rfl : _ = 2) ?_
  refine xv_puti hX fl_NL_18 rfl hp.1 (xk_N (by have := hp.2.2.2.2.2; omega)) dc_NL_readIfThere_2 (rfl : _ = 5) ?_
  refine xv_aload_n hX 1 dc_NL_readIfThere_5 rfl (rfl : _ = 6) ?_
  refine xv_iload_n hX 2 dc_NL_readIfThere_6 rfl (rfl : _ = 7) ?_
  refine xv_calli hX (As := [.int (nI tag)]) (rest := []) (ct_RD_nextIs _ Y (xm_set M p 1 0) tag hI0 ht) ml_NL_26 li_RD_nextIs rfl (by decide) rfl rfl rfl (by decide) ⟨by decide, by decide⟩ ⟨Nat.le_refl _, Nat.le_refl _⟩ (Nat.le_of_ble_eq_true rfl) dc_NL_readIfThere_7 (rfl : _ = 10) (fun r7 M7 p7 => ?_)
  rw [ho0, hc0 3 (by decide)] at p7
  rw [p7.1, p7.2]
  have hif : (if rd_is (M 3) tag (rd_of M) = true then 1 else 0) < 2 := by split <;> decide
  refine xv_if_ne hX (nI_toInt (by omega)) (tgt := 14) (pq := 13) dc_NL_readIfThere_10 (by decide) rfl (fun c10 => ?_) (fun c10 => ?_)
  · skip
    have hc : rd_is (M 3) tag (rd_of M) = true := by cases h : rd_is (M 3) tag (rd_of M) with
      | true => rfl
      | false => rw [h] at c10; simp at c10
    refine xv_aload_n hX 1 dc_NL_readIfThere_14 rfl (rfl : _ = 15) ?_
    refine xv_iload_n hX 2 dc_NL_readIfThere_15 rfl (rfl : _ = 16) ?_
    refine xv_callv hX (As := [.int (nI tag)]) (rest := []) (ct_RD_open _ Y (xm_set M p 1 0) tag hI0 ht) ml_NL_32 li_RD_open rfl (by decide) rfl rfl rfl (by decide) ⟨by decide, by decide⟩ ⟨Nat.le_refl _, Nat.le_refl _⟩ (Nat.le_of_ble_eq_true rfl) dc_NL_readIfThere_16 (rfl : _ = 19) (fun M16 p16 => ?_)
    obtain ⟨i16, f16, e16⟩ := p16
    rw [ho0, hc0 3 (by decide)] at e16
    have lp19 : ∀ (n : Nat) (Mk : xm_M) (k : Nat) (hk : k ≤ 2) (hk1 : Mk p 1 = k) (hIk : rd_I Mk) (hF : nl_F p M Mk) (hO : nl_O (M 3) (rd_run (ps_list (M 3) tag) (rd_of M)) Mk p (rd_of Mk) k), 2 - k < n → xv_V X Y 3 0 0 xw_lk xw_N Mk 19 [(0, .ref (Y.2.2.2 p)), (1, .ref (Y.2.2.2 1)), (2, .int (nI tag))] [] := by
      intro n19
      induction n19 with
      | zero => intro Mk k hk hk1 hIk hF hO hm19; exact absurd hm19 (Nat.not_lt_zero _)
      | succ n19 ih19 =>
        intro Mk k hk hk1 hIk hF hO hm19
        refine xv_aload_n hX 0 dc_NL_readIfThere_19 rfl (rfl : _ = 20) ?_
        refine xv_getr hX fl_NL_11 rfl hp.1 (xk_N (by have := hp.2.2.2.2.2; omega)) hp.2.2.1 dc_NL_readIfThere_20 (rfl : _ = 23) ?_
        refine xv_aload_n hX 0 dc_NL_readIfThere_23 rfl (rfl : _ = 24) ?_
        refine xv_geti hX fl_NL_18 rfl hp.1 (xk_N (by have := hp.2.2.2.2.2; omega)) (v := Mk p 1) rfl dc_NL_readIfThere_24 (rfl : _ = 27) ?_
        refine xv_aald hX hp.2.1 (C := xw_A3) rfl (xk_N (by have := hp.2.2.2.2.2; omega)) (by omega) (by decide) (v := p + 2 + 2 * (Mk p 1)) ((hp.2.2.2.1 _ (by omega)).1) dc_NL_readIfThere_27 (rfl : _ = 28) ?_
        have hnm : xk_nm (p + 2 + 2 * Mk p 1) := (hp.2.2.2.1 _ (by omega)).2
        have bk : Mk 3 = M 3 := hF 3 (by decide) (by decide) (by omega)
        refine xv_aload_n hX 1 dc_NL_readIfThere_28 rfl (rfl : _ = 29) ?_
        refine xv_callv hX (As := [.ref (Y.2.2.2 1)]) (rest := []) (ct_NM_readFrom _ Y Mk (p + 2 + 2 * Mk p 1) hnm hIk (nl_D hO)) ml_NL_36 li_NM_readFrom hnm.1 (xk_N (Nat.lt_of_succ_lt hnm.2.2.2.2)) rfl rfl rfl (by decide) ⟨by decide, by decide⟩ ⟨Nat.le_refl _, Nat.le_refl _⟩ (Nat.le_of_ble_eq_true rfl) dc_NL_readIfThere_29 (rfl : _ = 32) (fun M29 p29 => ?_)
        rw [hk1] at p29
        obtain ⟨i29, f29, -, e29⟩ := p29
        rw [bk] at e29
        have hz : M29 p 1 = k := by rw [f29 p (by omega) (by omega) (by omega) (by omega)]; exact hk1
        have hc9 : ∀ q, q < 6 → (xm_set M29 p 1 (M29 p 1 + 1)) q = M29 q := fun q hq => xm_oth (by omega)
        have i9 : rd_I (xm_set M29 p 1 (M29 p 1 + 1)) := i29.cg hc9
        have o9 : rd_of (xm_set M29 p 1 (M29 p 1 + 1)) = rd_of M29 := rd_of_cg hc9
        have hP9 : nl_P (M 3) (rd_run (ps_list (M 3) tag) (rd_of M)) (xm_set M29 p 1 (M29 p 1 + 1)) p (rd_of (xm_set M29 p 1 (M29 p 1 + 1))) (k + 1) := by
          rw [o9]
          refine nl_O1 hO hk (M' := (xm_set M29 p 1 (M29 p 1 + 1))) (fun q hq => ⟨by rw [xm_oth (by omega), f29 _ (by omega) (by omega) (by omega) (by omega)], by rw [xm_oth (by omega), f29 _ (by omega) (by omega) (by omega) (by omega)]⟩) ?_
          rcases e29 with h | ⟨x, t, h1, h2, h3⟩
          · exact Or.inl h
          · refine Or.inr ⟨x, t, h1, h2, ?_⟩
            unfold nm_is
            rw [xm_oth (by omega), xm_oth (by omega)]
            exact h3
        have hF9 : nl_F p M (xm_set M29 p 1 (M29 p 1 + 1)) := fun q a1 a2 a3 => by rw [xm_oth (by omega), f29 q a1 a2 (by omega) (by omega)]; exact hF q a1 a2 a3
        refine xv_aload_n hX 0 dc_NL_readIfThere_32 rfl (rfl : _ = 33) ?_
        refine xv_dup hX dc_NL_readIfThere_33 rfl (rfl : _ = 34) ?_
        refine xv_geti hX fl_NL_18 rfl hp.1 (xk_N (by have := hp.2.2.2.2.2; omega)) (v := M29 p 1) rfl dc_NL_readIfThere_34 (rfl : _ = 37) ?_
        refine xv_iconst hX (v := nI 1) dc_NL_readIfThere_37 (by decide) (rfl : _ = 38) ?_
        refine xv_iadd hX dc_NL_readIfThere_38 (nI_add (M29 p 1) 1) (rfl : _ = 39) ?_
        refine xv_puti hX fl_NL_18 rfl hp.1 (xk_N (by have := hp.2.2.2.2.2; omega)) dc_NL_readIfThere_39 (rfl : _ = 42) ?_
        refine xv_aload_n hX 1 dc_NL_readIfThere_42 rfl (rfl : _ = 43) ?_
        refine xv_calli hX (As := []) (rest := []) (ct_RD_remaining _ Y (xm_set M29 p 1 (M29 p 1 + 1)) i9) ml_NL_40 li_RD_remaining rfl (by decide) rfl rfl rfl (by decide) ⟨by decide, by decide⟩ ⟨Nat.le_refl _, Nat.le_refl _⟩ (Nat.le_of_ble_eq_true rfl) dc_NL_readIfThere_43 (rfl : _ = 46) (fun r43 M43 p43 => ?_)
        rw [p43.1, p43.2]
        have hn := rd_rem_le i9
        refine xv_if_le hX (nI_toInt (by omega)) (tgt := 61) (pq := 49) dc_NL_readIfThere_46 (by decide) rfl (fun c46 => ?_) (fun c46 => ?_)
        · skip
          refine xv_aload_n hX 1 dc_NL_readIfThere_61 rfl (rfl : _ = 62) ?_
          refine xv_callv hX (As := []) (rest := []) (ct_RD_close _ Y (xm_set M29 p 1 (M29 p 1 + 1)) i9) ml_NL_44 li_RD_close rfl (by decide) rfl rfl rfl (by decide) ⟨by decide, by decide⟩ ⟨Nat.le_refl _, Nat.le_refl _⟩ (Nat.le_of_ble_eq_true rfl) dc_NL_readIfThere_62 (rfl : _ = 65) (fun M62 p62 => ?_)
          obtain ⟨i62, f62, e62⟩ := p62
          refine xv_retv hX hR dc_NL_readIfThere_65 ?_
          have hx := nl_P2 hP9 (by omega) (by omega) (fun i l ls h => (rd_at_le i9 h).1)
          rw [← e62] at hx
          have hz9 : M62 p 1 = k + 1 := by rw [f62 p (by omega) (by omega), xm_eq, hz]
          refine ⟨i62, hF9.tr (nl_F.of f62), by omega, ?_⟩
          rcases hx with h | ⟨x, j, h1, h2, h3, h4⟩
          · exact Or.inl h
          · refine Or.inr ⟨x, j, h1, h2, by omega, fun q hq => ?_⟩
            have h9 := h4 q (by omega)
            unfold nm_is at h9 ⊢
            rw [f62 _ (by omega) (by omega), f62 _ (by omega) (by omega)]
            exact h9
        · skip
          refine xv_aload_n hX 0 dc_NL_readIfThere_49 rfl (rfl : _ = 50) ?_
          refine xv_geti hX fl_NL_18 rfl hp.1 (xk_N (by have := hp.2.2.2.2.2; omega)) (v := M29 p 1 + 1) xm_eq dc_NL_readIfThere_50 (rfl : _ = 53) ?_
          refine xv_aload_n hX 0 dc_NL_readIfThere_53 rfl (rfl : _ = 54) ?_
          refine xv_getr hX fl_NL_11 rfl hp.1 (xk_N (by have := hp.2.2.2.2.2; omega)) hp.2.2.1 dc_NL_readIfThere_54 (rfl : _ = 57) ?_
          refine xv_alen hX (n := 3) hp.2.1 ⟨_, rfl⟩ (xk_N (by have := hp.2.2.2.2.2; omega)) dc_NL_readIfThere_57 (rfl : _ = 58) ?_
          refine xv_icmp_lt hX (nI_toInt (by omega)) (show (nI 3).toInt = 3 by decide) (tgt := 19) (pq := 61) dc_NL_readIfThere_58 (by decide) rfl (fun c58 => ?_) (fun c58 => ?_)
          · skip
            refine xv_sub (L' := [(0, .ref (Y.2.2.2 p)), (1, .ref (Y.2.2.2 1)), (2, .int (nI tag))]) [0, 1, 2] rfl ?_
            exact ih19 (xm_set M29 p 1 (M29 p 1 + 1)) (k + 1) (by omega) (by rw [xm_eq, hz]) i9 hF9 (nl_P1 hP9 (by omega) (by omega)) (by omega)
          · skip
            refine xv_aload_n hX 1 dc_NL_readIfThere_61 rfl (rfl : _ = 62) ?_
            refine xv_callv hX (As := []) (rest := []) (ct_RD_close _ Y (xm_set M29 p 1 (M29 p 1 + 1)) i9) ml_NL_44 li_RD_close rfl (by decide) rfl rfl rfl (by decide) ⟨by decide, by decide⟩ ⟨Nat.le_refl _, Nat.le_refl _⟩ (Nat.le_of_ble_eq_true rfl) dc_NL_readIfThere_62 (rfl : _ = 65) (fun M62 p62 => ?_)
            obtain ⟨i62, f62, e62⟩ := p62
            refine xv_retv hX hR dc_NL_readIfThere_65 ?_
            have hx := nl_P2 hP9 (by omega) (by omega) (fun i l ls h => (rd_at_le i9 h).1)
            rw [← e62] at hx
            have hz9 : M62 p 1 = k + 1 := by rw [f62 p (by omega) (by omega), xm_eq, hz]
            refine ⟨i62, hF9.tr (nl_F.of f62), by omega, ?_⟩
            rcases hx with h | ⟨x, j, h1, h2, h3, h4⟩
            · exact Or.inl h
            · refine Or.inr ⟨x, j, h1, h2, by omega, fun q hq => ?_⟩
              have h9 := h4 q (by omega)
              unfold nm_is at h9 ⊢
              rw [f62 _ (by omega) (by omega), f62 _ (by omega) (by omega)]
              exact h9
    refine xv_sub (L' := [(0, .ref (Y.2.2.2 p)), (1, .ref (Y.2.2.2 1)), (2, .int (nI tag))]) [0, 1, 2] rfl ?_
    exact lp19 _ M16 0 (by decide) (by rw [f16 p (by omega) (by omega)]; exact xm_eq) i16 (fun q h1 h2 h3 => by rw [f16 q h1 h2, xm_oth (by omega)]) (by rw [e16]; exact nl_O0 hd hc) (Nat.lt_succ_self _)
  · skip
    have hc : rd_is (M 3) tag (rd_of M) = false := by cases h : rd_is (M 3) tag (rd_of M) with
      | false => rfl
      | true => rw [h] at c10; simp at c10
    refine xv_retv hX hR dc_NL_readIfThere_13 ?_
    refine ⟨hI0, fun q a b c => xm_oth (by omega), by rw [xm_eq]; decide, ?_⟩
    rw [ho0]
    rcases nl_none hc with h | ⟨i, h⟩ | ⟨t, h1, h2⟩
    · exact Or.inl h
    · exact (rd_of_nil h).elim
    · exact Or.inr ⟨[], t, h2, h1, xm_eq, fun k hk => absurd hk (Nat.not_lt_zero _)⟩
