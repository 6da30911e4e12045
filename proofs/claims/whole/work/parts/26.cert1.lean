/-! Certificate: its extensions -/
set_option maxRecDepth 100000 in
set_option maxHeartbeats 4000000 in
theorem ct_CT_forgetExtensions (l : Launch) (Y : xw_Y) (M : xm_M) (c : Nat) (hc : xk_ct c) : xc_v l qm_CT_forgetExtensions 0 Y [.ref (Y.2.2.2 c)] M (fun M1 => M1 = xm_set (xm_set (xm_set (xm_set (xm_set (xm_set M c 10 0) c 11 0) c 12 4294967295) c 13 4294967295) (c + 14) 1 0) (c + 22) 1 0) := by
  refine xc_v.mk rfl (by decide) (Nat.le_of_ble_eq_true rfl) ?_
  intro X hXl hX hR
  subst hXl
  have hX : xv_ok X Y prog_3_method_2_code "CertificatePath$Certificate" 1 (xc_rm 0) := hX
  show xv_V X Y 1 0 0 xw_lk xw_N M 0 [(0, .ref (Y.2.2.2 c))] []
  have hc6 : 6 ≤ c := hc.2.2.2.2.2.2.1
  have hc29 : c + 29 < 276 := hc.2.2.2.2.2.2.2
  refine xv_aload_n hX 0 dc_CT_forgetExtensions_0 rfl (rfl : _ = 1) ?_
  refine xv_iconst hX (v := nI 0) dc_CT_forgetExtensions_1 (by decide) (rfl : _ = 2) ?_
  refine xv_puti hX fl_CT_41 rfl hc.1 (xk_N (by omega)) dc_CT_forgetExtensions_2 (rfl : _ = 5) ?_
  refine xv_aload_n hX 0 dc_CT_forgetExtensions_5 rfl (rfl : _ = 6) ?_
  refine xv_iconst hX (v := nI 0) dc_CT_forgetExtensions_6 (by decide) (rfl : _ = 7) ?_
  refine xv_putz hX fl_CT_45 rfl hc.1 (xk_N (by omega)) (by decide) dc_CT_forgetExtensions_7 (rfl : _ = 10) ?_
  refine xv_aload_n hX 0 dc_CT_forgetExtensions_10 rfl (rfl : _ = 11) ?_
  refine xv_iconst hX (v := nI 4294967295) dc_CT_forgetExtensions_11 (by decide) (rfl : _ = 12) ?_
  refine xv_puti hX fl_CT_49 rfl hc.1 (xk_N (by omega)) dc_CT_forgetExtensions_12 (rfl : _ = 15) ?_
  refine xv_aload_n hX 0 dc_CT_forgetExtensions_15 rfl (rfl : _ = 16) ?_
  refine xv_iconst hX (v := nI 4294967295) dc_CT_forgetExtensions_16 (by decide) (rfl : _ = 17) ?_
  refine xv_puti hX fl_CT_52 rfl hc.1 (xk_N (by omega)) dc_CT_forgetExtensions_17 (rfl : _ = 20) ?_
  refine xv_aload_n hX 0 dc_CT_forgetExtensions_20 rfl (rfl : _ = 21) ?_
  refine xv_getr hX fl_CT_31 rfl hc.1 (xk_N (by omega)) hc.2.2.2.2.1.1 dc_CT_forgetExtensions_21 (rfl : _ = 24) ?_
  refine xv_iconst hX (v := nI 0) dc_CT_forgetExtensions_24 (by decide) (rfl : _ = 25) ?_
  refine xv_puti hX fl_CT_55 rfl hc.2.2.2.2.1.2.1 (xk_N (by have := hc.2.2.2.2.1.2.2.2.2.2.2; omega)) dc_CT_forgetExtensions_25 (rfl : _ = 28) ?_
  refine xv_aload_n hX 0 dc_CT_forgetExtensions_28 rfl (rfl : _ = 29) ?_
  refine xv_getr hX fl_CT_35 rfl hc.1 (xk_N (by omega)) hc.2.2.2.2.2.1.1 dc_CT_forgetExtensions_29 (rfl : _ = 32) ?_
  refine xv_iconst hX (v := nI 0) dc_CT_forgetExtensions_32 (by decide) (rfl : _ = 33) ?_
  refine xv_puti hX fl_CT_55 rfl hc.2.2.2.2.2.1.2.1 (xk_N (by have := hc.2.2.2.2.2.1.2.2.2.2.2.2; omega)) dc_CT_forgetExtensions_33 (rfl : _ = 36) ?_
  refine xv_retv hX hR dc_CT_forgetExtensions_36 ?_
  exact rfl

set_option maxRecDepth 100000 in
set_option maxHeartbeats 4000000 in
theorem ct_CT_hasExtension (l : Launch) (Y : xw_Y) (M : xm_M) (c x : Nat) (hc : xk_ct c) (hx : x < 256) (h1 : M c 10 ≤ 4) (h2 : ∀ j, j < M c 10 → M (c + 6 + 2 * j) 0 < 256) : xc_i l qm_CT_hasExtension 0 Y [.ref (Y.2.2.2 c), .int (nI x)] M (fun r M1 => M1 = M ∧ ∃ t : Nat, r = nI t ∧ t < 2 ∧ (t = 1 ↔ ∃ j, j < M c 10 ∧ M (c + 6 + 2 * j) 0 = x)) := by
  refine xc_i.mk .boolean rfl (by decide) (Nat.le_of_ble_eq_true rfl) ?_
  intro X hXl hX hR
  subst hXl
  have hX : xv_ok X Y prog_3_method_14_code "CertificatePath$Certificate" 3 (xc_rm 0) := hX
  show xv_V X Y 3 0 0 xw_lk xw_N M 0 [(0, .ref (Y.2.2.2 c)), (1, .int (nI x))] []
  have hc6 : 6 ≤ c := hc.2.2.2.2.2.2.1
  have hc29 : c + 29 < 276 := hc.2.2.2.2.2.2.2
  refine xv_iconst hX (v := nI 0) dc_CT_hasExtension_0 (by decide) (rfl : _ = 1) ?_
  refine xv_istore_n hX [1, 2, 0] dc_CT_hasExtension_1 (by decide) (L' := [(0, .ref (Y.2.2.2 c)), (1, .int (nI x)), (2, .int (nI 0))]) rfl (rfl : _ = 2) ?_
  have lp2 : ∀ (n : Nat) (k : Nat) (hk : k ≤ M c 10) (he : ∀ j, j < k → M (c + 6 + 2 * j) 0 ≠ x), M c 10 - k < n → xv_V X Y 3 0 0 xw_lk xw_N M 2 [(0, .ref (Y.2.2.2 c)), (1, .int (nI x)), (2, .int (nI k))] [] := by
    intro n2
    induction n2 with
    | zero => intro k hk he hm2; exact absurd hm2 (Nat.not_lt_zero _)
    | succ n2 ih2 =>
      intro k hk he hm2
      refine xv_iload_n hX 2 dc_CT_hasExtension_2 rfl (rfl : _ = 3) ?_
      refine xv_aload_n hX 0 dc_CT_hasExtension_3 rfl (rfl : _ = 4) ?_
      refine xv_geti hX fl_CT_41 rfl hc.1 (xk_N (by omega)) (v := M c 10) rfl dc_CT_hasExtension_4 (rfl : _ = 7) ?_
      refine xv_icmp_ge hX (nI_toInt (by omega)) (nI_toInt (by omega)) (tgt := 31) (pq := 10) dc_CT_hasExtension_7 (by decide) rfl (fun c7 => ?_) (fun c7 => ?_)
      · skip
        refine xv_iconst hX (v := nI 0) dc_CT_hasExtension_31 (by decide) (rfl : _ = 32) ?_
        refine xv_reti hX hR (by decide) dc_CT_hasExtension_32 ?_
        exact ⟨rfl, 0, rfl, by decide, by simp, fun ⟨j, hj, hw⟩ => absurd hw (he j (by omega))⟩
      · skip
        have hx2 := h2 k (by omega)
        refine xv_aload_n hX 0 dc_CT_hasExtension_10 rfl (rfl : _ = 11) ?_
        refine xv_getr hX fl_CT_23 rfl hc.1 (xk_N (by omega)) hc.2.2.2.1.1 dc_CT_hasExtension_11 (rfl : _ = 14) ?_
        refine xv_iload_n hX 2 dc_CT_hasExtension_14 rfl (rfl : _ = 15) ?_
        refine xv_aald hX hc.2.2.2.1.2.1 (C := xw_A4) rfl (xk_N (by omega)) (by omega) (by decide) (v := c + 6 + 2 * k) ((hc.2.2.2.1.2.2 _ (by omega)).1) dc_CT_hasExtension_15 (rfl : _ = 16) ?_
        refine xv_geti hX fl_CT_149 rfl (hc.2.2.2.1.2.2 _ (by omega)).2.1 (xk_N (by omega)) (v := M (c + 6 + 2 * k) 0) rfl dc_CT_hasExtension_16 (rfl : _ = 19) ?_
        refine xv_iload_n hX 1 dc_CT_hasExtension_19 rfl (rfl : _ = 20) ?_
        refine xv_icmp_ne hX (nI_toInt (by omega)) (nI_toInt (by omega)) (tgt := 25) (pq := 23) dc_CT_hasExtension_20 (by decide) rfl (fun c20 => ?_) (fun c20 => ?_)
        · skip
          refine xv_iinc hX 2 [1, 2, 0] dc_CT_hasExtension_25 rfl (xi_inc k 1) (by decide) (L' := [(0, .ref (Y.2.2.2 c)), (1, .int (nI x)), (2, .int (nI (k + 1)))]) rfl (rfl : _ = 28) ?_
          refine xv_goto hX (pq := 2) dc_CT_hasExtension_28 (by decide) ?_
          refine xv_sub (L' := [(0, .ref (Y.2.2.2 c)), (1, .int (nI x)), (2, .int (nI (k + 1)))]) [0, 1, 2] rfl ?_
          exact ih2 (k + 1) (by omega) (fun j hj => by rcases Nat.lt_or_eq_of_le (Nat.le_of_lt_succ hj) with h | h; exact he j h; rw [h]; omega) (by omega)
        · skip
          refine xv_iconst hX (v := nI 1) dc_CT_hasExtension_23 (by decide) (rfl : _ = 24) ?_
          refine xv_reti hX hR (by decide) dc_CT_hasExtension_24 ?_
          exact ⟨rfl, 1, rfl, by decide, fun _ => ⟨k, by omega, by omega⟩, fun _ => rfl⟩
  refine xv_sub (L' := [(0, .ref (Y.2.2.2 c)), (1, .int (nI x)), (2, .int (nI 0))]) [0, 1, 2] rfl ?_
  exact lp2 _ 0 (Nat.zero_le _) (fun j hj => absurd hj (Nat.not_lt_zero _)) (Nat.lt_succ_self _)

set_option maxRecDepth 100000 in
set_option maxHeartbeats 4000000 in
theorem ct_CT_readBasic (l : Launch) (Y : xw_Y) (M : xm_M) (c : Nat) (hc : xk_ct c) (hI : rd_I M) (hd : rd_D 2 (rd_of M)) : xc_v l qm_CT_readBasic 2 Y [.ref (Y.2.2.2 c), .ref (Y.2.2.2 1)] M (fun M1 => rd_I M1 ∧ (∀ q, q ≠ 1 → q ≠ 4 → q ≠ c → M1 q = M q) ∧ (∀ k, k ≠ 11 → k ≠ 12 → M1 c k = M c k) ∧ rs_ok (rd_run (ps_basic (M 3)) (rd_of M)) (rd_of M1) (fun z => M1 c 11 = (if z.1 = true then 1 else 0) ∧ M1 c 12 = (match z.2 with | some v => v | none => M c 12))) := by
  refine xc_v.mk rfl (by decide) (Nat.le_of_ble_eq_true rfl) ?_
  intro X hXl hX hR
  subst hXl
  have hX : xv_ok X Y prog_3_method_15_code "CertificatePath$Certificate" 2 (xc_rm 2) := hX
  show xv_V X Y 2 0 0 xw_lk xw_N M 0 [(0, .ref (Y.2.2.2 c)), (1, .ref (Y.2.2.2 1))] []
  have hc6 : 6 ≤ c := hc.2.2.2.2.2.2.1
  have hc29 : c + 29 < 276 := hc.2.2.2.2.2.2.2
  refine xv_aload_n hX 1 dc_CT_readBasic_0 rfl (rfl : _ = 1) ?_
  refine xv_bipush hX (v := nI 48) dc_CT_readBasic_1 (by decide) (rfl : _ = 3) ?_
  refine xv_callv hX (As := [.int (nI 48)]) (rest := []) (ct_RD_open _ Y M 48 hI (by decide)) ml_CT_102 li_RD_open rfl (by decide) rfl rfl rfl (by decide) ⟨by decide, by decide⟩ ⟨Nat.le_refl _, Nat.le_refl _⟩ (Nat.le_of_ble_eq_true rfl) dc_CT_readBasic_3 (rfl : _ = 6) (fun M3 p3 => ?_)
  obtain ⟨i3, f3, e3⟩ := p3
  have b3 : M3 3 = M 3 := f3 3 (by decide) (by decide)
  have hd3 : rd_D 1 (rd_of M3) := by rw [e3]; exact rd_D.opn hd
  refine xv_aload_n hX 0 dc_CT_readBasic_6 rfl (rfl : _ = 7) ?_
  refine xv_aload_n hX 1 dc_CT_readBasic_7 rfl (rfl : _ = 8) ?_
  refine xv_calli hX (As := []) (rest := [.ref (Y.2.2.2 c)]) (ct_RD_readTrueIfThere _ Y M3 i3) ml_CT_152 li_RD_readTrueIfThere rfl (by decide) rfl rfl rfl (by decide) ⟨by decide, by decide⟩ ⟨Nat.le_refl _, Nat.le_refl _⟩ (Nat.le_of_ble_eq_true rfl) dc_CT_readBasic_8 (rfl : _ = 11) (fun r8 M8 p8 => ?_)
  obtain ⟨⟨i8, f8, e8⟩, z8⟩ := p8
  have h8 := rs_tru hd3 (fun i h => rd_of_nil h) e8
  rw [b3, e3] at h8
  rw [z8]
  have hif : (if rd_is (M3 3) 1 (rd_of M3) = true then 1 else 0) < 2 := by split <;> decide
  have hcA : ∀ q, q < 6 → (xm_set M8 c 11 (if rd_is (M3 3) 1 (rd_of M3) = true then 1 else 0)) q = M8 q := fun q hq => xm_oth (by omega)
  have iA : rd_I (xm_set M8 c 11 (if rd_is (M3 3) 1 (rd_of M3) = true then 1 else 0)) := i8.cg hcA
  have oA : rd_of (xm_set M8 c 11 (if rd_is (M3 3) 1 (rd_of M3) = true then 1 else 0)) = rd_of M8 := rd_of_cg hcA
  refine xv_putz hX fl_CT_45 rfl hc.1 (xk_N (by omega)) (by omega) dc_CT_readBasic_11 (rfl : _ = 14) ?_
  refine xv_aload_n hX 0 dc_CT_readBasic_14 rfl (rfl : _ = 15) ?_
  refine xv_geti hX fl_CT_45 rfl hc.1 (xk_N (by omega)) (v := (if rd_is (M3 3) 1 (rd_of M3) = true then 1 else 0)) xm_eq dc_CT_readBasic_15 (rfl : _ = 18) ?_
  refine xv_if_eq hX (nI_toInt (by omega)) (tgt := 39) (pq := 21) dc_CT_readBasic_18 (by decide) rfl (fun c18 => ?_) (fun c18 => ?_)
  · skip
    refine xv_aload_n hX 1 dc_CT_readBasic_39 rfl (rfl : _ = 40) ?_
    refine xv_callv hX (As := []) (rest := []) (ct_RD_close _ Y (xm_set M8 c 11 (if rd_is (M3 3) 1 (rd_of M3) = true then 1 else 0)) iA) ml_CT_125 li_RD_close rfl (by decide) rfl rfl rfl (by decide) ⟨by decide, by decide⟩ ⟨Nat.le_refl _, Nat.le_refl _⟩ (Nat.le_of_ble_eq_true rfl) dc_CT_readBasic_40 (rfl : _ = 43) (fun M40 p40 => ?_)
    obtain ⟨i40, f40, e40⟩ := p40
    refine xv_retv hX hR dc_CT_readBasic_43 ?_
    refine ⟨i40, fun q a1 a2 a3 => by rw [f40 q a1 a2, xm_oth a3, f8 q a1 a2, f3 q a1 a2], fun k a1 a2 => by rw [f40 c (by omega) (by omega), xm_nk a1, f8 c (by omega) (by omega), f3 c (by omega) (by omega)], ?_⟩
    have h9 := rs_in (hd.mono (by decide)) (rs_bas1 (s := rd_open (M 3) 48 (rd_of M)) h8 (by rw [← oA]; intro ht; first | omega | (rw [e3, b3] at *; simp_all)))
    rw [e40, oA]
    refine h9.imp (fun z hz => ?_)
    rw [hz]
    have g1 : M40 c 11 = (if rd_is (M3 3) 1 (rd_of M3) = true then 1 else 0) := by rw [f40 c (by omega) (by omega), xm_eq]
    have g2 : M40 c 12 = M c 12 := by rw [f40 c (by omega) (by omega), xm_nk (by decide), f8 c (by omega) (by omega), f3 c (by omega) (by omega)]
    rw [b3, e3] at g1
    exact ⟨g1, g2⟩
  · skip
    have htt : rd_is (M 3) 1 (rd_open (M 3) 48 (rd_of M)) = true := by rw [b3, e3] at c18; cases h : rd_is (M 3) 1 (rd_open (M 3) 48 (rd_of M)) with
      | true => rfl
      | false => rw [h] at c18; simp at c18
    refine xv_aload_n hX 1 dc_CT_readBasic_21 rfl (rfl : _ = 22) ?_
    refine xv_calli hX (As := []) (rest := []) (ct_RD_remaining _ Y (xm_set M8 c 11 (if rd_is (M3 3) 1 (rd_of M3) = true then 1 else 0)) iA) ml_CT_121 li_RD_remaining rfl (by decide) rfl rfl rfl (by decide) ⟨by decide, by decide⟩ ⟨Nat.le_refl _, Nat.le_refl _⟩ (Nat.le_of_ble_eq_true rfl) dc_CT_readBasic_22 (rfl : _ = 25) (fun r22 M22 p22 => ?_)
    rw [p22.1, p22.2]
    have hn := rd_rem_le iA
    refine xv_if_le hX (nI_toInt (by omega)) (tgt := 39) (pq := 28) dc_CT_readBasic_25 (by decide) rfl (fun c25 => ?_) (fun c25 => ?_)
    · skip
      refine xv_aload_n hX 1 dc_CT_readBasic_39 rfl (rfl : _ = 40) ?_
      refine xv_callv hX (As := []) (rest := []) (ct_RD_close _ Y (xm_set M8 c 11 (if rd_is (M3 3) 1 (rd_of M3) = true then 1 else 0)) iA) ml_CT_125 li_RD_close rfl (by decide) rfl rfl rfl (by decide) ⟨by decide, by decide⟩ ⟨Nat.le_refl _, Nat.le_refl _⟩ (Nat.le_of_ble_eq_true rfl) dc_CT_readBasic_40 (rfl : _ = 43) (fun M40 p40 => ?_)
      obtain ⟨i40, f40, e40⟩ := p40
      refine xv_retv hX hR dc_CT_readBasic_43 ?_
      refine ⟨i40, fun q a1 a2 a3 => by rw [f40 q a1 a2, xm_oth a3, f8 q a1 a2, f3 q a1 a2], fun k a1 a2 => by rw [f40 c (by omega) (by omega), xm_nk a1, f8 c (by omega) (by omega), f3 c (by omega) (by omega)], ?_⟩
      have h9 := rs_in (hd.mono (by decide)) (rs_bas1 (s := rd_open (M 3) 48 (rd_of M)) h8 (by rw [← oA]; intro ht; first | omega | (rw [e3, b3] at *; simp_all)))
      rw [e40, oA]
      refine h9.imp (fun z hz => ?_)
      rw [hz]
      have g1 : M40 c 11 = (if rd_is (M3 3) 1 (rd_of M3) = true then 1 else 0) := by rw [f40 c (by omega) (by omega), xm_eq]
      have g2 : M40 c 12 = M c 12 := by rw [f40 c (by omega) (by omega), xm_nk (by decide), f8 c (by omega) (by omega), f3 c (by omega) (by omega)]
      rw [b3, e3] at g1
      exact ⟨g1, g2⟩
    · skip
      refine xv_aload_n hX 0 dc_CT_readBasic_28 rfl (rfl : _ = 29) ?_
      refine xv_aload_n hX 1 dc_CT_readBasic_29 rfl (rfl : _ = 30) ?_
      refine xv_iconst hX (v := nI 0) dc_CT_readBasic_30 (by decide) (rfl : _ = 31) ?_
      refine xv_ldc hX (v := nI 2147483647) kc_CT_132 dc_CT_readBasic_31 (rfl : _ = 33) ?_
      refine xv_calli hX (As := [.int (nI 0), .int (nI 2147483647)]) (rest := [.ref (Y.2.2.2 c)]) (ct_RD_readInteger _ Y (xm_set M8 c 11 (if rd_is (M3 3) 1 (rd_of M3) = true then 1 else 0)) 0 2147483647 iA (by decide) (by decide)) ml_CT_133 li_RD_readInteger rfl (by decide) rfl rfl rfl (by decide) ⟨by decide, by decide⟩ ⟨Nat.le_refl _, Nat.le_refl _⟩ (Nat.le_of_ble_eq_true rfl) dc_CT_readBasic_33 (rfl : _ = 36) (fun r33 M33 p33 => ?_)
      obtain ⟨⟨i33, f33, e33⟩, w, z33, hw1, hw2, hw3⟩ := p33
      rw [z33]
      rw [oA, hcA 3 (by decide), f8 3 (by decide) (by decide), b3] at e33 hw3
      have hd8 : rd_D 1 (rd_of M8) := rs_D h8 (by rw [← e3]; exact hd3)
      have h33 := rs_int hd8 e33 hw3
      have hc9 : ∀ q, q < 6 → (xm_set M33 c 12 w) q = M33 q := fun q hq => xm_oth (by omega)
      have i9 : rd_I (xm_set M33 c 12 w) := i33.cg hc9
      rw [oA] at c25
      refine xv_puti hX fl_CT_49 rfl hc.1 (xk_N (by omega)) dc_CT_readBasic_36 (rfl : _ = 39) ?_
      refine xv_aload_n hX 1 dc_CT_readBasic_39 rfl (rfl : _ = 40) ?_
      refine xv_callv hX (As := []) (rest := []) (ct_RD_close _ Y (xm_set M33 c 12 w) i9) ml_CT_125 li_RD_close rfl (by decide) rfl rfl rfl (by decide) ⟨by decide, by decide⟩ ⟨Nat.le_refl _, Nat.le_refl _⟩ (Nat.le_of_ble_eq_true rfl) dc_CT_readBasic_40 (rfl : _ = 43) (fun M40 p40 => ?_)
      obtain ⟨i40, f40, e40⟩ := p40
      refine xv_retv hX hR dc_CT_readBasic_43 ?_
      refine ⟨i40, fun q a1 a2 a3 => by rw [f40 q a1 a2, xm_oth a3, f33 q a1 a2, xm_oth a3, f8 q a1 a2, f3 q a1 a2], fun k a1 a2 => by rw [f40 c (by omega) (by omega), xm_nk a2, f33 c (by omega) (by omega), xm_nk a1, f8 c (by omega) (by omega), f3 c (by omega) (by omega)], ?_⟩
      have h9 := rs_in (hd.mono (by decide)) (rs_bas2 (s := rd_open (M 3) 48 (rd_of M)) (by rw [← htt]; exact h8) (by omega) h33)
      rw [e40, rd_of_cg hc9]
      refine h9.imp (fun z hz => ?_)
      rw [hz]
      have g1 : M40 c 11 = 1 := by rw [f40 c (by omega) (by omega), xm_nk (by decide), f33 c (by omega) (by omega), xm_eq, b3, e3, htt]; rfl
      have g2 : M40 c 12 = w := by rw [f40 c (by omega) (by omega), xm_eq]
      exact ⟨g1, g2⟩
