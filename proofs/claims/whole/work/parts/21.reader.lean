/-! Reader: its steps -/
set_option maxRecDepth 100000 in
set_option maxHeartbeats 4000000 in
theorem ct_RD_start (l : Launch) (Y : xw_Y) (M : xm_M) (h1 : M 2 1 ≤ 160) (h2 : ∀ j, j < 160 → M 3 j < 256) : xc_v l qm_RD_start 0 Y [.ref (Y.2.2.2 1)] M (fun M1 => rd_Q M M1 (some (0, [M 2 1]))) := by
  refine xc_v.mk rfl (by decide) (Nat.le_of_ble_eq_true rfl) ?_
  intro X hXl hX hR
  subst hXl
  have hX : xv_ok X Y prog_7_method_2_code "CertificatePath$Reader" 1 (xc_rm 0) := hX
  show xv_V X Y 1 0 0 xw_lk xw_N M 0 [(0, .ref (Y.2.2.2 1))] []
  refine xv_aload_n hX 0 dc_RD_start_0 rfl (rfl : _ = 1) ?_
  refine xv_iconst hX (v := nI 0) dc_RD_start_1 (by decide) (rfl : _ = 2) ?_
  refine xv_puti hX fl_RD_22 rfl rfl (by decide) dc_RD_start_2 (rfl : _ = 5) ?_
  refine xv_aload_n hX 0 dc_RD_start_5 rfl (rfl : _ = 6) ?_
  refine xv_getr hX fl_RD_18 rfl rfl (by decide) rfl dc_RD_start_6 (rfl : _ = 9) ?_
  refine xv_iconst hX (v := nI 0) dc_RD_start_9 (by decide) (rfl : _ = 10) ?_
  refine xv_aload_n hX 0 dc_RD_start_10 rfl (rfl : _ = 11) ?_
  refine xv_getr hX fl_RD_12 rfl rfl (by decide) rfl dc_RD_start_11 (rfl : _ = 14) ?_
  refine xv_geti hX fl_RD_33 rfl rfl (by decide) (v := M 2 1) (xm_np (by decide)) dc_RD_start_14 (rfl : _ = 17) ?_
  refine xv_iast hX rfl (by decide) (by decide) (by decide) dc_RD_start_17 (rfl : _ = 18) ?_
  refine xv_aload_n hX 0 dc_RD_start_18 rfl (rfl : _ = 19) ?_
  refine xv_iconst hX (v := nI 0) dc_RD_start_19 (by decide) (rfl : _ = 20) ?_
  refine xv_puti hX fl_RD_26 rfl rfl (by decide) dc_RD_start_20 (rfl : _ = 23) ?_
  refine xv_aload_n hX 0 dc_RD_start_23 rfl (rfl : _ = 24) ?_
  refine xv_iconst hX (v := nI 1) dc_RD_start_24 (by decide) (rfl : _ = 25) ?_
  refine xv_putz hX fl_RD_29 rfl rfl (by decide) (by decide) dc_RD_start_25 (rfl : _ = 28) ?_
  refine xv_retv hX hR dc_RD_start_28 ?_
  exact rd_st h1 h2

set_option maxRecDepth 100000 in
set_option maxHeartbeats 4000000 in
theorem ct_RD_refuse (l : Launch) (Y : xw_Y) (M : xm_M) (hI : rd_I M) : xc_v l qm_RD_refuse 0 Y [.ref (Y.2.2.2 1)] M (fun M1 => rd_Q M M1 none) := by
  refine xc_v.mk rfl (by decide) (Nat.le_of_ble_eq_true rfl) ?_
  intro X hXl hX hR
  subst hXl
  have hX : xv_ok X Y prog_7_method_3_code "CertificatePath$Reader" 1 (xc_rm 0) := hX
  show xv_V X Y 1 0 0 xw_lk xw_N M 0 [(0, .ref (Y.2.2.2 1))] []
  refine xv_aload_n hX 0 dc_RD_refuse_0 rfl (rfl : _ = 1) ?_
  refine xv_iconst hX (v := nI 0) dc_RD_refuse_1 (by decide) (rfl : _ = 2) ?_
  refine xv_putz hX fl_RD_29 rfl rfl (by decide) (by decide) dc_RD_refuse_2 (rfl : _ = 5) ?_
  refine xv_retv hX hR dc_RD_refuse_5 ?_
  exact rd_ref hI

set_option maxRecDepth 100000 in
set_option maxHeartbeats 4000000 in
theorem ct_RD_isAtEndOfRow (l : Launch) (Y : xw_Y) (M : xm_M) (hI : rd_I M) : xc_i l qm_RD_isAtEndOfRow 0 Y [.ref (Y.2.2.2 1)] M (fun r M1 => M1 = M ∧ r = nI (if rd_end (rd_of M) = true then 1 else 0)) := by
  refine xc_i.mk .boolean rfl (by decide) (Nat.le_of_ble_eq_true rfl) ?_
  intro X hXl hX hR
  subst hXl
  have hX : xv_ok X Y prog_7_method_4_code "CertificatePath$Reader" 1 (xc_rm 0) := hX
  show xv_V X Y 1 0 0 xw_lk xw_N M 0 [(0, .ref (Y.2.2.2 1))] []
  obtain ⟨h1, h2, h3, h4, h5, h6, h7⟩ := id hI
  have h6d := h6 (M 1 2) (Nat.le_refl _)
  refine xv_aload_n hX 0 dc_RD_isAtEndOfRow_0 rfl (rfl : _ = 1) ?_
  refine xv_geti hX fl_RD_29 rfl rfl (by decide) (v := M 1 4) rfl dc_RD_isAtEndOfRow_1 (rfl : _ = 4) ?_
  refine xv_if_eq hX (nI_toInt (by omega)) (tgt := 31) (pq := 7) dc_RD_isAtEndOfRow_4 (by decide) rfl (fun c4 => ?_) (fun c4 => ?_)
  · skip
    refine xv_iconst hX (v := nI 0) dc_RD_isAtEndOfRow_31 (by decide) (rfl : _ = 32) ?_
    refine xv_reti hX hR (by decide) dc_RD_isAtEndOfRow_32 ?_
    exact ⟨rfl, congrArg nI (by rw [rd_endE hI]; first | (rw [if_pos (by simp; omega)]; done) | (rw [if_neg (by simp; omega)]; done))⟩
  · skip
    have hs : M 1 4 = 1 := by omega
    have h7d := (h7 hs).1
    refine xv_aload_n hX 0 dc_RD_isAtEndOfRow_7 rfl (rfl : _ = 8) ?_
    refine xv_geti hX fl_RD_22 rfl rfl (by decide) (v := M 1 2) rfl dc_RD_isAtEndOfRow_8 (rfl : _ = 11) ?_
    refine xv_if_ne hX (nI_toInt (by omega)) (tgt := 31) (pq := 14) dc_RD_isAtEndOfRow_11 (by decide) rfl (fun c11 => ?_) (fun c11 => ?_)
    · skip
      refine xv_iconst hX (v := nI 0) dc_RD_isAtEndOfRow_31 (by decide) (rfl : _ = 32) ?_
      refine xv_reti hX hR (by decide) dc_RD_isAtEndOfRow_32 ?_
      exact ⟨rfl, congrArg nI (by rw [rd_endE hI]; first | (rw [if_pos (by simp; omega)]; done) | (rw [if_neg (by simp; omega)]; done))⟩
    · skip
      refine xv_aload_n hX 0 dc_RD_isAtEndOfRow_14 rfl (rfl : _ = 15) ?_
      refine xv_geti hX fl_RD_26 rfl rfl (by decide) (v := M 1 3) rfl dc_RD_isAtEndOfRow_15 (rfl : _ = 18) ?_
      refine xv_aload_n hX 0 dc_RD_isAtEndOfRow_18 rfl (rfl : _ = 19) ?_
      refine xv_getr hX fl_RD_18 rfl rfl (by decide) rfl dc_RD_isAtEndOfRow_19 (rfl : _ = 22) ?_
      have h60 := h6 0 (Nat.zero_le _)
      refine xv_iconst hX (v := nI 0) dc_RD_isAtEndOfRow_22 (by decide) (rfl : _ = 23) ?_
      refine xv_iald hX rfl (by decide) (by decide) (by decide) (v := M 4 0) rfl dc_RD_isAtEndOfRow_23 (rfl : _ = 24) ?_
      refine xv_icmp_ne hX (nI_toInt (by omega)) (nI_toInt (by omega)) (tgt := 31) (pq := 27) dc_RD_isAtEndOfRow_24 (by decide) rfl (fun c24 => ?_) (fun c24 => ?_)
      · skip
        refine xv_iconst hX (v := nI 0) dc_RD_isAtEndOfRow_31 (by decide) (rfl : _ = 32) ?_
        refine xv_reti hX hR (by decide) dc_RD_isAtEndOfRow_32 ?_
        exact ⟨rfl, congrArg nI (by rw [rd_endE hI]; first | (rw [if_pos (by simp; omega)]; done) | (rw [if_neg (by simp; omega)]; done))⟩
      · skip
        refine xv_iconst hX (v := nI 1) dc_RD_isAtEndOfRow_27 (by decide) (rfl : _ = 28) ?_
        refine xv_goto hX (pq := 32) dc_RD_isAtEndOfRow_28 (by decide) ?_
        refine xv_reti hX hR (by decide) dc_RD_isAtEndOfRow_32 ?_
        exact ⟨rfl, congrArg nI (by rw [rd_endE hI]; first | (rw [if_pos (by simp; omega)]; done) | (rw [if_neg (by simp; omega)]; done))⟩

set_option maxRecDepth 100000 in
set_option maxHeartbeats 4000000 in
theorem ct_RD_remaining (l : Launch) (Y : xw_Y) (M : xm_M) (hI : rd_I M) : xc_i l qm_RD_remaining 0 Y [.ref (Y.2.2.2 1)] M (fun r M1 => M1 = M ∧ r = nI (rd_rem (rd_of M))) := by
  refine xc_i.mk .int rfl (by decide) (Nat.le_of_ble_eq_true rfl) ?_
  intro X hXl hX hR
  subst hXl
  have hX : xv_ok X Y prog_7_method_5_code "CertificatePath$Reader" 1 (xc_rm 0) := hX
  show xv_V X Y 1 0 0 xw_lk xw_N M 0 [(0, .ref (Y.2.2.2 1))] []
  obtain ⟨h1, h2, h3, h4, h5, h6, h7⟩ := id hI
  have h6d := h6 (M 1 2) (Nat.le_refl _)
  refine xv_aload_n hX 0 dc_RD_remaining_0 rfl (rfl : _ = 1) ?_
  refine xv_geti hX fl_RD_29 rfl rfl (by decide) (v := M 1 4) rfl dc_RD_remaining_1 (rfl : _ = 4) ?_
  refine xv_if_eq hX (nI_toInt (by omega)) (tgt := 24) (pq := 7) dc_RD_remaining_4 (by decide) rfl (fun c4 => ?_) (fun c4 => ?_)
  · skip
    refine xv_iconst hX (v := nI 0) dc_RD_remaining_24 (by decide) (rfl : _ = 25) ?_
    refine xv_reti hX hR rfl dc_RD_remaining_25 ?_
    exact ⟨rfl, congrArg nI (by rw [rd_remE hI]; first | rw [if_pos (by omega)] | rw [if_neg (by omega)])⟩
  · skip
    have hs : M 1 4 = 1 := by omega
    have h7d := (h7 hs).1
    refine xv_aload_n hX 0 dc_RD_remaining_7 rfl (rfl : _ = 8) ?_
    refine xv_getr hX fl_RD_18 rfl rfl (by decide) rfl dc_RD_remaining_8 (rfl : _ = 11) ?_
    refine xv_aload_n hX 0 dc_RD_remaining_11 rfl (rfl : _ = 12) ?_
    refine xv_geti hX fl_RD_22 rfl rfl (by decide) (v := M 1 2) rfl dc_RD_remaining_12 (rfl : _ = 15) ?_
    refine xv_iald hX rfl (by decide) (by omega) (by decide) (v := M 4 (M 1 2)) rfl dc_RD_remaining_15 (rfl : _ = 16) ?_
    refine xv_aload_n hX 0 dc_RD_remaining_16 rfl (rfl : _ = 17) ?_
    refine xv_geti hX fl_RD_26 rfl rfl (by decide) (v := M 1 3) rfl dc_RD_remaining_17 (rfl : _ = 20) ?_
    refine xv_isub hX dc_RD_remaining_20 (pk_sub (by omega)) (rfl : _ = 21) ?_
    refine xv_goto hX (pq := 25) dc_RD_remaining_21 (by decide) ?_
    refine xv_reti hX hR rfl dc_RD_remaining_25 ?_
    exact ⟨rfl, congrArg nI (by rw [rd_remE hI]; first | rw [if_pos (by omega)] | rw [if_neg (by omega)])⟩

set_option maxRecDepth 100000 in
set_option maxHeartbeats 4000000 in
theorem ct_RD_hashSince (l : Launch) (Y : xw_Y) (M : xm_M) (f : Nat) (hI : rd_I M) (hf : f ≤ 160) : xc_i l qm_RD_hashSince 1 Y [.ref (Y.2.2.2 1), .int (nI f)] M (fun r M1 => M1 = M ∧ r = nI (ps_hash (M 3) f (M 1 3 - f))) := by
  refine xc_i.mk .int rfl (by decide) (Nat.le_of_ble_eq_true rfl) ?_
  intro X hXl hX hR
  subst hXl
  have hX : xv_ok X Y prog_7_method_6_code "CertificatePath$Reader" 2 (xc_rm 1) := hX
  show xv_V X Y 2 0 0 xw_lk xw_N M 0 [(0, .ref (Y.2.2.2 1)), (1, .int (nI f))] []
  obtain ⟨h1, h2, h3, h4, h5, h6, h7⟩ := id hI
  have h6d := h6 (M 1 2) (Nat.le_refl _)
  refine xv_aload_n hX 0 dc_RD_hashSince_0 rfl (rfl : _ = 1) ?_
  refine xv_getr hX fl_RD_12 rfl rfl (by decide) rfl dc_RD_hashSince_1 (rfl : _ = 4) ?_
  refine xv_iload_n hX 1 dc_RD_hashSince_4 rfl (rfl : _ = 5) ?_
  refine xv_aload_n hX 0 dc_RD_hashSince_5 rfl (rfl : _ = 6) ?_
  refine xv_geti hX fl_RD_26 rfl rfl (by decide) (v := M 1 3) rfl dc_RD_hashSince_6 (rfl : _ = 9) ?_
  refine xv_calli hX (As := [.int (nI f), .int (nI (M 1 3))]) (rest := []) (ct_BR_hashBetween _ Y M f (M 1 3) hf (by omega) h2) ml_RD_36 li_BR_hashBetween rfl (by decide) rfl rfl rfl (by decide) ⟨by decide, by decide⟩ ⟨Nat.le_refl _, Nat.le_refl _⟩ (Nat.le_of_ble_eq_true rfl) dc_RD_hashSince_9 (rfl : _ = 12) (fun r9 M9 p9 => ?_)
  obtain ⟨rfl, rfl⟩ := p9
  refine xv_reti hX hR rfl dc_RD_hashSince_12 ?_
  exact ⟨rfl, rfl⟩

set_option maxRecDepth 100000 in
set_option maxHeartbeats 4000000 in
theorem ct_RD_nextIs (l : Launch) (Y : xw_Y) (M : xm_M) (tag : Nat) (hI : rd_I M) (ht : tag < 256) : xc_i l qm_RD_nextIs 0 Y [.ref (Y.2.2.2 1), .int (nI tag)] M (fun r M1 => M1 = M ∧ r = nI (if rd_is (M 3) tag (rd_of M) = true then 1 else 0)) := by
  refine xc_i.mk .boolean rfl (by decide) (Nat.le_of_ble_eq_true rfl) ?_
  intro X hXl hX hR
  subst hXl
  have hX : xv_ok X Y prog_7_method_7_code "CertificatePath$Reader" 2 (xc_rm 0) := hX
  show xv_V X Y 2 0 0 xw_lk xw_N M 0 [(0, .ref (Y.2.2.2 1)), (1, .int (nI tag))] []
  obtain ⟨h1, h2, h3, h4, h5, h6, h7⟩ := id hI
  have h6d := h6 (M 1 2) (Nat.le_refl _)
  refine xv_aload_n hX 0 dc_RD_nextIs_0 rfl (rfl : _ = 1) ?_
  refine xv_geti hX fl_RD_29 rfl rfl (by decide) (v := M 1 4) rfl dc_RD_nextIs_1 (rfl : _ = 4) ?_
  refine xv_if_eq hX (nI_toInt (by omega)) (tgt := 43) (pq := 7) dc_RD_nextIs_4 (by decide) rfl (fun c4 => ?_) (fun c4 => ?_)
  · skip
    refine xv_iconst hX (v := nI 0) dc_RD_nextIs_43 (by decide) (rfl : _ = 44) ?_
    refine xv_reti hX hR (by decide) dc_RD_nextIs_44 ?_
    exact ⟨rfl, congrArg nI (by rw [rd_isE hI tag]; first | (rw [if_pos (by simp; omega)]; done) | (rw [if_neg (by simp; omega)]; done))⟩
  · skip
    have hs : M 1 4 = 1 := by omega
    have h7d := (h7 hs).1
    refine xv_aload_n hX 0 dc_RD_nextIs_7 rfl (rfl : _ = 8) ?_
    refine xv_geti hX fl_RD_26 rfl rfl (by decide) (v := M 1 3) rfl dc_RD_nextIs_8 (rfl : _ = 11) ?_
    refine xv_aload_n hX 0 dc_RD_nextIs_11 rfl (rfl : _ = 12) ?_
    refine xv_getr hX fl_RD_18 rfl rfl (by decide) rfl dc_RD_nextIs_12 (rfl : _ = 15) ?_
    refine xv_aload_n hX 0 dc_RD_nextIs_15 rfl (rfl : _ = 16) ?_
    refine xv_geti hX fl_RD_22 rfl rfl (by decide) (v := M 1 2) rfl dc_RD_nextIs_16 (rfl : _ = 19) ?_
    refine xv_iald hX rfl (by decide) (by omega) (by decide) (v := M 4 (M 1 2)) rfl dc_RD_nextIs_19 (rfl : _ = 20) ?_
    refine xv_icmp_ge hX (nI_toInt (by omega)) (nI_toInt (by omega)) (tgt := 43) (pq := 23) dc_RD_nextIs_20 (by decide) rfl (fun c20 => ?_) (fun c20 => ?_)
    · skip
      refine xv_iconst hX (v := nI 0) dc_RD_nextIs_43 (by decide) (rfl : _ = 44) ?_
      refine xv_reti hX hR (by decide) dc_RD_nextIs_44 ?_
      exact ⟨rfl, congrArg nI (by rw [rd_isE hI tag]; first | (rw [if_pos (by simp; omega)]; done) | (rw [if_neg (by simp; omega)]; done))⟩
    · skip
      refine xv_aload_n hX 0 dc_RD_nextIs_23 rfl (rfl : _ = 24) ?_
      refine xv_getr hX fl_RD_12 rfl rfl (by decide) rfl dc_RD_nextIs_24 (rfl : _ = 27) ?_
      refine xv_getr hX fl_RD_40 rfl rfl (by decide) rfl dc_RD_nextIs_27 (rfl : _ = 30) ?_
      refine xv_aload_n hX 0 dc_RD_nextIs_30 rfl (rfl : _ = 31) ?_
      refine xv_geti hX fl_RD_26 rfl rfl (by decide) (v := M 1 3) rfl dc_RD_nextIs_31 (rfl : _ = 34) ?_
      refine xv_iald hX rfl (by decide) (by omega) (by decide) (v := M 3 (M 1 3)) rfl dc_RD_nextIs_34 (rfl : _ = 35) ?_
      have hb := h2 (M 1 3) (by omega)
      refine xv_iload_n hX 1 dc_RD_nextIs_35 rfl (rfl : _ = 36) ?_
      refine xv_icmp_ne hX (nI_toInt (by omega)) (nI_toInt (by omega)) (tgt := 43) (pq := 39) dc_RD_nextIs_36 (by decide) rfl (fun c36 => ?_) (fun c36 => ?_)
      · skip
        refine xv_iconst hX (v := nI 0) dc_RD_nextIs_43 (by decide) (rfl : _ = 44) ?_
        refine xv_reti hX hR (by decide) dc_RD_nextIs_44 ?_
        exact ⟨rfl, congrArg nI (by rw [rd_isE hI tag]; first | (rw [if_pos (by simp; omega)]; done) | (rw [if_neg (by simp; omega)]; done))⟩
      · skip
        refine xv_iconst hX (v := nI 1) dc_RD_nextIs_39 (by decide) (rfl : _ = 40) ?_
        refine xv_goto hX (pq := 44) dc_RD_nextIs_40 (by decide) ?_
        refine xv_reti hX hR (by decide) dc_RD_nextIs_44 ?_
        exact ⟨rfl, congrArg nI (by rw [rd_isE hI tag]; first | (rw [if_pos (by simp; omega)]; done) | (rw [if_neg (by simp; omega)]; done))⟩

set_option maxRecDepth 100000 in
set_option maxHeartbeats 4000000 in
theorem ct_RD_readByte (l : Launch) (Y : xw_Y) (M : xm_M) (hI : rd_I M) : xc_i l qm_RD_readByte 0 Y [.ref (Y.2.2.2 1)] M (fun r M1 => rd_Q M M1 (rd_next (rd_of M)) ∧ r = nI (rd_byte (M 3) (rd_of M))) := by
  refine xc_i.mk .int rfl (by decide) (Nat.le_of_ble_eq_true rfl) ?_
  intro X hXl hX hR
  subst hXl
  have hX : xv_ok X Y prog_7_method_8_code "CertificatePath$Reader" 1 (xc_rm 0) := hX
  show xv_V X Y 1 0 0 xw_lk xw_N M 0 [(0, .ref (Y.2.2.2 1))] []
  obtain ⟨h1, h2, h3, h4, h5, h6, h7⟩ := id hI
  have h6d := h6 (M 1 2) (Nat.le_refl _)
  refine xv_aload_n hX 0 dc_RD_readByte_0 rfl (rfl : _ = 1) ?_
  refine xv_geti hX fl_RD_29 rfl rfl (by decide) (v := M 1 4) rfl dc_RD_readByte_1 (rfl : _ = 4) ?_
  refine xv_if_eq hX (nI_toInt (by omega)) (tgt := 23) (pq := 7) dc_RD_readByte_4 (by decide) rfl (fun c4 => ?_) (fun c4 => ?_)
  · skip
    refine xv_aload_n hX 0 dc_RD_readByte_23 rfl (rfl : _ = 24) ?_
    refine xv_iconst hX (v := nI 0) dc_RD_readByte_24 (by decide) (rfl : _ = 25) ?_
    refine xv_putz hX fl_RD_29 rfl rfl (by decide) (by decide) dc_RD_readByte_25 (rfl : _ = 28) ?_
    refine xv_iconst hX (v := nI 0) dc_RD_readByte_28 (by decide) (rfl : _ = 29) ?_
    refine xv_reti hX hR rfl dc_RD_readByte_29 ?_
    exact (rd_nxN hI (by omega)).imp id (fun h => by rw [h])
  · skip
    have hs : M 1 4 = 1 := by omega
    have h7d := (h7 hs).1
    refine xv_aload_n hX 0 dc_RD_readByte_7 rfl (rfl : _ = 8) ?_
    refine xv_geti hX fl_RD_26 rfl rfl (by decide) (v := M 1 3) rfl dc_RD_readByte_8 (rfl : _ = 11) ?_
    refine xv_aload_n hX 0 dc_RD_readByte_11 rfl (rfl : _ = 12) ?_
    refine xv_getr hX fl_RD_18 rfl rfl (by decide) rfl dc_RD_readByte_12 (rfl : _ = 15) ?_
    refine xv_aload_n hX 0 dc_RD_readByte_15 rfl (rfl : _ = 16) ?_
    refine xv_geti hX fl_RD_22 rfl rfl (by decide) (v := M 1 2) rfl dc_RD_readByte_16 (rfl : _ = 19) ?_
    refine xv_iald hX rfl (by decide) (by omega) (by decide) (v := M 4 (M 1 2)) rfl dc_RD_readByte_19 (rfl : _ = 20) ?_
    refine xv_icmp_lt hX (nI_toInt (by omega)) (nI_toInt (by omega)) (tgt := 30) (pq := 23) dc_RD_readByte_20 (by decide) rfl (fun c20 => ?_) (fun c20 => ?_)
    · skip
      refine xv_aload_n hX 0 dc_RD_readByte_30 rfl (rfl : _ = 31) ?_
      refine xv_dup hX dc_RD_readByte_31 rfl (rfl : _ = 32) ?_
      refine xv_geti hX fl_RD_26 rfl rfl (by decide) (v := M 1 3) rfl dc_RD_readByte_32 (rfl : _ = 35) ?_
      refine xv_iconst hX (v := nI 1) dc_RD_readByte_35 (by decide) (rfl : _ = 36) ?_
      refine xv_iadd hX dc_RD_readByte_36 (nI_add (M 1 3) 1) (rfl : _ = 37) ?_
      refine xv_puti hX fl_RD_26 rfl rfl (by decide) dc_RD_readByte_37 (rfl : _ = 40) ?_
      refine xv_aload_n hX 0 dc_RD_readByte_40 rfl (rfl : _ = 41) ?_
      refine xv_getr hX fl_RD_12 rfl rfl (by decide) rfl dc_RD_readByte_41 (rfl : _ = 44) ?_
      refine xv_getr hX fl_RD_40 rfl rfl (by decide) rfl dc_RD_readByte_44 (rfl : _ = 47) ?_
      refine xv_aload_n hX 0 dc_RD_readByte_47 rfl (rfl : _ = 48) ?_
      refine xv_geti hX fl_RD_26 rfl rfl (by decide) (v := M 1 3 + 1) xm_eq dc_RD_readByte_48 (rfl : _ = 51) ?_
      refine xv_iconst hX (v := nI 1) dc_RD_readByte_51 (by decide) (rfl : _ = 52) ?_
      refine xv_isub hX dc_RD_readByte_52 (pk_sub (by omega)) (rfl : _ = 53) ?_
      refine xv_iald hX rfl (by decide) (by omega) (by decide) (v := M 3 (M 1 3 + 1 - 1)) (xm_np (by decide)) dc_RD_readByte_53 (rfl : _ = 54) ?_
      refine xv_reti hX hR rfl dc_RD_readByte_54 ?_
      exact (rd_nxY hI hs (by omega)).imp id (fun h => by rw [h]; rfl)
    · skip
      refine xv_aload_n hX 0 dc_RD_readByte_23 rfl (rfl : _ = 24) ?_
      refine xv_iconst hX (v := nI 0) dc_RD_readByte_24 (by decide) (rfl : _ = 25) ?_
      refine xv_putz hX fl_RD_29 rfl rfl (by decide) (by decide) dc_RD_readByte_25 (rfl : _ = 28) ?_
      refine xv_iconst hX (v := nI 0) dc_RD_readByte_28 (by decide) (rfl : _ = 29) ?_
      refine xv_reti hX hR rfl dc_RD_readByte_29 ?_
      exact (rd_nxN hI (by omega)).imp id (fun h => by rw [h])

set_option maxRecDepth 100000 in
set_option maxHeartbeats 4000000 in
theorem ct_RD_open (l : Launch) (Y : xw_Y) (M : xm_M) (tag : Nat) (hI : rd_I M) (ht : tag < 256) : xc_v l qm_RD_open 0 Y [.ref (Y.2.2.2 1), .int (nI tag)] M (fun M1 => rd_Q M M1 (rd_open (M 3) tag (rd_of M))) := by
  refine xc_v.mk rfl (by decide) (Nat.le_of_ble_eq_true rfl) ?_
  intro X hXl hX hR
  subst hXl
  have hX : xv_ok X Y prog_7_method_9_code "CertificatePath$Reader" 5 (xc_rm 0) := hX
  show xv_V X Y 5 0 0 xw_lk xw_N M 0 [(0, .ref (Y.2.2.2 1)), (1, .int (nI tag))] []
  obtain ⟨h1, h2, h3, h4, h5, h6, h7⟩ := id hI
  have h6d := h6 (M 1 2) (Nat.le_refl _)
  refine xv_aload_n hX 0 dc_RD_open_0 rfl (rfl : _ = 1) ?_
  refine xv_getr hX fl_RD_18 rfl rfl (by decide) rfl dc_RD_open_1 (rfl : _ = 4) ?_
  refine xv_aload_n hX 0 dc_RD_open_4 rfl (rfl : _ = 5) ?_
  refine xv_geti hX fl_RD_22 rfl rfl (by decide) (v := M 1 2) rfl dc_RD_open_5 (rfl : _ = 8) ?_
  refine xv_iald hX rfl (by decide) (by omega) (by decide) (v := M 4 (M 1 2)) rfl dc_RD_open_8 (rfl : _ = 9) ?_
  refine xv_istore_n hX [1, 2, 0] dc_RD_open_9 (by decide) (L' := [(0, .ref (Y.2.2.2 1)), (1, .int (nI tag)), (2, .int (nI (M 4 (M 1 2))))]) rfl (rfl : _ = 10) ?_
  refine xv_aload_n hX 0 dc_RD_open_10 rfl (rfl : _ = 11) ?_
  refine xv_geti hX fl_RD_29 rfl rfl (by decide) (v := M 1 4) rfl dc_RD_open_11 (rfl : _ = 14) ?_
  refine xv_if_eq hX (nI_toInt (by omega)) (tgt := 57) (pq := 17) dc_RD_open_14 (by decide) rfl (fun c14 => ?_) (fun c14 => ?_)
  · skip
    refine xv_aload_n hX 0 dc_RD_open_57 rfl (rfl : _ = 58) ?_
    refine xv_iconst hX (v := nI 0) dc_RD_open_58 (by decide) (rfl : _ = 59) ?_
    refine xv_putz hX fl_RD_29 rfl rfl (by decide) (by decide) dc_RD_open_59 (rfl : _ = 62) ?_
    refine xv_retv hX hR dc_RD_open_62 ?_
    first
    | exact rd_opN hI (Or.inl (by omega))
    | exact rd_opN hI (Or.inr (Or.inl (by omega)))
    | exact rd_opN hI (Or.inr (Or.inr (by unfold ps_hd; (repeat' split) <;> first | rfl | (exfalso; omega))))
  · skip
    have hs : M 1 4 = 1 := by omega
    have h7d := (h7 hs).1
    refine xv_aload_n hX 0 dc_RD_open_17 rfl (rfl : _ = 18) ?_
    refine xv_geti hX fl_RD_22 rfl rfl (by decide) (v := M 1 2) rfl dc_RD_open_18 (rfl : _ = 21) ?_
    refine xv_iconst hX (v := nI 1) dc_RD_open_21 (by decide) (rfl : _ = 22) ?_
    refine xv_iadd hX dc_RD_open_22 (nI_add (M 1 2) 1) (rfl : _ = 23) ?_
    refine xv_aload_n hX 0 dc_RD_open_23 rfl (rfl : _ = 24) ?_
    refine xv_getr hX fl_RD_18 rfl rfl (by decide) rfl dc_RD_open_24 (rfl : _ = 27) ?_
    refine xv_alen hX (n := 11) rfl ⟨_, rfl⟩ (by decide) dc_RD_open_27 (rfl : _ = 28) ?_
    refine xv_icmp_ge hX (nI_toInt (by omega)) (show (nI 11).toInt = 11 by decide) (tgt := 57) (pq := 31) dc_RD_open_28 (by decide) rfl (fun c28 => ?_) (fun c28 => ?_)
    · skip
      refine xv_aload_n hX 0 dc_RD_open_57 rfl (rfl : _ = 58) ?_
      refine xv_iconst hX (v := nI 0) dc_RD_open_58 (by decide) (rfl : _ = 59) ?_
      refine xv_putz hX fl_RD_29 rfl rfl (by decide) (by decide) dc_RD_open_59 (rfl : _ = 62) ?_
      refine xv_retv hX hR dc_RD_open_62 ?_
      first
      | exact rd_opN hI (Or.inl (by omega))
      | exact rd_opN hI (Or.inr (Or.inl (by omega)))
      | exact rd_opN hI (Or.inr (Or.inr (by unfold ps_hd; (repeat' split) <;> first | rfl | (exfalso; omega))))
    · skip
      refine xv_iload_n hX 2 dc_RD_open_31 rfl (rfl : _ = 32) ?_
      refine xv_aload_n hX 0 dc_RD_open_32 rfl (rfl : _ = 33) ?_
      refine xv_geti hX fl_RD_26 rfl rfl (by decide) (v := M 1 3) rfl dc_RD_open_33 (rfl : _ = 36) ?_
      refine xv_isub hX dc_RD_open_36 (pk_sub (by omega)) (rfl : _ = 37) ?_
      refine xv_iconst hX (v := nI 2) dc_RD_open_37 (by decide) (rfl : _ = 38) ?_
      refine xv_icmp_lt hX (nI_toInt (by omega)) (show (nI 2).toInt = 2 by decide) (tgt := 57) (pq := 41) dc_RD_open_38 (by decide) rfl (fun c38 => ?_) (fun c38 => ?_)
      · skip
        refine xv_aload_n hX 0 dc_RD_open_57 rfl (rfl : _ = 58) ?_
        refine xv_iconst hX (v := nI 0) dc_RD_open_58 (by decide) (rfl : _ = 59) ?_
        refine xv_putz hX fl_RD_29 rfl rfl (by decide) (by decide) dc_RD_open_59 (rfl : _ = 62) ?_
        refine xv_retv hX hR dc_RD_open_62 ?_
        first
        | exact rd_opN hI (Or.inl (by omega))
        | exact rd_opN hI (Or.inr (Or.inl (by omega)))
        | exact rd_opN hI (Or.inr (Or.inr (by unfold ps_hd; (repeat' split) <;> first | rfl | (exfalso; omega))))
      · skip
        refine xv_aload_n hX 0 dc_RD_open_41 rfl (rfl : _ = 42) ?_
        refine xv_getr hX fl_RD_12 rfl rfl (by decide) rfl dc_RD_open_42 (rfl : _ = 45) ?_
        refine xv_getr hX fl_RD_40 rfl rfl (by decide) rfl dc_RD_open_45 (rfl : _ = 48) ?_
        refine xv_aload_n hX 0 dc_RD_open_48 rfl (rfl : _ = 49) ?_
        refine xv_geti hX fl_RD_26 rfl rfl (by decide) (v := M 1 3) rfl dc_RD_open_49 (rfl : _ = 52) ?_
        refine xv_iald hX rfl (by decide) (by omega) (by decide) (v := M 3 (M 1 3)) rfl dc_RD_open_52 (rfl : _ = 53) ?_
        have hb := h2 (M 1 3) (by omega)
        refine xv_iload_n hX 1 dc_RD_open_53 rfl (rfl : _ = 54) ?_
        refine xv_icmp_eq hX (nI_toInt (by omega)) (nI_toInt (by omega)) (tgt := 63) (pq := 57) dc_RD_open_54 (by decide) rfl (fun c54 => ?_) (fun c54 => ?_)
        · skip
          refine xv_aload_n hX 0 dc_RD_open_63 rfl (rfl : _ = 64) ?_
          refine xv_getr hX fl_RD_12 rfl rfl (by decide) rfl dc_RD_open_64 (rfl : _ = 67) ?_
          refine xv_getr hX fl_RD_40 rfl rfl (by decide) rfl dc_RD_open_67 (rfl : _ = 70) ?_
          refine xv_aload_n hX 0 dc_RD_open_70 rfl (rfl : _ = 71) ?_
          refine xv_geti hX fl_RD_26 rfl rfl (by decide) (v := M 1 3) rfl dc_RD_open_71 (rfl : _ = 74) ?_
          refine xv_iconst hX (v := nI 1) dc_RD_open_74 (by decide) (rfl : _ = 75) ?_
          refine xv_iadd hX dc_RD_open_75 (nI_add (M 1 3) 1) (rfl : _ = 76) ?_
          refine xv_iald hX rfl (by decide) (by omega) (by decide) (v := M 3 (M 1 3 + 1)) rfl dc_RD_open_76 (rfl : _ = 77) ?_
          refine xv_istore_n hX [1, 2, 3, 0] dc_RD_open_77 (by decide) (L' := [(0, .ref (Y.2.2.2 1)), (1, .int (nI tag)), (2, .int (nI (M 4 (M 1 2)))), (3, .int (nI (M 3 (M 1 3 + 1))))]) rfl (rfl : _ = 78) ?_
          refine xv_aload_n hX 0 dc_RD_open_78 rfl (rfl : _ = 79) ?_
          refine xv_geti hX fl_RD_26 rfl rfl (by decide) (v := M 1 3) rfl dc_RD_open_79 (rfl : _ = 82) ?_
          refine xv_iconst hX (v := nI 2) dc_RD_open_82 (by decide) (rfl : _ = 83) ?_
          refine xv_iadd hX dc_RD_open_83 (nI_add (M 1 3) 2) (rfl : _ = 84) ?_
          refine xv_istore hX [1, 2, 3, 4, 0] dc_RD_open_84 (by decide) (L' := [(0, .ref (Y.2.2.2 1)), (1, .int (nI tag)), (2, .int (nI (M 4 (M 1 2)))), (3, .int (nI (M 3 (M 1 3 + 1)))), (4, .int (nI (M 1 3 + 2)))]) rfl (rfl : _ = 86) ?_
          have hb1 := h2 (M 1 3 + 1) (by omega)
          refine xv_iload_n hX 3 dc_RD_open_86 rfl (rfl : _ = 87) ?_
          refine xv_bipush hX (v := nI 127) dc_RD_open_87 (by decide) (rfl : _ = 89) ?_
          refine xv_icmp_le hX (nI_toInt (by omega)) (show (nI 127).toInt = 127 by decide) (tgt := 140) (pq := 92) dc_RD_open_89 (by decide) rfl (fun c89 => ?_) (fun c89 => ?_)
          · skip
            refine xv_iload_n hX 3 dc_RD_open_140 rfl (rfl : _ = 141) ?_
            refine xv_iload_n hX 2 dc_RD_open_141 rfl (rfl : _ = 142) ?_
            refine xv_iload hX 4 dc_RD_open_142 rfl (rfl : _ = 144) ?_
            refine xv_isub hX dc_RD_open_144 (pk_sub (by omega)) (rfl : _ = 145) ?_
            refine xv_icmp_le hX (nI_toInt (by omega)) (nI_toInt (by omega)) (tgt := 154) (pq := 148) dc_RD_open_145 (by decide) rfl (fun c145 => ?_) (fun c145 => ?_)
            · skip
              refine xv_aload_n hX 0 dc_RD_open_154 rfl (rfl : _ = 155) ?_
              refine xv_iload hX 4 dc_RD_open_155 rfl (rfl : _ = 157) ?_
              refine xv_puti hX fl_RD_26 rfl rfl (by decide) dc_RD_open_157 (rfl : _ = 160) ?_
              refine xv_aload_n hX 0 dc_RD_open_160 rfl (rfl : _ = 161) ?_
              refine xv_dup hX dc_RD_open_161 rfl (rfl : _ = 162) ?_
              refine xv_geti hX fl_RD_22 rfl rfl (by decide) (v := M 1 2) (xm_nk (by decide)) dc_RD_open_162 (rfl : _ = 165) ?_
              refine xv_iconst hX (v := nI 1) dc_RD_open_165 (by decide) (rfl : _ = 166) ?_
              refine xv_iadd hX dc_RD_open_166 (nI_add (M 1 2) 1) (rfl : _ = 167) ?_
              refine xv_puti hX fl_RD_22 rfl rfl (by decide) dc_RD_open_167 (rfl : _ = 170) ?_
              refine xv_aload_n hX 0 dc_RD_open_170 rfl (rfl : _ = 171) ?_
              refine xv_getr hX fl_RD_18 rfl rfl (by decide) rfl dc_RD_open_171 (rfl : _ = 174) ?_
              refine xv_aload_n hX 0 dc_RD_open_174 rfl (rfl : _ = 175) ?_
              refine xv_geti hX fl_RD_22 rfl rfl (by decide) (v := M 1 2 + 1) xm_eq dc_RD_open_175 (rfl : _ = 178) ?_
              refine xv_iload hX 4 dc_RD_open_178 rfl (rfl : _ = 180) ?_
              refine xv_iload_n hX 3 dc_RD_open_180 rfl (rfl : _ = 181) ?_
              refine xv_iadd hX dc_RD_open_181 (nI_add (M 1 3 + 2) (M 3 (M 1 3 + 1))) (rfl : _ = 182) ?_
              refine xv_iast hX rfl (by decide) (by omega) (by decide) dc_RD_open_182 (rfl : _ = 183) ?_
              refine xv_retv hX hR dc_RD_open_183 ?_
              refine rd_opY hI hs (by omega) ?_
              unfold ps_hd
              repeat' split
              all_goals first
                | rfl
                | (exfalso; omega)
                | (simp only [Option.some.injEq, Prod.mk.injEq]; omega)
            · skip
              refine xv_aload_n hX 0 dc_RD_open_148 rfl (rfl : _ = 149) ?_
              refine xv_iconst hX (v := nI 0) dc_RD_open_149 (by decide) (rfl : _ = 150) ?_
              refine xv_putz hX fl_RD_29 rfl rfl (by decide) (by decide) dc_RD_open_150 (rfl : _ = 153) ?_
              refine xv_retv hX hR dc_RD_open_153 ?_
              first
              | exact rd_opN hI (Or.inl (by omega))
              | exact rd_opN hI (Or.inr (Or.inl (by omega)))
              | exact rd_opN hI (Or.inr (Or.inr (by unfold ps_hd; (repeat' split) <;> first | rfl | (exfalso; omega))))
          · skip
            refine xv_iload_n hX 3 dc_RD_open_92 rfl (rfl : _ = 93) ?_
            refine xv_sipush hX (v := nI 129) dc_RD_open_93 (by decide) (rfl : _ = 96) ?_
            refine xv_icmp_ne hX (nI_toInt (by omega)) (show (nI 129).toInt = 129 by decide) (tgt := 120) (pq := 99) dc_RD_open_96 (by decide) rfl (fun c96 => ?_) (fun c96 => ?_)
            · skip
              refine xv_aload_n hX 0 dc_RD_open_120 rfl (rfl : _ = 121) ?_
              refine xv_iconst hX (v := nI 0) dc_RD_open_121 (by decide) (rfl : _ = 122) ?_
              refine xv_putz hX fl_RD_29 rfl rfl (by decide) (by decide) dc_RD_open_122 (rfl : _ = 125) ?_
              refine xv_retv hX hR dc_RD_open_125 ?_
              first
              | exact rd_opN hI (Or.inl (by omega))
              | exact rd_opN hI (Or.inr (Or.inl (by omega)))
              | exact rd_opN hI (Or.inr (Or.inr (by unfold ps_hd; (repeat' split) <;> first | rfl | (exfalso; omega))))
            · skip
              refine xv_iload hX 4 dc_RD_open_99 rfl (rfl : _ = 101) ?_
              refine xv_iload_n hX 2 dc_RD_open_101 rfl (rfl : _ = 102) ?_
              refine xv_icmp_ge hX (nI_toInt (by omega)) (nI_toInt (by omega)) (tgt := 120) (pq := 105) dc_RD_open_102 (by decide) rfl (fun c102 => ?_) (fun c102 => ?_)
              · skip
                refine xv_aload_n hX 0 dc_RD_open_120 rfl (rfl : _ = 121) ?_
                refine xv_iconst hX (v := nI 0) dc_RD_open_121 (by decide) (rfl : _ = 122) ?_
                refine xv_putz hX fl_RD_29 rfl rfl (by decide) (by decide) dc_RD_open_122 (rfl : _ = 125) ?_
                refine xv_retv hX hR dc_RD_open_125 ?_
                first
                | exact rd_opN hI (Or.inl (by omega))
                | exact rd_opN hI (Or.inr (Or.inl (by omega)))
                | exact rd_opN hI (Or.inr (Or.inr (by unfold ps_hd; (repeat' split) <;> first | rfl | (exfalso; omega))))
              · skip
                refine xv_aload_n hX 0 dc_RD_open_105 rfl (rfl : _ = 106) ?_
                refine xv_getr hX fl_RD_12 rfl rfl (by decide) rfl dc_RD_open_106 (rfl : _ = 109) ?_
                refine xv_getr hX fl_RD_40 rfl rfl (by decide) rfl dc_RD_open_109 (rfl : _ = 112) ?_
                refine xv_iload hX 4 dc_RD_open_112 rfl (rfl : _ = 114) ?_
                refine xv_iald hX rfl (by decide) (by omega) (by decide) (v := M 3 (M 1 3 + 2)) rfl dc_RD_open_114 (rfl : _ = 115) ?_
                have hb2 := h2 (M 1 3 + 2) (by omega)
                refine xv_bipush hX (v := nI 127) dc_RD_open_115 (by decide) (rfl : _ = 117) ?_
                refine xv_icmp_gt hX (nI_toInt (by omega)) (show (nI 127).toInt = 127 by decide) (tgt := 126) (pq := 120) dc_RD_open_117 (by decide) rfl (fun c117 => ?_) (fun c117 => ?_)
                · skip
                  refine xv_aload_n hX 0 dc_RD_open_126 rfl (rfl : _ = 127) ?_
                  refine xv_getr hX fl_RD_12 rfl rfl (by decide) rfl dc_RD_open_127 (rfl : _ = 130) ?_
                  refine xv_getr hX fl_RD_40 rfl rfl (by decide) rfl dc_RD_open_130 (rfl : _ = 133) ?_
                  refine xv_iload hX 4 dc_RD_open_133 rfl (rfl : _ = 135) ?_
                  refine xv_iald hX rfl (by decide) (by omega) (by decide) (v := M 3 (M 1 3 + 2)) rfl dc_RD_open_135 (rfl : _ = 136) ?_
                  refine xv_istore_n hX [1, 2, 3, 0, 4] dc_RD_open_136 (by decide) (L' := [(0, .ref (Y.2.2.2 1)), (1, .int (nI tag)), (2, .int (nI (M 4 (M 1 2)))), (3, .int (nI (M 3 (M 1 3 + 2)))), (4, .int (nI (M 1 3 + 2)))]) rfl (rfl : _ = 137) ?_
                  refine xv_iinc hX 4 [1, 2, 3, 4, 0] dc_RD_open_137 rfl (xi_inc (M 1 3 + 2) 1) (by decide) (L' := [(0, .ref (Y.2.2.2 1)), (1, .int (nI tag)), (2, .int (nI (M 4 (M 1 2)))), (3, .int (nI (M 3 (M 1 3 + 2)))), (4, .int (nI (M 1 3 + 3)))]) rfl (rfl : _ = 140) ?_
                  refine xv_iload_n hX 3 dc_RD_open_140 rfl (rfl : _ = 141) ?_
                  refine xv_iload_n hX 2 dc_RD_open_141 rfl (rfl : _ = 142) ?_
                  refine xv_iload hX 4 dc_RD_open_142 rfl (rfl : _ = 144) ?_
                  refine xv_isub hX dc_RD_open_144 (pk_sub (by omega)) (rfl : _ = 145) ?_
                  refine xv_icmp_le hX (nI_toInt (by omega)) (nI_toInt (by omega)) (tgt := 154) (pq := 148) dc_RD_open_145 (by decide) rfl (fun c145 => ?_) (fun c145 => ?_)
                  · skip
                    refine xv_aload_n hX 0 dc_RD_open_154 rfl (rfl : _ = 155) ?_
                    refine xv_iload hX 4 dc_RD_open_155 rfl (rfl : _ = 157) ?_
                    refine xv_puti hX fl_RD_26 rfl rfl (by decide) dc_RD_open_157 (rfl : _ = 160) ?_
                    refine xv_aload_n hX 0 dc_RD_open_160 rfl (rfl : _ = 161) ?_
                    refine xv_dup hX dc_RD_open_161 rfl (rfl : _ = 162) ?_
                    refine xv_geti hX fl_RD_22 rfl rfl (by decide) (v := M 1 2) (xm_nk (by decide)) dc_RD_open_162 (rfl : _ = 165) ?_
                    refine xv_iconst hX (v := nI 1) dc_RD_open_165 (by decide) (rfl : _ = 166) ?_
                    refine xv_iadd hX dc_RD_open_166 (nI_add (M 1 2) 1) (rfl : _ = 167) ?_
                    refine xv_puti hX fl_RD_22 rfl rfl (by decide) dc_RD_open_167 (rfl : _ = 170) ?_
                    refine xv_aload_n hX 0 dc_RD_open_170 rfl (rfl : _ = 171) ?_
                    refine xv_getr hX fl_RD_18 rfl rfl (by decide) rfl dc_RD_open_171 (rfl : _ = 174) ?_
                    refine xv_aload_n hX 0 dc_RD_open_174 rfl (rfl : _ = 175) ?_
                    refine xv_geti hX fl_RD_22 rfl rfl (by decide) (v := M 1 2 + 1) xm_eq dc_RD_open_175 (rfl : _ = 178) ?_
                    refine xv_iload hX 4 dc_RD_open_178 rfl (rfl : _ = 180) ?_
                    refine xv_iload_n hX 3 dc_RD_open_180 rfl (rfl : _ = 181) ?_
                    refine xv_iadd hX dc_RD_open_181 (nI_add (M 1 3 + 3) (M 3 (M 1 3 + 2))) (rfl : _ = 182) ?_
                    refine xv_iast hX rfl (by decide) (by omega) (by decide) dc_RD_open_182 (rfl : _ = 183) ?_
                    refine xv_retv hX hR dc_RD_open_183 ?_
                    refine rd_opY hI hs (by omega) ?_
                    unfold ps_hd
                    repeat' split
                    all_goals first
                      | rfl
                      | (exfalso; omega)
                      | (simp only [Option.some.injEq, Prod.mk.injEq]; omega)
                  · skip
                    refine xv_aload_n hX 0 dc_RD_open_148 rfl (rfl : _ = 149) ?_
                    refine xv_iconst hX (v := nI 0) dc_RD_open_149 (by decide) (rfl : _ = 150) ?_
                    refine xv_putz hX fl_RD_29 rfl rfl (by decide) (by decide) dc_RD_open_150 (rfl : _ = 153) ?_
                    refine xv_retv hX hR dc_RD_open_153 ?_
                    first
                    | exact rd_opN hI (Or.inl (by omega))
                    | exact rd_opN hI (Or.inr (Or.inl (by omega)))
                    | exact rd_opN hI (Or.inr (Or.inr (by unfold ps_hd; (repeat' split) <;> first | rfl | (exfalso; omega))))
                · skip
                  refine xv_aload_n hX 0 dc_RD_open_120 rfl (rfl : _ = 121) ?_
                  refine xv_iconst hX (v := nI 0) dc_RD_open_121 (by decide) (rfl : _ = 122) ?_
                  refine xv_putz hX fl_RD_29 rfl rfl (by decide) (by decide) dc_RD_open_122 (rfl : _ = 125) ?_
                  refine xv_retv hX hR dc_RD_open_125 ?_
                  first
                  | exact rd_opN hI (Or.inl (by omega))
                  | exact rd_opN hI (Or.inr (Or.inl (by omega)))
                  | exact rd_opN hI (Or.inr (Or.inr (by unfold ps_hd; (repeat' split) <;> first | rfl | (exfalso; omega))))
        · skip
          refine xv_aload_n hX 0 dc_RD_open_57 rfl (rfl : _ = 58) ?_
          refine xv_iconst hX (v := nI 0) dc_RD_open_58 (by decide) (rfl : _ = 59) ?_
          refine xv_putz hX fl_RD_29 rfl rfl (by decide) (by decide) dc_RD_open_59 (rfl : _ = 62) ?_
          refine xv_retv hX hR dc_RD_open_62 ?_
          first
          | exact rd_opN hI (Or.inl (by omega))
          | exact rd_opN hI (Or.inr (Or.inl (by omega)))
          | exact rd_opN hI (Or.inr (Or.inr (by unfold ps_hd; (repeat' split) <;> first | rfl | (exfalso; omega))))

set_option maxRecDepth 100000 in
set_option maxHeartbeats 4000000 in
theorem ct_RD_close (l : Launch) (Y : xw_Y) (M : xm_M) (hI : rd_I M) : xc_v l qm_RD_close 0 Y [.ref (Y.2.2.2 1)] M (fun M1 => rd_Q M M1 (rd_close (rd_of M))) := by
  refine xc_v.mk rfl (by decide) (Nat.le_of_ble_eq_true rfl) ?_
  intro X hXl hX hR
  subst hXl
  have hX : xv_ok X Y prog_7_method_10_code "CertificatePath$Reader" 1 (xc_rm 0) := hX
  show xv_V X Y 1 0 0 xw_lk xw_N M 0 [(0, .ref (Y.2.2.2 1))] []
  obtain ⟨h1, h2, h3, h4, h5, h6, h7⟩ := id hI
  have h6d := h6 (M 1 2) (Nat.le_refl _)
  refine xv_aload_n hX 0 dc_RD_close_0 rfl (rfl : _ = 1) ?_
  refine xv_geti hX fl_RD_29 rfl rfl (by decide) (v := M 1 4) rfl dc_RD_close_1 (rfl : _ = 4) ?_
  refine xv_if_eq hX (nI_toInt (by omega)) (tgt := 30) (pq := 7) dc_RD_close_4 (by decide) rfl (fun c4 => ?_) (fun c4 => ?_)
  · skip
    refine xv_aload_n hX 0 dc_RD_close_30 rfl (rfl : _ = 31) ?_
    refine xv_iconst hX (v := nI 0) dc_RD_close_31 (by decide) (rfl : _ = 32) ?_
    refine xv_putz hX fl_RD_29 rfl rfl (by decide) (by decide) dc_RD_close_32 (rfl : _ = 35) ?_
    refine xv_retv hX hR dc_RD_close_35 ?_
    first
    | exact rd_clN hI (Or.inl (by omega))
    | exact rd_clN hI (Or.inr (Or.inl (by omega)))
    | exact rd_clN hI (Or.inr (Or.inr (by omega)))
  · skip
    have hs : M 1 4 = 1 := by omega
    have h7d := (h7 hs).1
    refine xv_aload_n hX 0 dc_RD_close_7 rfl (rfl : _ = 8) ?_
    refine xv_geti hX fl_RD_22 rfl rfl (by decide) (v := M 1 2) rfl dc_RD_close_8 (rfl : _ = 11) ?_
    refine xv_if_eq hX (nI_toInt (by omega)) (tgt := 30) (pq := 14) dc_RD_close_11 (by decide) rfl (fun c11 => ?_) (fun c11 => ?_)
    · skip
      refine xv_aload_n hX 0 dc_RD_close_30 rfl (rfl : _ = 31) ?_
      refine xv_iconst hX (v := nI 0) dc_RD_close_31 (by decide) (rfl : _ = 32) ?_
      refine xv_putz hX fl_RD_29 rfl rfl (by decide) (by decide) dc_RD_close_32 (rfl : _ = 35) ?_
      refine xv_retv hX hR dc_RD_close_35 ?_
      first
      | exact rd_clN hI (Or.inl (by omega))
      | exact rd_clN hI (Or.inr (Or.inl (by omega)))
      | exact rd_clN hI (Or.inr (Or.inr (by omega)))
    · skip
      refine xv_aload_n hX 0 dc_RD_close_14 rfl (rfl : _ = 15) ?_
      refine xv_geti hX fl_RD_26 rfl rfl (by decide) (v := M 1 3) rfl dc_RD_close_15 (rfl : _ = 18) ?_
      refine xv_aload_n hX 0 dc_RD_close_18 rfl (rfl : _ = 19) ?_
      refine xv_getr hX fl_RD_18 rfl rfl (by decide) rfl dc_RD_close_19 (rfl : _ = 22) ?_
      refine xv_aload_n hX 0 dc_RD_close_22 rfl (rfl : _ = 23) ?_
      refine xv_geti hX fl_RD_22 rfl rfl (by decide) (v := M 1 2) rfl dc_RD_close_23 (rfl : _ = 26) ?_
      refine xv_iald hX rfl (by decide) (by omega) (by decide) (v := M 4 (M 1 2)) rfl dc_RD_close_26 (rfl : _ = 27) ?_
      refine xv_icmp_eq hX (nI_toInt (by omega)) (nI_toInt (by omega)) (tgt := 36) (pq := 30) dc_RD_close_27 (by decide) rfl (fun c27 => ?_) (fun c27 => ?_)
      · skip
        refine xv_aload_n hX 0 dc_RD_close_36 rfl (rfl : _ = 37) ?_
        refine xv_dup hX dc_RD_close_37 rfl (rfl : _ = 38) ?_
        refine xv_geti hX fl_RD_22 rfl rfl (by decide) (v := M 1 2) rfl dc_RD_close_38 (rfl : _ = 41) ?_
        refine xv_iconst hX (v := nI 1) dc_RD_close_41 (by decide) (rfl : _ = 42) ?_
        refine xv_isub hX dc_RD_close_42 (pk_sub (by omega)) (rfl : _ = 43) ?_
        refine xv_puti hX fl_RD_22 rfl rfl (by decide) dc_RD_close_43 (rfl : _ = 46) ?_
        refine xv_retv hX hR dc_RD_close_46 ?_
        exact rd_clY hI hs (by omega) (by omega)
      · skip
        refine xv_aload_n hX 0 dc_RD_close_30 rfl (rfl : _ = 31) ?_
        refine xv_iconst hX (v := nI 0) dc_RD_close_31 (by decide) (rfl : _ = 32) ?_
        refine xv_putz hX fl_RD_29 rfl rfl (by decide) (by decide) dc_RD_close_32 (rfl : _ = 35) ?_
        refine xv_retv hX hR dc_RD_close_35 ?_
        first
        | exact rd_clN hI (Or.inl (by omega))
        | exact rd_clN hI (Or.inr (Or.inl (by omega)))
        | exact rd_clN hI (Or.inr (Or.inr (by omega)))
