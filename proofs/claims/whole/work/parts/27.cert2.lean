/-! Certificate: usage and bounds -/
set_option maxRecDepth 100000 in
set_option maxHeartbeats 4000000 in
theorem ct_CT_readUsage (l : Launch) (Y : xw_Y) (M : xm_M) (c : Nat) (hc : xk_ct c) (hI : rd_I M) (hd : rd_D 1 (rd_of M)) : xc_v l qm_CT_readUsage 1 Y [.ref (Y.2.2.2 c), .ref (Y.2.2.2 1)] M (fun M1 => rd_I M1 ∧ (∀ q, q ≠ 1 → q ≠ 4 → q ≠ c → M1 q = M q) ∧ (∀ k, k ≠ 13 → M1 c k = M c k) ∧ rs_ok (rd_run (ps_bits (M 3)) (rd_of M)) (rd_of M1) (fun z => M1 c 13 = ps_mir z 8)) := by
  refine xc_v.mk rfl (by decide) (Nat.le_of_ble_eq_true rfl) ?_
  intro X hXl hX hR
  subst hXl
  have hX : xv_ok X Y prog_3_method_16_code "CertificatePath$Certificate" 4 (xc_rm 1) := hX
  show xv_V X Y 4 0 0 xw_lk xw_N M 0 [(0, .ref (Y.2.2.2 c)), (1, .ref (Y.2.2.2 1))] []
  have hc6 : 6 ≤ c := hc.2.2.2.2.2.2.1
  have hc29 : c + 29 < 276 := hc.2.2.2.2.2.2.2
  refine xv_aload_n hX 1 dc_CT_readUsage_0 rfl (rfl : _ = 1) ?_
  refine xv_iconst hX (v := nI 3) dc_CT_readUsage_1 (by decide) (rfl : _ = 2) ?_
  refine xv_callv hX (As := [.int (nI 3)]) (rest := []) (ct_RD_open _ Y M 3 hI (by decide)) ml_CT_102 li_RD_open rfl (by decide) rfl rfl rfl (by decide) ⟨by decide, by decide⟩ ⟨Nat.le_refl _, Nat.le_refl _⟩ (Nat.le_of_ble_eq_true rfl) dc_CT_readUsage_2 (rfl : _ = 5) (fun M2 p2 => ?_)
  obtain ⟨i2, f2, e2⟩ := p2
  have b2 : M2 3 = M 3 := f2 3 (by decide) (by decide)
  refine xv_aload_n hX 1 dc_CT_readUsage_5 rfl (rfl : _ = 6) ?_
  refine xv_calli hX (As := []) (rest := []) (ct_RD_readByte _ Y M2 i2) ml_CT_167 li_RD_readByte rfl (by decide) rfl rfl rfl (by decide) ⟨by decide, by decide⟩ ⟨Nat.le_refl _, Nat.le_refl _⟩ (Nat.le_of_ble_eq_true rfl) dc_CT_readUsage_6 (rfl : _ = 9) (fun r6 M6 p6 => ?_)
  obtain ⟨⟨i6, f6, e6⟩, z6⟩ := p6
  rw [b2, e2] at z6
  rw [e2] at e6
  have hu1 : rd_byte (M 3) (rd_open (M 3) 3 (rd_of M)) < 256 := by have h := rd_byte_lt i2; rw [b2, e2] at h; exact h
  obtain ⟨u, hu⟩ : ∃ u, rd_byte (M 3) (rd_open (M 3) 3 (rd_of M)) = u := ⟨_, rfl⟩
  rw [z6, hu]
  rw [hu] at hu1
  have b6 : M6 3 = M 3 := by rw [f6 3 (by decide) (by decide), b2]
  refine xv_istore_n hX [1, 2, 0] dc_CT_readUsage_9 (by decide) (L' := [(0, .ref (Y.2.2.2 c)), (1, .ref (Y.2.2.2 1)), (2, .int (nI u))]) rfl (rfl : _ = 10) ?_
  refine xv_iconst hX (v := nI 0) dc_CT_readUsage_10 (by decide) (rfl : _ = 11) ?_
  refine xv_istore_n hX [1, 2, 3, 0] dc_CT_readUsage_11 (by decide) (L' := [(0, .ref (Y.2.2.2 c)), (1, .ref (Y.2.2.2 1)), (2, .int (nI u)), (3, .int (nI 0))]) rfl (rfl : _ = 12) ?_
  refine xv_aload_n hX 1 dc_CT_readUsage_12 rfl (rfl : _ = 13) ?_
  refine xv_calli hX (As := []) (rest := []) (ct_RD_remaining _ Y M6 i6) ml_CT_121 li_RD_remaining rfl (by decide) rfl rfl rfl (by decide) ⟨by decide, by decide⟩ ⟨Nat.le_refl _, Nat.le_refl _⟩ (Nat.le_of_ble_eq_true rfl) dc_CT_readUsage_13 (rfl : _ = 16) (fun r13 M13 p13 => ?_)
  rw [p13.1, p13.2]
  have hn := rd_rem_le i6
  refine xv_if_le hX (nI_toInt (by omega)) (tgt := 43) (pq := 19) dc_CT_readUsage_16 (by decide) rfl (fun c16 => ?_) (fun c16 => ?_)
  · skip
    refine xv_iload_n hX 2 dc_CT_readUsage_43 rfl (rfl : _ = 44) ?_
    refine xv_if_eq hX (nI_toInt (by omega)) (tgt := 51) (pq := 47) dc_CT_readUsage_44 (by decide) rfl (fun c44 => ?_) (fun c44 => ?_)
    · skip
      refine xv_aload_n hX 0 dc_CT_readUsage_51 rfl (rfl : _ = 52) ?_
      refine xv_iload_n hX 3 dc_CT_readUsage_52 rfl (rfl : _ = 53) ?_
      refine xv_callsi hX (As := [.int (nI 0)]) (rest := [.ref (Y.2.2.2 c)]) (ct_CT_mirrored _ Y M6 0 (by omega)) ml_CT_173 ls_CT_mirrored rfl (by decide) ⟨by decide, by decide⟩ ⟨Nat.le_refl _, Nat.le_refl _⟩ (Nat.le_of_ble_eq_true rfl) dc_CT_readUsage_53 (rfl : _ = 56) (fun r53 M53 p53 => ?_)
      rw [p53.1, p53.2]
      have hbit : rs_ok (rd_run (ps_bit (M 3)) (rd_open (M 3) 3 (rd_of M))) (rd_of M6) (fun x => x = 0) := by
        refine rs_bit (fun i h => rd_of_nil (e2.trans h)) (fun h => ?_) (fun h => ?_)
        · exact ⟨rfl, by rw [hu, if_pos (by omega)]; exact e6⟩
        · exact absurd h (by rw [← e6]; omega)
      have hcU : ∀ q, q < 6 → (xm_set M6 c 13 (ps_mir 0 8)) q = M6 q := fun q hq => xm_oth (by omega)
      have fU := (f2.tr f6)
      refine xv_puti hX fl_CT_52 rfl hc.1 (xk_N (by omega)) dc_CT_readUsage_56 (rfl : _ = 59) ?_
      refine xv_aload_n hX 1 dc_CT_readUsage_59 rfl (rfl : _ = 60) ?_
      refine xv_callv hX (As := []) (rest := []) (ct_RD_close _ Y (xm_set M6 c 13 (ps_mir 0 8)) (i6.cg hcU)) ml_CT_125 li_RD_close rfl (by decide) rfl rfl rfl (by decide) ⟨by decide, by decide⟩ ⟨Nat.le_refl _, Nat.le_refl _⟩ (Nat.le_of_ble_eq_true rfl) dc_CT_readUsage_60 (rfl : _ = 63) (fun M60 p60 => ?_)
      obtain ⟨i60, f60, e60⟩ := p60
      refine xv_retv hX hR dc_CT_readUsage_63 ?_
      refine ⟨i60, fun q a1 a2 a3 => by rw [f60 q a1 a2, xm_oth a3, fU q a1 a2], fun k a1 => by rw [f60 c (by omega) (by omega), xm_nk a1, fU c (by omega) (by omega)], ?_⟩
      have h9 := rs_in hd hbit
      rw [e60, rd_of_cg hcU]
      refine h9.imp (fun z hz => ?_)
      rw [hz, f60 c (by omega) (by omega), xm_eq]
    · skip
      refine xv_aload_n hX 1 dc_CT_readUsage_47 rfl (rfl : _ = 48) ?_
      refine xv_callv hX (As := []) (rest := []) (ct_RD_refuse _ Y M6 i6) ml_CT_146 li_RD_refuse rfl (by decide) rfl rfl rfl (by decide) ⟨by decide, by decide⟩ ⟨Nat.le_refl _, Nat.le_refl _⟩ (Nat.le_of_ble_eq_true rfl) dc_CT_readUsage_48 (rfl : _ = 51) (fun M48 p48 => ?_)
      obtain ⟨i48, f48, e48⟩ := p48
      refine xv_aload_n hX 0 dc_CT_readUsage_51 rfl (rfl : _ = 52) ?_
      refine xv_iload_n hX 3 dc_CT_readUsage_52 rfl (rfl : _ = 53) ?_
      refine xv_callsi hX (As := [.int (nI 0)]) (rest := [.ref (Y.2.2.2 c)]) (ct_CT_mirrored _ Y M48 0 (by omega)) ml_CT_173 ls_CT_mirrored rfl (by decide) ⟨by decide, by decide⟩ ⟨Nat.le_refl _, Nat.le_refl _⟩ (Nat.le_of_ble_eq_true rfl) dc_CT_readUsage_53 (rfl : _ = 56) (fun r53 M53 p53 => ?_)
      rw [p53.1, p53.2]
      have hbit : rs_ok (rd_run (ps_bit (M 3)) (rd_open (M 3) 3 (rd_of M))) (rd_of M48) (fun x => x = 0) := by
        refine rs_bit (fun i h => rd_of_nil (e2.trans h)) (fun h => ?_) (fun h => ?_)
        · exact ⟨rfl, by rw [hu, if_neg (by omega)]; exact e48⟩
        · exact absurd h (by rw [← e6]; omega)
      have hcU : ∀ q, q < 6 → (xm_set M48 c 13 (ps_mir 0 8)) q = M48 q := fun q hq => xm_oth (by omega)
      have fU := ((f2.tr f6).tr f48)
      refine xv_puti hX fl_CT_52 rfl hc.1 (xk_N (by omega)) dc_CT_readUsage_56 (rfl : _ = 59) ?_
      refine xv_aload_n hX 1 dc_CT_readUsage_59 rfl (rfl : _ = 60) ?_
      refine xv_callv hX (As := []) (rest := []) (ct_RD_close _ Y (xm_set M48 c 13 (ps_mir 0 8)) (i48.cg hcU)) ml_CT_125 li_RD_close rfl (by decide) rfl rfl rfl (by decide) ⟨by decide, by decide⟩ ⟨Nat.le_refl _, Nat.le_refl _⟩ (Nat.le_of_ble_eq_true rfl) dc_CT_readUsage_60 (rfl : _ = 63) (fun M60 p60 => ?_)
      obtain ⟨i60, f60, e60⟩ := p60
      refine xv_retv hX hR dc_CT_readUsage_63 ?_
      refine ⟨i60, fun q a1 a2 a3 => by rw [f60 q a1 a2, xm_oth a3, fU q a1 a2], fun k a1 => by rw [f60 c (by omega) (by omega), xm_nk a1, fU c (by omega) (by omega)], ?_⟩
      have h9 := rs_in hd hbit
      rw [e60, rd_of_cg hcU]
      refine h9.imp (fun z hz => ?_)
      rw [hz, f60 c (by omega) (by omega), xm_eq]
  · skip
    refine xv_aload_n hX 1 dc_CT_readUsage_19 rfl (rfl : _ = 20) ?_
    refine xv_calli hX (As := []) (rest := []) (ct_RD_readByte _ Y M6 i6) ml_CT_167 li_RD_readByte rfl (by decide) rfl rfl rfl (by decide) ⟨by decide, by decide⟩ ⟨Nat.le_refl _, Nat.le_refl _⟩ (Nat.le_of_ble_eq_true rfl) dc_CT_readUsage_20 (rfl : _ = 23) (fun r20 M20 p20 => ?_)
    obtain ⟨⟨i20, f20, e20⟩, z20⟩ := p20
    rw [b6] at z20
    have hw1 : rd_byte (M 3) (rd_of M6) < 256 := by have h := rd_byte_lt i6; rw [b6] at h; exact h
    obtain ⟨w, hw⟩ : ∃ w, rd_byte (M 3) (rd_of M6) = w := ⟨_, rfl⟩
    rw [z20, hw]
    rw [hw] at hw1
    refine xv_istore_n hX [1, 2, 3, 0] dc_CT_readUsage_23 (by decide) (L' := [(0, .ref (Y.2.2.2 c)), (1, .ref (Y.2.2.2 1)), (2, .int (nI u)), (3, .int (nI w))]) rfl (rfl : _ = 24) ?_
    refine xv_iload_n hX 3 dc_CT_readUsage_24 rfl (rfl : _ = 25) ?_
    refine xv_if_eq hX (nI_toInt (by omega)) (tgt := 36) (pq := 28) dc_CT_readUsage_25 (by decide) rfl (fun c25 => ?_) (fun c25 => ?_)
    · skip
      refine xv_aload_n hX 1 dc_CT_readUsage_36 rfl (rfl : _ = 37) ?_
      refine xv_callv hX (As := []) (rest := []) (ct_RD_refuse _ Y M20 i20) ml_CT_146 li_RD_refuse rfl (by decide) rfl rfl rfl (by decide) ⟨by decide, by decide⟩ ⟨Nat.le_refl _, Nat.le_refl _⟩ (Nat.le_of_ble_eq_true rfl) dc_CT_readUsage_37 (rfl : _ = 40) (fun M37 p37 => ?_)
      obtain ⟨i37, f37, e37⟩ := p37
      refine xv_goto hX (pq := 51) dc_CT_readUsage_40 (by decide) ?_
      refine xv_aload_n hX 0 dc_CT_readUsage_51 rfl (rfl : _ = 52) ?_
      refine xv_iload_n hX 3 dc_CT_readUsage_52 rfl (rfl : _ = 53) ?_
      refine xv_callsi hX (As := [.int (nI w)]) (rest := [.ref (Y.2.2.2 c)]) (ct_CT_mirrored _ Y M37 w (by omega)) ml_CT_173 ls_CT_mirrored rfl (by decide) ⟨by decide, by decide⟩ ⟨Nat.le_refl _, Nat.le_refl _⟩ (Nat.le_of_ble_eq_true rfl) dc_CT_readUsage_53 (rfl : _ = 56) (fun r53 M53 p53 => ?_)
      rw [p53.1, p53.2]
      have hbit : rs_ok (rd_run (ps_bit (M 3)) (rd_open (M 3) 3 (rd_of M))) (rd_of M37) (fun x => x = w) := by
        refine rs_bit (fun i h => rd_of_nil (e2.trans h)) (fun h => ?_) (fun h => ?_)
        · exact absurd h (by rw [← e6]; omega)
        · exact ⟨by rw [← e6]; exact hw.symm, by rw [← e6, hw, hu, if_neg (by omega)]; exact e37⟩
      have hcU : ∀ q, q < 6 → (xm_set M37 c 13 (ps_mir w 8)) q = M37 q := fun q hq => xm_oth (by omega)
      have fU := (((f2.tr f6).tr f20).tr f37)
      refine xv_puti hX fl_CT_52 rfl hc.1 (xk_N (by omega)) dc_CT_readUsage_56 (rfl : _ = 59) ?_
      refine xv_aload_n hX 1 dc_CT_readUsage_59 rfl (rfl : _ = 60) ?_
      refine xv_callv hX (As := []) (rest := []) (ct_RD_close _ Y (xm_set M37 c 13 (ps_mir w 8)) (i37.cg hcU)) ml_CT_125 li_RD_close rfl (by decide) rfl rfl rfl (by decide) ⟨by decide, by decide⟩ ⟨Nat.le_refl _, Nat.le_refl _⟩ (Nat.le_of_ble_eq_true rfl) dc_CT_readUsage_60 (rfl : _ = 63) (fun M60 p60 => ?_)
      obtain ⟨i60, f60, e60⟩ := p60
      refine xv_retv hX hR dc_CT_readUsage_63 ?_
      refine ⟨i60, fun q a1 a2 a3 => by rw [f60 q a1 a2, xm_oth a3, fU q a1 a2], fun k a1 => by rw [f60 c (by omega) (by omega), xm_nk a1, fU c (by omega) (by omega)], ?_⟩
      have h9 := rs_in hd hbit
      rw [e60, rd_of_cg hcU]
      refine h9.imp (fun z hz => ?_)
      rw [hz, f60 c (by omega) (by omega), xm_eq]
    · skip
      refine xv_iload_n hX 2 dc_CT_readUsage_28 rfl (rfl : _ = 29) ?_
      refine xv_iload_n hX 3 dc_CT_readUsage_29 rfl (rfl : _ = 30) ?_
      refine xv_callsi hX (As := [.int (nI w)]) (rest := [.int (nI u)]) (ct_CT_zerosBehind _ Y M20 w hw1) ml_CT_170 ls_CT_zerosBehind rfl (by decide) ⟨by decide, by decide⟩ ⟨Nat.le_refl _, Nat.le_refl _⟩ (Nat.le_of_ble_eq_true rfl) dc_CT_readUsage_30 (rfl : _ = 33) (fun r30 M30 p30 => ?_)
      rw [p30.1, p30.2]
      have htz := ps_tz_lt w 8 0
      refine xv_icmp_eq hX (nI_toInt (by omega)) (nI_toInt (by omega)) (tgt := 51) (pq := 36) dc_CT_readUsage_33 (by decide) rfl (fun c33 => ?_) (fun c33 => ?_)
      · skip
        have e20 : rd_of M20 = rd_next (rd_of M6) := e20
        refine xv_aload_n hX 0 dc_CT_readUsage_51 rfl (rfl : _ = 52) ?_
        refine xv_iload_n hX 3 dc_CT_readUsage_52 rfl (rfl : _ = 53) ?_
        refine xv_callsi hX (As := [.int (nI w)]) (rest := [.ref (Y.2.2.2 c)]) (ct_CT_mirrored _ Y M20 w (by omega)) ml_CT_173 ls_CT_mirrored rfl (by decide) ⟨by decide, by decide⟩ ⟨Nat.le_refl _, Nat.le_refl _⟩ (Nat.le_of_ble_eq_true rfl) dc_CT_readUsage_53 (rfl : _ = 56) (fun r53 M53 p53 => ?_)
        rw [p53.1, p53.2]
        have hbit : rs_ok (rd_run (ps_bit (M 3)) (rd_open (M 3) 3 (rd_of M))) (rd_of M20) (fun x => x = w) := by
          refine rs_bit (fun i h => rd_of_nil (e2.trans h)) (fun h => ?_) (fun h => ?_)
          · exact absurd h (by rw [← e6]; omega)
          · exact ⟨by rw [← e6]; exact hw.symm, by rw [← e6, hw, hu, if_pos (by omega)]; exact e20⟩
        have hcU : ∀ q, q < 6 → (xm_set M20 c 13 (ps_mir w 8)) q = M20 q := fun q hq => xm_oth (by omega)
        have fU := ((f2.tr f6).tr f20)
        refine xv_puti hX fl_CT_52 rfl hc.1 (xk_N (by omega)) dc_CT_readUsage_56 (rfl : _ = 59) ?_
        refine xv_aload_n hX 1 dc_CT_readUsage_59 rfl (rfl : _ = 60) ?_
        refine xv_callv hX (As := []) (rest := []) (ct_RD_close _ Y (xm_set M20 c 13 (ps_mir w 8)) (i20.cg hcU)) ml_CT_125 li_RD_close rfl (by decide) rfl rfl rfl (by decide) ⟨by decide, by decide⟩ ⟨Nat.le_refl _, Nat.le_refl _⟩ (Nat.le_of_ble_eq_true rfl) dc_CT_readUsage_60 (rfl : _ = 63) (fun M60 p60 => ?_)
        obtain ⟨i60, f60, e60⟩ := p60
        refine xv_retv hX hR dc_CT_readUsage_63 ?_
        refine ⟨i60, fun q a1 a2 a3 => by rw [f60 q a1 a2, xm_oth a3, fU q a1 a2], fun k a1 => by rw [f60 c (by omega) (by omega), xm_nk a1, fU c (by omega) (by omega)], ?_⟩
        have h9 := rs_in hd hbit
        rw [e60, rd_of_cg hcU]
        refine h9.imp (fun z hz => ?_)
        rw [hz, f60 c (by omega) (by omega), xm_eq]
      · skip
        refine xv_aload_n hX 1 dc_CT_readUsage_36 rfl (rfl : _ = 37) ?_
        refine xv_callv hX (As := []) (rest := []) (ct_RD_refuse _ Y M20 i20) ml_CT_146 li_RD_refuse rfl (by decide) rfl rfl rfl (by decide) ⟨by decide, by decide⟩ ⟨Nat.le_refl _, Nat.le_refl _⟩ (Nat.le_of_ble_eq_true rfl) dc_CT_readUsage_37 (rfl : _ = 40) (fun M37 p37 => ?_)
        obtain ⟨i37, f37, e37⟩ := p37
        refine xv_goto hX (pq := 51) dc_CT_readUsage_40 (by decide) ?_
        refine xv_aload_n hX 0 dc_CT_readUsage_51 rfl (rfl : _ = 52) ?_
        refine xv_iload_n hX 3 dc_CT_readUsage_52 rfl (rfl : _ = 53) ?_
        refine xv_callsi hX (As := [.int (nI w)]) (rest := [.ref (Y.2.2.2 c)]) (ct_CT_mirrored _ Y M37 w (by omega)) ml_CT_173 ls_CT_mirrored rfl (by decide) ⟨by decide, by decide⟩ ⟨Nat.le_refl _, Nat.le_refl _⟩ (Nat.le_of_ble_eq_true rfl) dc_CT_readUsage_53 (rfl : _ = 56) (fun r53 M53 p53 => ?_)
        rw [p53.1, p53.2]
        have hbit : rs_ok (rd_run (ps_bit (M 3)) (rd_open (M 3) 3 (rd_of M))) (rd_of M37) (fun x => x = w) := by
          refine rs_bit (fun i h => rd_of_nil (e2.trans h)) (fun h => ?_) (fun h => ?_)
          · exact absurd h (by rw [← e6]; omega)
          · exact ⟨by rw [← e6]; exact hw.symm, by rw [← e6, hw, hu, if_neg (by omega)]; exact e37⟩
        have hcU : ∀ q, q < 6 → (xm_set M37 c 13 (ps_mir w 8)) q = M37 q := fun q hq => xm_oth (by omega)
        have fU := (((f2.tr f6).tr f20).tr f37)
        refine xv_puti hX fl_CT_52 rfl hc.1 (xk_N (by omega)) dc_CT_readUsage_56 (rfl : _ = 59) ?_
        refine xv_aload_n hX 1 dc_CT_readUsage_59 rfl (rfl : _ = 60) ?_
        refine xv_callv hX (As := []) (rest := []) (ct_RD_close _ Y (xm_set M37 c 13 (ps_mir w 8)) (i37.cg hcU)) ml_CT_125 li_RD_close rfl (by decide) rfl rfl rfl (by decide) ⟨by decide, by decide⟩ ⟨Nat.le_refl _, Nat.le_refl _⟩ (Nat.le_of_ble_eq_true rfl) dc_CT_readUsage_60 (rfl : _ = 63) (fun M60 p60 => ?_)
        obtain ⟨i60, f60, e60⟩ := p60
        refine xv_retv hX hR dc_CT_readUsage_63 ?_
        refine ⟨i60, fun q a1 a2 a3 => by rw [f60 q a1 a2, xm_oth a3, fU q a1 a2], fun k a1 => by rw [f60 c (by omega) (by omega), xm_nk a1, fU c (by omega) (by omega)], ?_⟩
        have h9 := rs_in hd hbit
        rw [e60, rd_of_cg hcU]
        refine h9.imp (fun z hz => ?_)
        rw [hz, f60 c (by omega) (by omega), xm_eq]

set_option maxRecDepth 100000 in
set_option maxHeartbeats 4000000 in
theorem ct_CT_readBounds (l : Launch) (Y : xw_Y) (M : xm_M) (c : Nat) (hc : xk_ct c) (hI : rd_I M) (hd : rd_D 4 (rd_of M)) : xc_v l qm_CT_readBounds 3 Y [.ref (Y.2.2.2 c), .ref (Y.2.2.2 1)] M (fun M1 => rd_I M1 ∧ (∀ q, q ≠ 1 → q ≠ 4 → (q < c + 14 ∨ c + 30 ≤ q) → M1 q = M q) ∧ M1 (c + 14) 1 ≤ 3 ∧ M1 (c + 22) 1 ≤ 3 ∧ rs_ok (rd_run (ps_bounds (M 3)) (rd_of M)) (rd_of M1) (fun z => nl_is M1 (c + 14) z.1 ∧ nl_is M1 (c + 22) z.2)) := by
  refine xc_v.mk rfl (by decide) (Nat.le_of_ble_eq_true rfl) ?_
  intro X hXl hX hR
  subst hXl
  have hX : xv_ok X Y prog_3_method_17_code "CertificatePath$Certificate" 2 (xc_rm 3) := hX
  show xv_V X Y 2 0 0 xw_lk xw_N M 0 [(0, .ref (Y.2.2.2 c)), (1, .ref (Y.2.2.2 1))] []
  have hc6 : 6 ≤ c := hc.2.2.2.2.2.2.1
  have hc29 : c + 29 < 276 := hc.2.2.2.2.2.2.2
  refine xv_aload_n hX 1 dc_CT_readBounds_0 rfl (rfl : _ = 1) ?_
  refine xv_bipush hX (v := nI 48) dc_CT_readBounds_1 (by decide) (rfl : _ = 3) ?_
  refine xv_callv hX (As := [.int (nI 48)]) (rest := []) (ct_RD_open _ Y M 48 hI (by decide)) ml_CT_102 li_RD_open rfl (by decide) rfl rfl rfl (by decide) ⟨by decide, by decide⟩ ⟨Nat.le_refl _, Nat.le_refl _⟩ (Nat.le_of_ble_eq_true rfl) dc_CT_readBounds_3 (rfl : _ = 6) (fun M3 p3 => ?_)
  obtain ⟨i3, f3, e3⟩ := p3
  have b3 : M3 3 = M 3 := f3 3 (by decide) (by decide)
  have hd3 : rd_D 3 (rd_of M3) := by rw [e3]; exact rd_D.opn hd
  refine xv_aload_n hX 0 dc_CT_readBounds_6 rfl (rfl : _ = 7) ?_
  refine xv_getr hX fl_CT_31 rfl hc.1 (xk_N (by omega)) hc.2.2.2.2.1.1 dc_CT_readBounds_7 (rfl : _ = 10) ?_
  refine xv_aload_n hX 1 dc_CT_readBounds_10 rfl (rfl : _ = 11) ?_
  refine xv_sipush hX (v := nI 160) dc_CT_readBounds_11 (by decide) (rfl : _ = 14) ?_
  refine xv_callv hX (As := [.ref (Y.2.2.2 1), .int (nI 160)]) (rest := []) (ct_NL_readIfThere _ Y M3 (c + 14) 160 hc.2.2.2.2.1.2 (by decide) i3 hd3) ml_CT_176 li_NL_readIfThere hc.2.2.2.2.1.2.1 (xk_N (by have := hc.2.2.2.2.1.2.2.2.2.2.2; omega)) rfl rfl rfl (by decide) ⟨by decide, by decide⟩ ⟨Nat.le_refl _, Nat.le_refl _⟩ (Nat.le_of_ble_eq_true rfl) dc_CT_readBounds_14 (rfl : _ = 17) (fun M14 p14 => ?_)
  obtain ⟨i14, f14, z14, h14⟩ := p14
  have h14 := rs_tr h14
  rw [b3] at h14
  have hd14 : rd_D 3 (rd_of M14) := rs_D h14 hd3
  have b14 : M14 3 = M 3 := by rw [f14 3 (by decide) (by decide) (by omega), b3]
  refine xv_aload_n hX 0 dc_CT_readBounds_17 rfl (rfl : _ = 18) ?_
  refine xv_getr hX fl_CT_35 rfl hc.1 (xk_N (by omega)) hc.2.2.2.2.2.1.1 dc_CT_readBounds_18 (rfl : _ = 21) ?_
  refine xv_aload_n hX 1 dc_CT_readBounds_21 rfl (rfl : _ = 22) ?_
  refine xv_sipush hX (v := nI 161) dc_CT_readBounds_22 (by decide) (rfl : _ = 25) ?_
  refine xv_callv hX (As := [.ref (Y.2.2.2 1), .int (nI 161)]) (rest := []) (ct_NL_readIfThere _ Y M14 (c + 22) 161 hc.2.2.2.2.2.1.2 (by decide) i14 hd14) ml_CT_176 li_NL_readIfThere hc.2.2.2.2.2.1.2.1 (xk_N (by have := hc.2.2.2.2.2.1.2.2.2.2.2.2; omega)) rfl rfl rfl (by decide) ⟨by decide, by decide⟩ ⟨Nat.le_refl _, Nat.le_refl _⟩ (Nat.le_of_ble_eq_true rfl) dc_CT_readBounds_25 (rfl : _ = 28) (fun M25 p25 => ?_)
  obtain ⟨i25, f25, z25, h25⟩ := p25
  have h25 := rs_tr h25
  rw [b14] at h25
  have z14b : M25 (c + 14) 1 ≤ 3 := by rw [f25 (c + 14) (by omega) (by omega) (by omega)]; exact z14
  refine xv_aload_n hX 0 dc_CT_readBounds_28 rfl (rfl : _ = 29) ?_
  refine xv_getr hX fl_CT_31 rfl hc.1 (xk_N (by omega)) hc.2.2.2.2.1.1 dc_CT_readBounds_29 (rfl : _ = 32) ?_
  refine xv_geti hX fl_CT_55 rfl hc.2.2.2.2.1.2.1 (xk_N (by have := hc.2.2.2.2.1.2.2.2.2.2.2; omega)) (v := M25 (c + 14) 1) rfl dc_CT_readBounds_32 (rfl : _ = 35) ?_
  refine xv_if_ne hX (nI_toInt (by omega)) (tgt := 52) (pq := 38) dc_CT_readBounds_35 (by decide) rfl (fun c35 => ?_) (fun c35 => ?_)
  · skip
    refine xv_aload_n hX 1 dc_CT_readBounds_52 rfl (rfl : _ = 53) ?_
    refine xv_callv hX (As := []) (rest := []) (ct_RD_close _ Y M25 i25) ml_CT_125 li_RD_close rfl (by decide) rfl rfl rfl (by decide) ⟨by decide, by decide⟩ ⟨Nat.le_refl _, Nat.le_refl _⟩ (Nat.le_of_ble_eq_true rfl) dc_CT_readBounds_53 (rfl : _ = 56) (fun M53 p53 => ?_)
    obtain ⟨i53, f53, e53⟩ := p53
    have f9 : rd_F M25 M53 := f53
    have hs9 : rd_of M25 = if M25 (c + 14) 1 = 0 ∧ M25 (c + 22) 1 = 0 then none else rd_of M25 := by rw [if_neg (by omega)]
    rw [hs9] at e53
    refine xv_retv hX hR dc_CT_readBounds_56 ?_
    refine ⟨i53, fun q a1 a2 a3 => by rw [f9 q a1 a2, f25 q a1 a2 (by omega), f14 q a1 a2 (by omega), f3 q a1 a2], by rw [f9 _ (by omega) (by omega)]; exact z14b, by rw [f9 _ (by omega) (by omega)]; exact z25, ?_⟩
    have h9 := rs_bnd (V := fun x => nl_is M25 (c + 14) x ∧ x.length ≤ 3) (W := fun x => nl_is M25 (c + 22) x ∧ x.length ≤ 3) (m := M25 (c + 14) 1) (n := M25 (c + 22) 1) (h14.imp (fun x hx => ⟨nl_is_cg (by have := hx.1; omega) (fun q a1 a2 => f25 q (by omega) (by omega) (by omega)) hx, by have := hx.1; omega⟩)) (h25.imp (fun x hx => ⟨hx, by have := hx.1; omega⟩)) (fun x hx => hx.1.1.symm) (fun x hx => hx.1.1.symm) rfl
    rw [e3] at h9
    have h9 := rs_in (hd.mono (by decide)) h9
    rw [e53]
    exact h9.imp (fun z hz => ⟨nl_is_cg hz.1.2 (fun q a1 a2 => f9 q (by omega) (by omega)) hz.1.1, nl_is_cg hz.2.2 (fun q a1 a2 => f9 q (by omega) (by omega)) hz.2.1⟩)
  · skip
    refine xv_aload_n hX 0 dc_CT_readBounds_38 rfl (rfl : _ = 39) ?_
    refine xv_getr hX fl_CT_35 rfl hc.1 (xk_N (by omega)) hc.2.2.2.2.2.1.1 dc_CT_readBounds_39 (rfl : _ = 42) ?_
    refine xv_geti hX fl_CT_55 rfl hc.2.2.2.2.2.1.2.1 (xk_N (by have := hc.2.2.2.2.2.1.2.2.2.2.2.2; omega)) (v := M25 (c + 22) 1) rfl dc_CT_readBounds_42 (rfl : _ = 45) ?_
    refine xv_if_ne hX (nI_toInt (by omega)) (tgt := 52) (pq := 48) dc_CT_readBounds_45 (by decide) rfl (fun c45 => ?_) (fun c45 => ?_)
    · skip
      refine xv_aload_n hX 1 dc_CT_readBounds_52 rfl (rfl : _ = 53) ?_
      refine xv_callv hX (As := []) (rest := []) (ct_RD_close _ Y M25 i25) ml_CT_125 li_RD_close rfl (by decide) rfl rfl rfl (by decide) ⟨by decide, by decide⟩ ⟨Nat.le_refl _, Nat.le_refl _⟩ (Nat.le_of_ble_eq_true rfl) dc_CT_readBounds_53 (rfl : _ = 56) (fun M53 p53 => ?_)
      obtain ⟨i53, f53, e53⟩ := p53
      have f9 : rd_F M25 M53 := f53
      have hs9 : rd_of M25 = if M25 (c + 14) 1 = 0 ∧ M25 (c + 22) 1 = 0 then none else rd_of M25 := by rw [if_neg (by omega)]
      rw [hs9] at e53
      refine xv_retv hX hR dc_CT_readBounds_56 ?_
      refine ⟨i53, fun q a1 a2 a3 => by rw [f9 q a1 a2, f25 q a1 a2 (by omega), f14 q a1 a2 (by omega), f3 q a1 a2], by rw [f9 _ (by omega) (by omega)]; exact z14b, by rw [f9 _ (by omega) (by omega)]; exact z25, ?_⟩
      have h9 := rs_bnd (V := fun x => nl_is M25 (c + 14) x ∧ x.length ≤ 3) (W := fun x => nl_is M25 (c + 22) x ∧ x.length ≤ 3) (m := M25 (c + 14) 1) (n := M25 (c + 22) 1) (h14.imp (fun x hx => ⟨nl_is_cg (by have := hx.1; omega) (fun q a1 a2 => f25 q (by omega) (by omega) (by omega)) hx, by have := hx.1; omega⟩)) (h25.imp (fun x hx => ⟨hx, by have := hx.1; omega⟩)) (fun x hx => hx.1.1.symm) (fun x hx => hx.1.1.symm) rfl
      rw [e3] at h9
      have h9 := rs_in (hd.mono (by decide)) h9
      rw [e53]
      exact h9.imp (fun z hz => ⟨nl_is_cg hz.1.2 (fun q a1 a2 => f9 q (by omega) (by omega)) hz.1.1, nl_is_cg hz.2.2 (fun q a1 a2 => f9 q (by omega) (by omega)) hz.2.1⟩)
    · skip
      refine xv_aload_n hX 1 dc_CT_readBounds_48 rfl (rfl : _ = 49) ?_
      refine xv_callv hX (As := []) (rest := []) (ct_RD_refuse _ Y M25 i25) ml_CT_146 li_RD_refuse rfl (by decide) rfl rfl rfl (by decide) ⟨by decide, by decide⟩ ⟨Nat.le_refl _, Nat.le_refl _⟩ (Nat.le_of_ble_eq_true rfl) dc_CT_readBounds_49 (rfl : _ = 52) (fun M49 p49 => ?_)
      obtain ⟨i49, f49, e49⟩ := p49
      refine xv_aload_n hX 1 dc_CT_readBounds_52 rfl (rfl : _ = 53) ?_
      refine xv_callv hX (As := []) (rest := []) (ct_RD_close _ Y M49 i49) ml_CT_125 li_RD_close rfl (by decide) rfl rfl rfl (by decide) ⟨by decide, by decide⟩ ⟨Nat.le_refl _, Nat.le_refl _⟩ (Nat.le_of_ble_eq_true rfl) dc_CT_readBounds_53 (rfl : _ = 56) (fun M53 p53 => ?_)
      obtain ⟨i53, f53, e53⟩ := p53
      have f9 : rd_F M25 M53 := f49.tr f53
      have hs9 : rd_of M49 = if M25 (c + 14) 1 = 0 ∧ M25 (c + 22) 1 = 0 then none else rd_of M25 := by rw [if_pos (by omega)]; exact e49
      rw [hs9] at e53
      refine xv_retv hX hR dc_CT_readBounds_56 ?_
      refine ⟨i53, fun q a1 a2 a3 => by rw [f9 q a1 a2, f25 q a1 a2 (by omega), f14 q a1 a2 (by omega), f3 q a1 a2], by rw [f9 _ (by omega) (by omega)]; exact z14b, by rw [f9 _ (by omega) (by omega)]; exact z25, ?_⟩
      have h9 := rs_bnd (V := fun x => nl_is M25 (c + 14) x ∧ x.length ≤ 3) (W := fun x => nl_is M25 (c + 22) x ∧ x.length ≤ 3) (m := M25 (c + 14) 1) (n := M25 (c + 22) 1) (h14.imp (fun x hx => ⟨nl_is_cg (by have := hx.1; omega) (fun q a1 a2 => f25 q (by omega) (by omega) (by omega)) hx, by have := hx.1; omega⟩)) (h25.imp (fun x hx => ⟨hx, by have := hx.1; omega⟩)) (fun x hx => hx.1.1.symm) (fun x hx => hx.1.1.symm) rfl
      rw [e3] at h9
      have h9 := rs_in (hd.mono (by decide)) h9
      rw [e53]
      exact h9.imp (fun z hz => ⟨nl_is_cg hz.1.2 (fun q a1 a2 => f9 q (by omega) (by omega)) hz.1.1, nl_is_cg hz.2.2 (fun q a1 a2 => f9 q (by omega) (by omega)) hz.2.1⟩)
