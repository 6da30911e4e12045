/-! Certificate: its head -/
set_option maxRecDepth 100000 in
set_option maxHeartbeats 4000000 in
theorem ct_CT_readHead (l : Launch) (Y : xw_Y) (M : xm_M) (c : Nat) (hc : xk_ct c) (hI : rd_I M) (hd : rd_D 2 (rd_of M)) : xc_v l qm_CT_readHead 2 Y [.ref (Y.2.2.2 c), .ref (Y.2.2.2 1)] M (fun M1 => rd_I M1 ∧ (∀ q, q ≠ 1 → q ≠ 4 → (q < c ∨ c + 5 ≤ q) → M1 q = M q) ∧ (∀ j, j ≠ 0 → j ≠ 2 → j ≠ 3 → j ≠ 5 → j ≠ 6 → M1 c j = M c j) ∧ rs_ok (rd_run (ps_head (M 3)) (rd_of M)) (rd_of M1) (ct_H M1 c)) := by
  refine xc_v.mk rfl (by decide) (Nat.le_of_ble_eq_true rfl) ?_
  intro X hXl hX hR
  subst hXl
  have hX : xv_ok X Y prog_3_method_12_code "CertificatePath$Certificate" 2 (xc_rm 2) := hX
  show xv_V X Y 2 0 0 xw_lk xw_N M 0 [(0, .ref (Y.2.2.2 c)), (1, .ref (Y.2.2.2 1))] []
  have hc6 : 6 ≤ c := hc.2.2.2.2.2.2.1
  have hc29 : c + 29 < 276 := hc.2.2.2.2.2.2.2
  have b0 : M 3 = M 3 := rfl
  refine xv_aload_n hX 0 dc_CT_readHead_0 rfl (rfl : _ = 1) ?_
  refine xv_aload_n hX 1 dc_CT_readHead_1 rfl (rfl : _ = 2) ?_
  refine xv_iconst hX (v := nI 0) dc_CT_readHead_2 (by decide) (rfl : _ = 3) ?_
  refine xv_ldc hX (v := nI 2147483647) kc_CT_132 dc_CT_readHead_3 (rfl : _ = 5) ?_
  refine xv_calli hX (As := [.int (nI 0), .int (nI 2147483647)]) (rest := [.ref (Y.2.2.2 c)]) (ct_RD_readInteger _ Y M 0 2147483647 hI (by decide) (by decide)) ml_CT_133 li_RD_readInteger rfl (by decide) rfl rfl rfl (by decide) ⟨by decide, by decide⟩ ⟨Nat.le_refl _, Nat.le_refl _⟩ (Nat.le_of_ble_eq_true rfl) dc_CT_readHead_5 (rfl : _ = 8) (fun r5 M5 p5 => ?_)
  obtain ⟨⟨i5, f5, e5⟩, w5, z5, hwa5, hwb5, hwc5⟩ := p5
  rw [z5]
  rw [b0] at e5 hwc5
  have h5 := rs_int (hd.mono (by decide)) e5 hwc5
  have hc5 : ∀ q, q < 6 → (xm_set M5 c 0 w5) q = M5 q := fun q hq => xm_oth (by omega)
  have j5 : rd_I (xm_set M5 c 0 w5) := i5.cg hc5
  have o5 : rd_of (xm_set M5 c 0 w5) = rd_of M5 := rd_of_cg hc5
  have b5 : (xm_set M5 c 0 w5) 3 = M 3 := by rw [hc5 3 (by decide), f5 3 (by decide) (by decide), b0]
  refine xv_puti hX fl_CT_58 rfl hc.1 (xk_N (by omega)) dc_CT_readHead_8 (rfl : _ = 11) ?_
  refine xv_aload_n hX 0 dc_CT_readHead_11 rfl (rfl : _ = 12) ?_
  refine xv_getr hX fl_CT_12 rfl hc.1 (xk_N (by omega)) hc.2.1.1 dc_CT_readHead_12 (rfl : _ = 15) ?_
  refine xv_aload_n hX 1 dc_CT_readHead_15 rfl (rfl : _ = 16) ?_
  refine xv_callv hX (As := [.ref (Y.2.2.2 1)]) (rest := []) (ct_NM_readFrom _ Y (xm_set M5 c 0 w5) (c + 1) hc.2.1.2 j5 (by rw [o5]; exact rs_D h5 hd)) ml_CT_140 li_NM_readFrom hc.2.1.2.1 (xk_N (Nat.lt_of_succ_lt hc.2.1.2.2.2.2.2)) rfl rfl rfl (by decide) ⟨by decide, by decide⟩ ⟨Nat.le_refl _, Nat.le_refl _⟩ (Nat.le_of_ble_eq_true rfl) dc_CT_readHead_16 (rfl : _ = 19) (fun M16 p16 => ?_)
  obtain ⟨i16, f16, -, h16⟩ := p16
  have h16 := rs_tr h16
  rw [b5] at h16
  have b16 : M16 3 = M 3 := by rw [f16 3 (by decide) (by decide) (by omega) (by omega), b5]
  have hd16 : rd_D 2 (rd_of M16) := rs_D h16 (by rw [o5]; exact rs_D h5 hd)
  rw [o5] at h16
  refine xv_aload_n hX 1 dc_CT_readHead_19 rfl (rfl : _ = 20) ?_
  refine xv_bipush hX (v := nI 48) dc_CT_readHead_20 (by decide) (rfl : _ = 22) ?_
  refine xv_callv hX (As := [.int (nI 48)]) (rest := []) (ct_RD_open _ Y M16 48 i16 (by decide)) ml_CT_102 li_RD_open rfl (by decide) rfl rfl rfl (by decide) ⟨by decide, by decide⟩ ⟨Nat.le_refl _, Nat.le_refl _⟩ (Nat.le_of_ble_eq_true rfl) dc_CT_readHead_22 (rfl : _ = 25) (fun M22 p22 => ?_)
  obtain ⟨i22, f22, e22⟩ := p22
  rw [b16] at e22
  have b22 : M22 3 = M 3 := by rw [f22 3 (by decide) (by decide), b16]
  have hd22 : rd_D 1 (rd_of M22) := by rw [e22]; exact rd_D.opn hd16
  refine xv_aload_n hX 0 dc_CT_readHead_25 rfl (rfl : _ = 26) ?_
  refine xv_aload_n hX 1 dc_CT_readHead_26 rfl (rfl : _ = 27) ?_
  refine xv_iconst hX (v := nI 0) dc_CT_readHead_27 (by decide) (rfl : _ = 28) ?_
  refine xv_ldc hX (v := nI 2147483647) kc_CT_132 dc_CT_readHead_28 (rfl : _ = 30) ?_
  refine xv_calli hX (As := [.int (nI 0), .int (nI 2147483647)]) (rest := [.ref (Y.2.2.2 c)]) (ct_RD_readInteger _ Y M22 0 2147483647 i22 (by decide) (by decide)) ml_CT_133 li_RD_readInteger rfl (by decide) rfl rfl rfl (by decide) ⟨by decide, by decide⟩ ⟨Nat.le_refl _, Nat.le_refl _⟩ (Nat.le_of_ble_eq_true rfl) dc_CT_readHead_30 (rfl : _ = 33) (fun r30 M30 p30 => ?_)
  obtain ⟨⟨i30, f30, e30⟩, w30, z30, hwa30, hwb30, hwc30⟩ := p30
  rw [z30]
  rw [b22] at e30 hwc30
  have h30 := rs_int hd22 e30 hwc30
  have hc30 : ∀ q, q < 6 → (xm_set M30 c 2 w30) q = M30 q := fun q hq => xm_oth (by omega)
  have j30 : rd_I (xm_set M30 c 2 w30) := i30.cg hc30
  have o30 : rd_of (xm_set M30 c 2 w30) = rd_of M30 := rd_of_cg hc30
  have b30 : (xm_set M30 c 2 w30) 3 = M 3 := by rw [hc30 3 (by decide), f30 3 (by decide) (by decide), b22]
  refine xv_puti hX fl_CT_61 rfl hc.1 (xk_N (by omega)) dc_CT_readHead_33 (rfl : _ = 36) ?_
  refine xv_aload_n hX 0 dc_CT_readHead_36 rfl (rfl : _ = 37) ?_
  refine xv_aload_n hX 1 dc_CT_readHead_37 rfl (rfl : _ = 38) ?_
  refine xv_iconst hX (v := nI 0) dc_CT_readHead_38 (by decide) (rfl : _ = 39) ?_
  refine xv_ldc hX (v := nI 2147483647) kc_CT_132 dc_CT_readHead_39 (rfl : _ = 41) ?_
  refine xv_calli hX (As := [.int (nI 0), .int (nI 2147483647)]) (rest := [.ref (Y.2.2.2 c)]) (ct_RD_readInteger _ Y (xm_set M30 c 2 w30) 0 2147483647 j30 (by decide) (by decide)) ml_CT_133 li_RD_readInteger rfl (by decide) rfl rfl rfl (by decide) ⟨by decide, by decide⟩ ⟨Nat.le_refl _, Nat.le_refl _⟩ (Nat.le_of_ble_eq_true rfl) dc_CT_readHead_41 (rfl : _ = 44) (fun r41 M41 p41 => ?_)
  obtain ⟨⟨i41, f41, e41⟩, w41, z41, hwa41, hwb41, hwc41⟩ := p41
  rw [z41]
  rw [o30, b30] at e41 hwc41
  have h41 := rs_int (rs_D h30 hd22) e41 hwc41
  have hc41 : ∀ q, q < 6 → (xm_set M41 c 3 w41) q = M41 q := fun q hq => xm_oth (by omega)
  have j41 : rd_I (xm_set M41 c 3 w41) := i41.cg hc41
  have o41 : rd_of (xm_set M41 c 3 w41) = rd_of M41 := rd_of_cg hc41
  have b41 : (xm_set M41 c 3 w41) 3 = M 3 := by rw [hc41 3 (by decide), f41 3 (by decide) (by decide), b30]
  refine xv_puti hX fl_CT_64 rfl hc.1 (xk_N (by omega)) dc_CT_readHead_44 (rfl : _ = 47) ?_
  refine xv_aload_n hX 1 dc_CT_readHead_47 rfl (rfl : _ = 48) ?_
  refine xv_callv hX (As := []) (rest := []) (ct_RD_close _ Y (xm_set M41 c 3 w41) j41) ml_CT_125 li_RD_close rfl (by decide) rfl rfl rfl (by decide) ⟨by decide, by decide⟩ ⟨Nat.le_refl _, Nat.le_refl _⟩ (Nat.le_of_ble_eq_true rfl) dc_CT_readHead_48 (rfl : _ = 51) (fun M48 p48 => ?_)
  obtain ⟨i48, f48, e48⟩ := p48
  rw [o41] at e48
  rw [e22] at h30
  have h48 := rs_in (hd16.mono (by decide)) (rs_and h30 h41)
  rw [← e48] at h48
  have b48 : M48 3 = M 3 := by rw [f48 3 (by decide) (by decide), b41]
  have hd48 : rd_D 2 (rd_of M48) := rs_D h48 hd16
  refine xv_aload_n hX 0 dc_CT_readHead_51 rfl (rfl : _ = 52) ?_
  refine xv_getr hX fl_CT_18 rfl hc.1 (xk_N (by omega)) hc.2.2.1.1 dc_CT_readHead_52 (rfl : _ = 55) ?_
  refine xv_aload_n hX 1 dc_CT_readHead_55 rfl (rfl : _ = 56) ?_
  refine xv_callv hX (As := [.ref (Y.2.2.2 1)]) (rest := []) (ct_NM_readFrom _ Y M48 (c + 3) hc.2.2.1.2 i48 hd48) ml_CT_140 li_NM_readFrom hc.2.2.1.2.1 (xk_N (Nat.lt_of_succ_lt hc.2.2.1.2.2.2.2.2)) rfl rfl rfl (by decide) ⟨by decide, by decide⟩ ⟨Nat.le_refl _, Nat.le_refl _⟩ (Nat.le_of_ble_eq_true rfl) dc_CT_readHead_56 (rfl : _ = 59) (fun M56 p56 => ?_)
  obtain ⟨i56, f56, -, h56⟩ := p56
  have h56 := rs_tr h56
  rw [b48] at h56
  have b56 : M56 3 = M 3 := by rw [f56 3 (by decide) (by decide) (by omega) (by omega), b48]
  have hd56 : rd_D 2 (rd_of M56) := rs_D h56 hd48
  refine xv_aload_n hX 1 dc_CT_readHead_59 rfl (rfl : _ = 60) ?_
  refine xv_bipush hX (v := nI 48) dc_CT_readHead_60 (by decide) (rfl : _ = 62) ?_
  refine xv_callv hX (As := [.int (nI 48)]) (rest := []) (ct_RD_open _ Y M56 48 i56 (by decide)) ml_CT_102 li_RD_open rfl (by decide) rfl rfl rfl (by decide) ⟨by decide, by decide⟩ ⟨Nat.le_refl _, Nat.le_refl _⟩ (Nat.le_of_ble_eq_true rfl) dc_CT_readHead_62 (rfl : _ = 65) (fun M62 p62 => ?_)
  obtain ⟨i62, f62, e62⟩ := p62
  rw [b56] at e62
  have b62 : M62 3 = M 3 := by rw [f62 3 (by decide) (by decide), b56]
  have hd62 : rd_D 1 (rd_of M62) := by rw [e62]; exact rd_D.opn hd56
  refine xv_aload_n hX 0 dc_CT_readHead_65 rfl (rfl : _ = 66) ?_
  refine xv_aload_n hX 1 dc_CT_readHead_66 rfl (rfl : _ = 67) ?_
  refine xv_iconst hX (v := nI 2) dc_CT_readHead_67 (by decide) (rfl : _ = 68) ?_
  refine xv_ldc hX (v := nI 2147483647) kc_CT_132 dc_CT_readHead_68 (rfl : _ = 70) ?_
  refine xv_calli hX (As := [.int (nI 2), .int (nI 2147483647)]) (rest := [.ref (Y.2.2.2 c)]) (ct_RD_readInteger _ Y M62 2 2147483647 i62 (by decide) (by decide)) ml_CT_133 li_RD_readInteger rfl (by decide) rfl rfl rfl (by decide) ⟨by decide, by decide⟩ ⟨Nat.le_refl _, Nat.le_refl _⟩ (Nat.le_of_ble_eq_true rfl) dc_CT_readHead_70 (rfl : _ = 73) (fun r70 M70 p70 => ?_)
  obtain ⟨⟨i70, f70, e70⟩, w70, z70, hwa70, hwb70, hwc70⟩ := p70
  rw [z70]
  rw [b62] at e70 hwc70
  have h70 := rs_int hd62 e70 hwc70
  have hc70 : ∀ q, q < 6 → (xm_set M70 c 5 w70) q = M70 q := fun q hq => xm_oth (by omega)
  have j70 : rd_I (xm_set M70 c 5 w70) := i70.cg hc70
  have o70 : rd_of (xm_set M70 c 5 w70) = rd_of M70 := rd_of_cg hc70
  have b70 : (xm_set M70 c 5 w70) 3 = M 3 := by rw [hc70 3 (by decide), f70 3 (by decide) (by decide), b62]
  refine xv_puti hX fl_CT_67 rfl hc.1 (xk_N (by omega)) dc_CT_readHead_73 (rfl : _ = 76) ?_
  refine xv_aload_n hX 0 dc_CT_readHead_76 rfl (rfl : _ = 77) ?_
  refine xv_aload_n hX 1 dc_CT_readHead_77 rfl (rfl : _ = 78) ?_
  refine xv_iconst hX (v := nI 1) dc_CT_readHead_78 (by decide) (rfl : _ = 79) ?_
  refine xv_sipush hX (v := nI 1000) dc_CT_readHead_79 (by decide) (rfl : _ = 82) ?_
  refine xv_calli hX (As := [.int (nI 1), .int (nI 1000)]) (rest := [.ref (Y.2.2.2 c)]) (ct_RD_readInteger _ Y (xm_set M70 c 5 w70) 1 1000 j70 (by decide) (by decide)) ml_CT_133 li_RD_readInteger rfl (by decide) rfl rfl rfl (by decide) ⟨by decide, by decide⟩ ⟨Nat.le_refl _, Nat.le_refl _⟩ (Nat.le_of_ble_eq_true rfl) dc_CT_readHead_82 (rfl : _ = 85) (fun r82 M82 p82 => ?_)
  obtain ⟨⟨i82, f82, e82⟩, w82, z82, hwa82, hwb82, hwc82⟩ := p82
  rw [z82]
  rw [o70, b70] at e82 hwc82
  have h82 := rs_int (rs_D h70 hd62) e82 hwc82
  have hc82 : ∀ q, q < 6 → (xm_set M82 c 6 w82) q = M82 q := fun q hq => xm_oth (by omega)
  have j82 : rd_I (xm_set M82 c 6 w82) := i82.cg hc82
  have o82 : rd_of (xm_set M82 c 6 w82) = rd_of M82 := rd_of_cg hc82
  have b82 : (xm_set M82 c 6 w82) 3 = M 3 := by rw [hc82 3 (by decide), f82 3 (by decide) (by decide), b70]
  refine xv_puti hX fl_CT_70 rfl hc.1 (xk_N (by omega)) dc_CT_readHead_85 (rfl : _ = 88) ?_
  refine xv_aload_n hX 1 dc_CT_readHead_88 rfl (rfl : _ = 89) ?_
  refine xv_callv hX (As := []) (rest := []) (ct_RD_close _ Y (xm_set M82 c 6 w82) j82) ml_CT_125 li_RD_close rfl (by decide) rfl rfl rfl (by decide) ⟨by decide, by decide⟩ ⟨Nat.le_refl _, Nat.le_refl _⟩ (Nat.le_of_ble_eq_true rfl) dc_CT_readHead_89 (rfl : _ = 92) (fun M89 p89 => ?_)
  obtain ⟨i89, f89, e89⟩ := p89
  rw [o82] at e89
  rw [e62] at h70
  have h89 := rs_in (hd56.mono (by decide)) (rs_and h70 h82)
  rw [← e89] at h89
  refine xv_retv hX hR dc_CT_readHead_92 ?_
  have hh := rs_and h5 (rs_and h16 (rs_and h48 (rs_and h56 h89)))
  have g89 : ∀ j, j ≠ 6 → M89 c j = M82 c j := fun j a => by rw [f89 c (by omega) (by omega), xm_nk a]
  have g70 : ∀ j, j ≠ 5 → M82 c j = M70 c j := fun j a => by rw [f82 c (by omega) (by omega), xm_nk a]
  have g56 : ∀ j, M70 c j = M48 c j := fun j => by rw [f70 c (by omega) (by omega), f62 c (by omega) (by omega), f56 c (by omega) (by omega) (by omega) (by omega)]
  have g48 : ∀ j, j ≠ 3 → M48 c j = M41 c j := fun j a => by rw [f48 c (by omega) (by omega), xm_nk a]
  have g41 : ∀ j, j ≠ 2 → M41 c j = M30 c j := fun j a => by rw [f41 c (by omega) (by omega), xm_nk a]
  have g16 : ∀ j, M30 c j = xm_set M5 c 0 w5 c j := fun j => by rw [f30 c (by omega) (by omega), f22 c (by omega) (by omega), f16 c (by omega) (by omega) (by omega) (by omega)]
  have t89 : ∀ q, q ≠ 1 → q ≠ 4 → q ≠ c → M89 q = M56 q := fun q a1 a2 a3 => by rw [f89 q a1 a2, xm_oth a3, f82 q a1 a2, xm_oth a3, f70 q a1 a2, f62 q a1 a2]
  have t48 : ∀ q, q ≠ 1 → q ≠ 4 → q ≠ c → M48 q = M16 q := fun q a1 a2 a3 => by rw [f48 q a1 a2, xm_oth a3, f41 q a1 a2, xm_oth a3, f30 q a1 a2, f22 q a1 a2]
  refine ⟨i89, fun q a1 a2 a3 => ?_, fun j a1 a2 a3 a4 a5 => ?_, hh.imp (fun z hz => ?_)⟩
  · rw [t89 q a1 a2 (by omega), f56 q a1 a2 (by omega) (by omega), t48 q a1 a2 (by omega), f16 q a1 a2 (by omega) (by omega), xm_oth (by omega), f5 q a1 a2]
  · rw [g89 j a5, g70 j a4, g56, g48 j a3, g41 j a2, g16, xm_nk a1, f5 c (by omega) (by omega)]
  · obtain ⟨z1, z2, ⟨z3, z4⟩, z5, z6, z7⟩ := hz
    refine ⟨?_, ?_, ⟨?_, ?_⟩, ?_, ?_, ?_⟩
    · rw [z1, g89 0 (by decide), g70 0 (by decide), g56, g48 0 (by decide), g41 0 (by decide), g16, xm_eq]
    · exact nm_is_cg (by rw [t89 _ (by omega) (by omega) (by omega), f56 _ (by omega) (by omega) (by omega) (by omega), t48 _ (by omega) (by omega) (by omega)]) (by rw [t89 _ (by omega) (by omega) (by omega), f56 _ (by omega) (by omega) (by omega) (by omega), t48 _ (by omega) (by omega) (by omega)]) z2
    · rw [z3, g89 2 (by decide), g70 2 (by decide), g56, g48 2 (by decide), f41 c (by omega) (by omega), xm_eq]
    · rw [z4, g89 3 (by decide), g70 3 (by decide), g56, f48 c (by omega) (by omega), xm_eq]
    · exact nm_is_cg (by rw [t89 _ (by omega) (by omega) (by omega)]) (by rw [t89 _ (by omega) (by omega) (by omega)]) z5
    · rw [z6, g89 5 (by decide), f82 c (by omega) (by omega), xm_eq]
    · rw [z7, f89 c (by omega) (by omega), xm_eq]
