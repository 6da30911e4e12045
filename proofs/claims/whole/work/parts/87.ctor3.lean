/-! constructors: Reader, Certificate -/
set_option maxRecDepth 100000 in
set_option maxHeartbeats 4000000 in
theorem cn_RD (l : Launch) (Y : xw_Y) (ad : Nat → Nat) (lk : xl_L) (M : xm_M)  (hcl : xn_cl lk 1) (hlb : lk 1 = fun _ => none) (hMb : M 1 = fun _ => 0) : xn_c l qm_RD_init 2 3 173 Y ad lk (xn_fl lk 1) 1 (5) M (xn_fm M 1) := by
  refine xn_c.mk rfl (by decide) rfl (by decide) ?_
  intro X hXl hX hin hA hO hR
  subst hXl
  have hX0 : xv_ok X (xn_Y Y ad) prog_7_method_1_code "CertificatePath$Reader" 1 (xn_rm 2 3 173) := hX
  have k0 : xw_K 1 = (0, 1, 5) := rfl
  have k4 : xw_K 4 = (1, 0, 11) := rfl
  have hs2 : xs_p 2 2 2 0 (1, 0, 160) := ⟨rfl, rfl, (xn_lk_ob (ci := 2) (n := 2) rfl).trans (funext fun k => by rcases k with _ | k <;> rfl), xn_lk_i (t := 0) (n := 160) rfl⟩
  show xv_V X (xn_Y Y ad) 1 0 0 lk (1 + 1) M 0 [(0, .ref (ad 1))] []
  refine xn_sw (lk' := xn_g lk 1 (fun _ => none) 1 0) (M' := xn_m (xn_fm M 1) 1) (fun z hz => ⟨xn_g_0 hz hlb, xn_mc_0 hz hMb⟩) ?_
  have hc0 : xn_cl (xn_g lk 1 (fun _ => none) 1 0) (2) := xn_g_cl hcl (by omega) (by omega) (fun _ _ z => by cases z) (fun k t hk => absurd hk (Nat.not_lt_zero _)) (fun z z1 z2 => absurd z1 (by omega))
  refine xv_aload_n hX0 0 dc_RD_init_0 rfl (rfl : _ = 1) ?_
  refine xn_obj hX0 wn_ob_RD ⟨by decide, by decide⟩ (Nat.le_of_ble_eq_true rfl) dc_RD_init_1 (rfl : _ = 4) wn_oi wn_oc ?_
  refine xv_aload_n hX0 0 dc_RD_init_4 rfl (rfl : _ = 5) ?_
  refine xn_new hX0 hA (N := 2) hs2.1 (C := "CertificatePath$ByteRow") (T := tk_BR) (tf := ty_BR) rfl wi_BR to_BR wn_dv_BR wn_cl_RD_9 wn_in_BR wn_it_BR hc0 ⟨by show _ ≤ 3; omega, by show _ ≤ 173; omega⟩ dc_RD_init_5 (rfl : _ = 8) (fun ad1 h1 => ?_)
  first
  | rw [← h1 1 (by omega)]
  | rw [show (xn_Y Y ad).2.2.2 1 = ad1 1 from (h1 1 (by omega)).symm]
  have hX1 : xv_ok X (xn_Y Y ad1) prog_7_method_1_code "CertificatePath$Reader" 1 (xn_rm 2 3 173) := hX
  refine xv_dup hX1 dc_RD_init_8 rfl (rfl : _ = 9) ?_
  refine xn_call hX1 hA hO (cn_BR _ Y ad1 _ _ 2 hs2 (xn_cl_l0 hc0) xn_l_eq xn_m_eq) ml_RD_11 rfl rfl wn_im_BR (by decide) ⟨by decide, by decide⟩ ⟨by show _ ≤ 3; omega, by show _ ≤ 173; omega⟩ (Nat.le_of_ble_eq_true rfl) dc_RD_init_9 (rfl : _ = 12) (fun ad2 h2 => ?_)
  first
  | rw [← h2 1 (by omega)]
  | rw [show (xn_Y Y ad1).2.2.2 1 = ad2 1 from (h2 1 (by omega)).symm]
  first
  | rw [← h2 2 (by omega)]
  | rw [show (xn_Y Y ad1).2.2.2 2 = ad2 2 from (h2 2 (by omega)).symm]
  have hX2 : xv_ok X (xn_Y Y ad2) prog_7_method_1_code "CertificatePath$Reader" 1 (xn_rm 2 3 173) := hX
  refine xn_putr hX2 hin (q := 1) (ci := 1) (n := 5) (k := 0) (v := 2) (T := tk_RD) (tf := ty_RD) (ty := ty_RD 0) rfl (by decide) wi_RD to_RD tn_RD (xw_in 41 (by decide +kernel) rfl) rfl rfl (to_RD 0 (by decide)) rfl k0 (by omega) (fun _ => rfl) (fun _ => rfl) dc_RD_init_12 (rfl : _ = 15) ?_
  refine xn_sw (lk' := xn_g lk 1 (fun i => if i = 0 then some (2) else (fun _ => none) i) 1 0) (M' := xn_m (xn_fm M 1) 1) (fun z hz => ⟨xn_g_cp (by omega) (by omega), (xn_mc_call (by omega)).symm⟩) ?_
  have hc1 : xn_cl (xn_g lk 1 (fun i => if i = 0 then some (2) else (fun _ => none) i) 1 0) (4) := xn_g_cl hcl (by omega) (by omega) (xn_rw (fun _ _ z => by cases z) (by omega)) (fun k t hk => absurd hk (Nat.not_lt_zero _)) (fun z z1 z2 z3 k t ht => hs2.in z (by omega) (by omega) k t ht)
  refine xv_aload_n hX2 0 dc_RD_init_15 rfl (rfl : _ = 16) ?_
  refine xv_bipush hX2 (v := nI 11) dc_RD_init_16 (by decide) (rfl : _ = 18) ?_
  refine xn_newi hX2 hA (N := 4) k4 (by decide) wn_ai hc1 ⟨by show _ ≤ 3; omega, by show _ ≤ 173; omega⟩ dc_RD_init_18 (rfl : _ = 20) (fun ad3 h3 => ?_)
  first
  | rw [← h3 1 (by omega)]
  | rw [show (xn_Y Y ad2).2.2.2 1 = ad3 1 from (h3 1 (by omega)).symm]
  have hX3 : xv_ok X (xn_Y Y ad3) prog_7_method_1_code "CertificatePath$Reader" 1 (xn_rm 2 3 173) := hX
  refine xn_putr hX3 hin (q := 1) (ci := 1) (n := 5) (k := 1) (v := 4) (T := tk_RD) (tf := ty_RD) (ty := ty_RD 1) rfl (by decide) wi_RD to_RD tn_RD (xw_in 43 (by decide +kernel) rfl) rfl rfl (to_RD 1 (by decide)) rfl k0 (by omega) (fun _ => rfl) (fun _ => rfl) dc_RD_init_20 (rfl : _ = 23) ?_
  refine xn_sw (lk' := xn_g lk 1 (fun i => if i = 1 then some (4) else (fun i => if i = 0 then some (2) else (fun _ => none) i) i) 1 0) (M' := xn_m (xn_fm M 1) 1) (fun z hz => ⟨xn_g_ni (by omega) hz (xn_lk_i k4), xn_mc_na (by omega) hz (by rw [k4]; decide)⟩) ?_
  refine xv_aload_n hX3 0 dc_RD_init_23 rfl (rfl : _ = 24) ?_
  refine xv_iconst hX3 (v := nI 0) dc_RD_init_24 (by decide) (rfl : _ = 25) ?_
  refine xv_puti hX3 fl_RD_22 rfl k0 (by omega) dc_RD_init_25 (rfl : _ = 28) ?_
  refine xv_aload_n hX3 0 dc_RD_init_28 rfl (rfl : _ = 29) ?_
  refine xv_iconst hX3 (v := nI 0) dc_RD_init_29 (by decide) (rfl : _ = 30) ?_
  refine xv_puti hX3 fl_RD_26 rfl k0 (by omega) dc_RD_init_30 (rfl : _ = 33) ?_
  refine xv_aload_n hX3 0 dc_RD_init_33 rfl (rfl : _ = 34) ?_
  refine xv_iconst hX3 (v := nI 0) dc_RD_init_34 (by decide) (rfl : _ = 35) ?_
  refine xv_putz hX3 fl_RD_29 rfl k0 (by omega) (by decide) dc_RD_init_35 (rfl : _ = 38) ?_
  refine xn_ret hX3 hR dc_RD_init_38 (fun z hz => ((h3 z (by omega)).trans ((h2 z (by omega)).trans (h1 z (by omega))))) (by omega) (by omega) (fun z hz => ?_)
  refine ⟨xn_g_fin ?_, ?_⟩
  · rw [xn_lk_ob k0]
    funext k
    rcases k with _ | _ | k <;> rfl
  · refine (xn_mc_f (by rw [k0]; decide)).trans ?_
    by_cases e : z = 1
    · subst e
      rw [xn_m_eq]
      funext i
      simp only [xm_set, xn_m_eq]
      (repeat' split) <;> first | rfl | omega
    · rw [xm_oth e, xm_oth e, xm_oth e]

set_option maxRecDepth 100000 in
set_option maxHeartbeats 4000000 in
theorem cg_forget (l : Launch) (Y : xw_Y) (c : Nat) (lk : xl_L) (N : Nat) (M : xm_M) (k0 : xw_K c = (0, 6, 16)) (hN : c + 22 < N) (h14 : lk c 14 = some (c + 14)) (k14 : xw_K (c + 14) = (0, 4, 2)) (h15 : lk c 15 = some (c + 22)) (k22 : xw_K (c + 22) = (0, 4, 2)) : xg_v l qm_CT_forgetExtensions 0 Y lk N [.ref (Y.2.2.2 c)] M (fun M1 => M1 = xm_set (xm_set (xm_set (xm_set (xm_set (xm_set M c 10 0) c 11 0) c 12 4294967295) c 13 4294967295) (c + 14) 1 0) (c + 22) 1 0) := by
  refine xg_v.mk rfl (by decide) (Nat.le_of_ble_eq_true rfl) ?_
  intro X hXl hX hR
  subst hXl
  have hX : xv_ok X Y prog_3_method_2_code "CertificatePath$Certificate" 1 (xc_rm 0) := hX
  show xv_V X Y 1 0 0 lk N M 0 [(0, .ref (Y.2.2.2 c))] []
  refine xv_aload_n hX 0 dc_CT_forgetExtensions_0 rfl (rfl : _ = 1) ?_
  refine xv_iconst hX (v := nI 0) dc_CT_forgetExtensions_1 (by decide) (rfl : _ = 2) ?_
  refine xv_puti hX fl_CT_41 rfl k0 (by omega) dc_CT_forgetExtensions_2 (rfl : _ = 5) ?_
  refine xv_aload_n hX 0 dc_CT_forgetExtensions_5 rfl (rfl : _ = 6) ?_
  refine xv_iconst hX (v := nI 0) dc_CT_forgetExtensions_6 (by decide) (rfl : _ = 7) ?_
  refine xv_putz hX fl_CT_45 rfl k0 (by omega) (by decide) dc_CT_forgetExtensions_7 (rfl : _ = 10) ?_
  refine xv_aload_n hX 0 dc_CT_forgetExtensions_10 rfl (rfl : _ = 11) ?_
  refine xv_iconst hX (v := nI 4294967295) dc_CT_forgetExtensions_11 (by decide) (rfl : _ = 12) ?_
  refine xv_puti hX fl_CT_49 rfl k0 (by omega) dc_CT_forgetExtensions_12 (rfl : _ = 15) ?_
  refine xv_aload_n hX 0 dc_CT_forgetExtensions_15 rfl (rfl : _ = 16) ?_
  refine xv_iconst hX (v := nI 4294967295) dc_CT_forgetExtensions_16 (by decide) (rfl : _ = 17) ?_
  refine xv_puti hX fl_CT_52 rfl k0 (by omega) dc_CT_forgetExtensions_17 (rfl : _ = 20) ?_
  refine xv_aload_n hX 0 dc_CT_forgetExtensions_20 rfl (rfl : _ = 21) ?_
  refine xv_getr hX fl_CT_31 rfl k0 (by omega) (v := c + 14) h14 dc_CT_forgetExtensions_21 (rfl : _ = 24) ?_
  refine xv_iconst hX (v := nI 0) dc_CT_forgetExtensions_24 (by decide) (rfl : _ = 25) ?_
  refine xv_puti hX fl_CT_55 rfl k14 (by omega) dc_CT_forgetExtensions_25 (rfl : _ = 28) ?_
  refine xv_aload_n hX 0 dc_CT_forgetExtensions_28 rfl (rfl : _ = 29) ?_
  refine xv_getr hX fl_CT_35 rfl k0 (by omega) (v := c + 22) h15 dc_CT_forgetExtensions_29 (rfl : _ = 32) ?_
  refine xv_iconst hX (v := nI 0) dc_CT_forgetExtensions_32 (by decide) (rfl : _ = 33) ?_
  refine xv_puti hX fl_CT_55 rfl k22 (by omega) dc_CT_forgetExtensions_33 (rfl : _ = 36) ?_
  exact xg_ret hX hR dc_CT_forgetExtensions_36 rfl

set_option maxRecDepth 100000 in
set_option maxHeartbeats 4000000 in
theorem cn_CT (l : Launch) (Y : xw_Y) (ad : Nat → Nat) (lk : xl_L) (M : xm_M) (c : Nat) (hs : xs_ct c) (hcl : xn_cl lk c) (hlb : lk c = fun _ => none) (hMb : M c = fun _ => 0) : xn_c l qm_CT_init 3 29 158 Y ad lk (xn_fl lk c) c (c + 30) M (xn_fm M c) := by
  refine xn_c.mk rfl (by decide) rfl (by decide) ?_
  intro X hXl hX hin hA hO hR
  subst hXl
  have hX0 : xv_ok X (xn_Y Y ad) prog_3_method_1_code "CertificatePath$Certificate" 2 (xn_rm 3 29 158) := hX
  obtain ⟨k0, kr, kn1, kn3, k5, k6, k7, k8, k9⟩ := id hs
  have i3 : xs_in (c + 1) (c + 3) := kn1.in
  have i5 : xs_in (c + 1) (c + 5) := i3.app kn3.in (by omega)
  have i14 : xs_in (c + 1) (c + 14) := by
    intro z z1 z2 k t ht
    by_cases e1 : z < c + 5
    · have := i5 z z1 e1 k t ht; omega
    · by_cases e2 : z = c + 5
      · rw [e2, k6] at ht
        dsimp only at ht
        split at ht
        · cases ht; omega
        · cases ht
      · exact hs.in1 4 (by omega) z (by omega) (by omega) k t ht
  have i22 : xs_in (c + 1) (c + 22) := i14.app k8.in (by omega)
  show xv_V X (xn_Y Y ad) 2 0 0 lk (c + 1) M 0 [(0, .ref (ad c))] []
  refine xn_sw (lk' := xn_g lk c (fun _ => none) c 0) (M' := xn_m (xn_fm M c) c) (fun z hz => ⟨xn_g_0 hz hlb, xn_mc_0 hz hMb⟩) ?_
  have hc0 : xn_cl (xn_g lk c (fun _ => none) c 0) (c + 1) := xn_g_cl hcl (by omega) (by omega) (fun _ _ z => by cases z) (fun k t hk => absurd hk (Nat.not_lt_zero _)) (fun z z1 z2 => absurd z1 (by omega))
  refine xv_aload_n hX0 0 dc_CT_init_0 rfl (rfl : _ = 1) ?_
  refine xn_obj hX0 wn_ob_CT ⟨by decide, by decide⟩ (Nat.le_of_ble_eq_true rfl) dc_CT_init_1 (rfl : _ = 4) wn_oi wn_oc ?_
  refine xv_aload_n hX0 0 dc_CT_init_4 rfl (rfl : _ = 5) ?_
  refine xn_new hX0 hA kn1.1 (C := "CertificatePath$Name") (T := tk_NM) (tf := ty_NM) rfl wi_NM to_NM wn_dv_NM wn_cl_CT_9 wn_in_NM wn_it_NM hc0 ⟨by show _ ≤ 29; omega, by show _ ≤ 158; omega⟩ dc_CT_init_5 (rfl : _ = 8) (fun ad1 h1 => ?_)
  first
  | rw [← h1 c (by omega)]
  | rw [show (xn_Y Y ad).2.2.2 c = ad1 c from (h1 c (by omega)).symm]
  have hX1 : xv_ok X (xn_Y Y ad1) prog_3_method_1_code "CertificatePath$Certificate" 2 (xn_rm 3 29 158) := hX
  refine xv_dup hX1 dc_CT_init_8 rfl (rfl : _ = 9) ?_
  refine xn_call hX1 hA hO (cn_NM _ Y ad1 _ _ (c + 1) kn1 (xn_cl_l0 hc0) xn_l_eq xn_m_eq) ml_CT_11 rfl rfl wn_im_NM (by decide) ⟨by decide, by decide⟩ ⟨by show _ ≤ 29; omega, by show _ ≤ 158; omega⟩ (Nat.le_of_ble_eq_true rfl) dc_CT_init_9 (rfl : _ = 12) (fun ad2 h2 => ?_)
  first
  | rw [← h2 c (by omega)]
  | rw [show (xn_Y Y ad1).2.2.2 c = ad2 c from (h2 c (by omega)).symm]
  first
  | rw [← h2 (c + 1) (by omega)]
  | rw [show (xn_Y Y ad1).2.2.2 (c + 1) = ad2 (c + 1) from (h2 (c + 1) (by omega)).symm]
  have hX2 : xv_ok X (xn_Y Y ad2) prog_3_method_1_code "CertificatePath$Certificate" 2 (xn_rm 3 29 158) := hX
  refine xn_putr hX2 hin (q := c) (ci := 6) (n := 16) (k := 1) (v := c + 1) (T := tk_CT) (tf := ty_CT) (ty := ty_CT 1) rfl (by decide) wi_CT to_CT tn_CT (xw_in 125 (by decide +kernel) rfl) rfl rfl (to_CT 1 (by decide)) rfl k0 (by omega) (fun _ => rfl) (fun _ => rfl) dc_CT_init_12 (rfl : _ = 15) ?_
  refine xn_sw (lk' := xn_g lk c (fun i => if i = 1 then some (c + 1) else (fun _ => none) i) c 0) (M' := xn_m (xn_fm M c) c) (fun z hz => ⟨xn_g_cp (by omega) (by omega), (xn_mc_call (by omega)).symm⟩) ?_
  have hc1 : xn_cl (xn_g lk c (fun i => if i = 1 then some (c + 1) else (fun _ => none) i) c 0) (c + 3) := xn_g_cl hcl (by omega) (by omega) (xn_rw (fun _ _ z => by cases z) (by omega)) (fun k t hk => absurd hk (Nat.not_lt_zero _)) (fun z z1 z2 z3 k t ht => i3 z (by omega) (by omega) k t ht)
  refine xv_aload_n hX2 0 dc_CT_init_15 rfl (rfl : _ = 16) ?_
  refine xn_new hX2 hA kn3.1 (C := "CertificatePath$Name") (T := tk_NM) (tf := ty_NM) rfl wi_NM to_NM wn_dv_NM wn_cl_CT_9 wn_in_NM wn_it_NM hc1 ⟨by show _ ≤ 29; omega, by show _ ≤ 158; omega⟩ dc_CT_init_16 (rfl : _ = 19) (fun ad3 h3 => ?_)
  first
  | rw [← h3 c (by omega)]
  | rw [show (xn_Y Y ad2).2.2.2 c = ad3 c from (h3 c (by omega)).symm]
  have hX3 : xv_ok X (xn_Y Y ad3) prog_3_method_1_code "CertificatePath$Certificate" 2 (xn_rm 3 29 158) := hX
  refine xv_dup hX3 dc_CT_init_19 rfl (rfl : _ = 20) ?_
  refine xn_call hX3 hA hO (cn_NM _ Y ad3 _ _ (c + 3) kn3 (xn_cl_l0 hc1) xn_l_eq xn_m_eq) ml_CT_11 rfl rfl wn_im_NM (by decide) ⟨by decide, by decide⟩ ⟨by show _ ≤ 29; omega, by show _ ≤ 158; omega⟩ (Nat.le_of_ble_eq_true rfl) dc_CT_init_20 (rfl : _ = 23) (fun ad4 h4 => ?_)
  first
  | rw [← h4 c (by omega)]
  | rw [show (xn_Y Y ad3).2.2.2 c = ad4 c from (h4 c (by omega)).symm]
  first
  | rw [← h4 (c + 3) (by omega)]
  | rw [show (xn_Y Y ad3).2.2.2 (c + 3) = ad4 (c + 3) from (h4 (c + 3) (by omega)).symm]
  have hX4 : xv_ok X (xn_Y Y ad4) prog_3_method_1_code "CertificatePath$Certificate" 2 (xn_rm 3 29 158) := hX
  refine xn_putr hX4 hin (q := c) (ci := 6) (n := 16) (k := 4) (v := c + 3) (T := tk_CT) (tf := ty_CT) (ty := ty_CT 4) rfl (by decide) wi_CT to_CT tn_CT (xw_in 131 (by decide +kernel) rfl) rfl rfl (to_CT 4 (by decide)) rfl k0 (by omega) (fun _ => rfl) (fun _ => rfl) dc_CT_init_23 (rfl : _ = 26) ?_
  refine xn_sw (lk' := xn_g lk c (fun i => if i = 4 then some (c + 3) else (fun i => if i = 1 then some (c + 1) else (fun _ => none) i) i) c 0) (M' := xn_m (xn_fm M c) c) (fun z hz => ⟨xn_g_cp (by omega) (by omega), (xn_mc_call (by omega)).symm⟩) ?_
  have hc2 : xn_cl (xn_g lk c (fun i => if i = 4 then some (c + 3) else (fun i => if i = 1 then some (c + 1) else (fun _ => none) i) i) c 0) (c + 5) := xn_g_cl hcl (by omega) (by omega) (xn_rw (xn_rw (fun _ _ z => by cases z) (by omega)) (by omega)) (fun k t hk => absurd hk (Nat.not_lt_zero _)) (fun z z1 z2 z3 k t ht => i5 z (by omega) (by omega) k t ht)
  refine xv_aload_n hX4 0 dc_CT_init_26 rfl (rfl : _ = 27) ?_
  refine xv_iconst hX4 (v := nI 4) dc_CT_init_27 (by decide) (rfl : _ = 28) ?_
  refine xn_newq (t := 4) hX4 hA k5 rfl (by decide) wn_cl_CT_21 hO.2.2 hc2 ⟨by show _ ≤ 29; omega, by show _ ≤ 158; omega⟩ dc_CT_init_28 (rfl : _ = 31) (fun ad5 h5 => ?_)
  first
  | rw [← h5 c (by omega)]
  | rw [show (xn_Y Y ad4).2.2.2 c = ad5 c from (h5 c (by omega)).symm]
  have hX5 : xv_ok X (xn_Y Y ad5) prog_3_method_1_code "CertificatePath$Certificate" 2 (xn_rm 3 29 158) := hX
  refine xn_putr hX5 hin (q := c) (ci := 6) (n := 16) (k := 9) (v := c + 5) (T := tk_CT) (tf := ty_CT) (ty := ty_CT 9) rfl (by decide) wi_CT to_CT tn_CT (xw_in 139 (by decide +kernel) rfl) rfl rfl (to_CT 9 (by decide)) rfl k0 (by omega) (fun _ => rfl) (fun _ => rfl) dc_CT_init_31 (rfl : _ = 34) ?_
  refine xv_iconst hX5 (v := nI 0) dc_CT_init_34 (by decide) (rfl : _ = 35) ?_
  refine xv_istore_n hX5 [1, 0] dc_CT_init_35 (by decide) (L' := [(0, .ref (ad5 c)), (1, .int (nI 0))]) rfl (rfl : _ = 36) ?_
  refine xn_sw (lk' := xn_g lk c (fun i => if i = 9 then some (c + 5) else (fun i => if i = 4 then some (c + 3) else (fun i => if i = 1 then some (c + 1) else (fun _ => none) i) i) i) (c + 5) 0) (M' := xn_m (xn_fm M c) c) (fun z hz => ⟨xn_g_na (by omega) hz, xn_mc_na (by omega) hz (by rw [k5]; decide)⟩) ?_
  have lp : ∀ (fu j : Nat) (ad' : Nat → Nat), (∀ z, z ≤ c → ad' z = ad z) → j ≤ 4 → 4 - j < fu → xv_V X (xn_Y Y ad') 2 (5 + 2 * j) (16 + 24 * j) (xn_g lk c (fun i => if i = 9 then some (c + 5) else (fun i => if i = 4 then some (c + 3) else (fun i => if i = 1 then some (c + 1) else (fun _ => none) i) i) i) (c + 5) j) (c + 6 + 2 * j) (xn_m (xn_fm M c) c) 36 [(0, .ref (ad' c)), (1, .int (nI j))] [] := by
    intro fu
    induction fu with
    | zero => intro j ad' h' hj hm; exact absurd hm (Nat.not_lt_zero _)
    | succ fu ih =>
      intro j ad' h' hj hm
      have hX40 : xv_ok X (xn_Y Y ad') prog_3_method_1_code "CertificatePath$Certificate" 2 (xn_rm 3 29 158) := hX
      have hcj : xn_cl (xn_g lk c (fun i => if i = 9 then some (c + 5) else (fun i => if i = 4 then some (c + 3) else (fun i => if i = 1 then some (c + 1) else (fun _ => none) i) i) i) (c + 5) j) (c + 6 + 2 * j) := xn_g_cl hcl (by omega) (by omega) (xn_rw (xn_rw (xn_rw (fun _ _ z => by cases z) (by omega)) (by omega)) (by omega)) (fun k t hk ht => by rw [k6] at ht; dsimp only at ht; split at ht; (cases ht; omega); cases ht) (fun z z1 z2 z3 k t ht => by
        by_cases e : z < c + 5
        · have := i5 z (by omega) e k t ht; omega
        · exact hs.in1 j hj z (by omega) (by omega) k t ht)
      refine xv_iload_n hX40 1 dc_CT_init_36 rfl (rfl : _ = 37) ?_
      refine xv_aload_n hX40 0 dc_CT_init_37 rfl (rfl : _ = 38) ?_
      refine xv_getr hX40 fl_CT_23 rfl k0 (by omega) (v := c + 5) (by rw [xn_g_b]; rfl) dc_CT_init_38 (rfl : _ = 41) ?_
      refine xv_alen hX40 (n := 4) k5 ⟨_, rfl⟩ (by omega) dc_CT_init_41 (rfl : _ = 42) ?_
      refine xv_icmp_ge hX40 (nI_toInt (by omega)) (show (nI 4).toInt = 4 by decide) (tgt := 64) (pq := 45) dc_CT_init_42 (by decide) rfl (fun cj => ?_) (fun cj => ?_)
      · obtain rfl : j = 4 := by omega
        refine xn_sw (lk' := xn_g lk c (fun i => if i = 9 then some (c + 5) else (fun i => if i = 4 then some (c + 3) else (fun i => if i = 1 then some (c + 1) else (fun _ => none) i) i) i) c 0) (M' := xn_m (xn_fm M c) c) (fun z hz => ⟨xn_g_up (a := c + 5) (j := 4) (by omega) (fun k hk => by rw [k6]; exact if_neg (by omega)), rfl⟩) ?_
        have hc4 : xn_cl (xn_g lk c (fun i => if i = 9 then some (c + 5) else (fun i => if i = 4 then some (c + 3) else (fun i => if i = 1 then some (c + 1) else (fun _ => none) i) i) i) c 0) (c + 14) := xn_g_cl hcl (by omega) (by omega) (xn_rw (xn_rw (xn_rw (fun _ _ z => by cases z) (by omega)) (by omega)) (by omega)) (fun k t hk => absurd hk (Nat.not_lt_zero _)) (fun z z1 z2 z3 k t ht => i14 z (by omega) (by omega) k t ht)
        refine xv_aload_n hX40 0 dc_CT_init_64 rfl (rfl : _ = 65) ?_
        refine xn_new hX40 hA (N := c + 14) k8.1 (C := "CertificatePath$NameList") (T := tk_NL) (tf := ty_NL) rfl wi_NL to_NL wn_dv_NL wn_cl_CT_28 wn_in_NL wn_it_NL hc4 ⟨by show _ ≤ 29; omega, by show _ ≤ 158; omega⟩ dc_CT_init_65 (rfl : _ = 68) (fun ad41 h41 => ?_)
        first
        | rw [← h41 c (by omega)]
        | rw [show (xn_Y Y ad').2.2.2 c = ad41 c from (h41 c (by omega)).symm]
        have hX41 : xv_ok X (xn_Y Y ad41) prog_3_method_1_code "CertificatePath$Certificate" 2 (xn_rm 3 29 158) := hX
        refine xv_dup hX41 dc_CT_init_68 rfl (rfl : _ = 69) ?_
        refine xn_call hX41 hA hO (cn_NL _ Y ad41 _ _ (c + 14) k8 (xn_cl_l0 hc4) xn_l_eq xn_m_eq) ml_CT_30 rfl rfl wn_im_NL (by decide) ⟨by decide, by decide⟩ ⟨by show _ ≤ 29; omega, by show _ ≤ 158; omega⟩ (Nat.le_of_ble_eq_true rfl) dc_CT_init_69 (rfl : _ = 72) (fun ad42 h42 => ?_)
        first
        | rw [← h42 c (by omega)]
        | rw [show (xn_Y Y ad41).2.2.2 c = ad42 c from (h42 c (by omega)).symm]
        first
        | rw [← h42 (c + 14) (by omega)]
        | rw [show (xn_Y Y ad41).2.2.2 (c + 14) = ad42 (c + 14) from (h42 (c + 14) (by omega)).symm]
        have hX42 : xv_ok X (xn_Y Y ad42) prog_3_method_1_code "CertificatePath$Certificate" 2 (xn_rm 3 29 158) := hX
        refine xn_putr hX42 hin (q := c) (ci := 6) (n := 16) (k := 14) (v := c + 14) (T := tk_CT) (tf := ty_CT) (ty := ty_CT 14) rfl (by decide) wi_CT to_CT tn_CT (xw_in 144 (by decide +kernel) rfl) rfl rfl (to_CT 14 (by decide)) rfl k0 (by omega) (fun _ => rfl) (fun _ => rfl) dc_CT_init_72 (rfl : _ = 75) ?_
        refine xn_sw (lk' := xn_g lk c (fun i => if i = 14 then some (c + 14) else (fun i => if i = 9 then some (c + 5) else (fun i => if i = 4 then some (c + 3) else (fun i => if i = 1 then some (c + 1) else (fun _ => none) i) i) i) i) c 0) (M' := xn_m (xn_fm M c) c) (fun z hz => ⟨xn_g_cp (by omega) (by omega), (xn_mc_call (by omega)).symm⟩) ?_
        have hc5 : xn_cl (xn_g lk c (fun i => if i = 14 then some (c + 14) else (fun i => if i = 9 then some (c + 5) else (fun i => if i = 4 then some (c + 3) else (fun i => if i = 1 then some (c + 1) else (fun _ => none) i) i) i) i) c 0) (c + 22) := xn_g_cl hcl (by omega) (by omega) (xn_rw (xn_rw (xn_rw (xn_rw (fun _ _ z => by cases z) (by omega)) (by omega)) (by omega)) (by omega)) (fun k t hk => absurd hk (Nat.not_lt_zero _)) (fun z z1 z2 z3 k t ht => i22 z (by omega) (by omega) k t ht)
        refine xv_aload_n hX42 0 dc_CT_init_75 rfl (rfl : _ = 76) ?_
        refine xn_new hX42 hA k9.1 (C := "CertificatePath$NameList") (T := tk_NL) (tf := ty_NL) rfl wi_NL to_NL wn_dv_NL wn_cl_CT_28 wn_in_NL wn_it_NL hc5 ⟨by show _ ≤ 29; omega, by show _ ≤ 158; omega⟩ dc_CT_init_76 (rfl : _ = 79) (fun ad43 h43 => ?_)
        first
        | rw [← h43 c (by omega)]
        | rw [show (xn_Y Y ad42).2.2.2 c = ad43 c from (h43 c (by omega)).symm]
        have hX43 : xv_ok X (xn_Y Y ad43) prog_3_method_1_code "CertificatePath$Certificate" 2 (xn_rm 3 29 158) := hX
        refine xv_dup hX43 dc_CT_init_79 rfl (rfl : _ = 80) ?_
        refine xn_call hX43 hA hO (cn_NL _ Y ad43 _ _ (c + 22) k9 (xn_cl_l0 hc5) xn_l_eq xn_m_eq) ml_CT_30 rfl rfl wn_im_NL (by decide) ⟨by decide, by decide⟩ ⟨by show _ ≤ 29; omega, by show _ ≤ 158; omega⟩ (Nat.le_of_ble_eq_true rfl) dc_CT_init_80 (rfl : _ = 83) (fun ad44 h44 => ?_)
        first
        | rw [← h44 c (by omega)]
        | rw [show (xn_Y Y ad43).2.2.2 c = ad44 c from (h44 c (by omega)).symm]
        first
        | rw [← h44 (c + 22) (by omega)]
        | rw [show (xn_Y Y ad43).2.2.2 (c + 22) = ad44 (c + 22) from (h44 (c + 22) (by omega)).symm]
        have hX44 : xv_ok X (xn_Y Y ad44) prog_3_method_1_code "CertificatePath$Certificate" 2 (xn_rm 3 29 158) := hX
        refine xn_putr hX44 hin (q := c) (ci := 6) (n := 16) (k := 15) (v := c + 22) (T := tk_CT) (tf := ty_CT) (ty := ty_CT 15) rfl (by decide) wi_CT to_CT tn_CT (xw_in 145 (by decide +kernel) rfl) rfl rfl (to_CT 15 (by decide)) rfl k0 (by omega) (fun _ => rfl) (fun _ => rfl) dc_CT_init_83 (rfl : _ = 86) ?_
        refine xn_sw (lk' := xn_g lk c (fun i => if i = 15 then some (c + 22) else (fun i => if i = 14 then some (c + 14) else (fun i => if i = 9 then some (c + 5) else (fun i => if i = 4 then some (c + 3) else (fun i => if i = 1 then some (c + 1) else (fun _ => none) i) i) i) i) i) c 0) (M' := xn_m (xn_fm M c) c) (fun z hz => ⟨xn_g_cp (by omega) (by omega), (xn_mc_call (by omega)).symm⟩) ?_
        have hrow : xn_lk c = (fun i => if i = 15 then some (c + 22) else (fun i => if i = 14 then some (c + 14) else (fun i => if i = 9 then some (c + 5) else (fun i => if i = 4 then some (c + 3) else (fun i => if i = 1 then some (c + 1) else (fun _ => none) i) i) i) i) i) := by
          rw [kr]
          funext k
          dsimp only
          (repeat' split) <;> first | rfl | omega
        refine xn_sw (lk' := xn_fl lk c) (M' := xn_m (xn_fm M c) c) (fun z hz => ⟨xn_g_fin hrow, rfl⟩) ?_
        refine xv_aload_n hX44 0 dc_CT_init_86 rfl (rfl : _ = 87) ?_
        refine xg_callv hX44 (As := []) (rest := []) (cg_forget _ _ c _ _ _ k0 (by omega) (by rw [xn_fl_ge (Nat.le_refl _), kr]; rfl) k8.1 (by rw [xn_fl_ge (Nat.le_refl _), kr]; rfl) k9.1) ml_CT_38 li_CT_forgetExtensions k0 (by omega) rfl rfl rfl (by decide) ⟨by decide, by decide⟩ ⟨by show _ ≤ 29; omega, by show _ ≤ 158; omega⟩ (Nat.le_of_ble_eq_true rfl) dc_CT_init_87 (rfl : _ = 90) (fun M87 p87 => ?_)
        subst p87
        refine xn_ret hX44 hR dc_CT_init_90 (fun z hz => ((h44 z (by omega)).trans ((h43 z (by omega)).trans ((h42 z (by omega)).trans ((h41 z (by omega)).trans (h' z hz)))))) (by omega) (by omega) (fun z hz => ?_)
        refine ⟨rfl, ?_⟩
        by_cases e1 : z = c
        · subst e1
          rw [xm_oth (by omega), xm_oth (by omega), xn_fm_ge (Nat.le_refl _)]
          funext i
          have hd : xn_d z i = if i = 12 ∨ i = 13 then 4294967295 else 0 := by unfold xn_d; rw [k0]; simp
          rw [hd]
          by_cases a1 : i = 13
          · subst a1
            simp [xm_set]
          · by_cases a2 : i = 12
            · subst a2
              simp [xm_set]
            · simp [xm_set, xn_m_eq, a1, a2]
        · by_cases e2 : z = c + 14
          · subst e2
            rw [xm_oth (by omega), xm_row, xm_oth (by omega), xm_oth (by omega), xm_oth (by omega), xm_oth (by omega), xn_m_ne (by omega), xn_fm_ge (by omega), xn_d0 (by rw [k8.1]; decide)]
            funext i
            dsimp only
            split <;> rfl
          · by_cases e3 : z = c + 22
            · subst e3
              rw [xm_row, xm_oth (by omega), xm_oth (by omega), xm_oth (by omega), xm_oth (by omega), xm_oth (by omega), xn_m_ne (by omega), xn_fm_ge (by omega), xn_d0 (by rw [k9.1]; decide)]
              funext i
              dsimp only
              split <;> rfl
            · rw [xm_oth e3, xm_oth e2, xm_oth e1, xm_oth e1, xm_oth e1, xm_oth e1, xn_m_ne e1]
      · skip
        have hs1 := k7 j (by omega)
        refine xv_aload_n hX40 0 dc_CT_init_45 rfl (rfl : _ = 46) ?_
        refine xv_getr hX40 fl_CT_23 rfl k0 (by omega) (v := c + 5) (by rw [xn_g_b]; rfl) dc_CT_init_46 (rfl : _ = 49) ?_
        refine xv_iload_n hX40 1 dc_CT_init_49 rfl (rfl : _ = 50) ?_
        refine xn_new hX40 hA hs1.1 (C := "CertificatePath$Extension") (T := tk_EX) (tf := ty_EX) rfl wi_EX to_EX wn_dv_EX wn_cl_CT_21 wn_in_EX wn_it_EX hcj ⟨by show _ ≤ 29; omega, by show _ ≤ 158; omega⟩ dc_CT_init_50 (rfl : _ = 53) (fun ad41 h41 => ?_)
        first
        | rw [← h41 c (by omega)]
        | rw [show (xn_Y Y ad').2.2.2 c = ad41 c from (h41 c (by omega)).symm]
        first
        | rw [← h41 (c + 5) (by omega)]
        | rw [show (xn_Y Y ad').2.2.2 (c + 5) = ad41 (c + 5) from (h41 (c + 5) (by omega)).symm]
        have hX41 : xv_ok X (xn_Y Y ad41) prog_3_method_1_code "CertificatePath$Certificate" 2 (xn_rm 3 29 158) := hX
        refine xv_dup hX41 dc_CT_init_53 rfl (rfl : _ = 54) ?_
        refine xn_call hX41 hA hO (cn_EX _ Y ad41 _ _ (c + 6 + 2 * j) hs1 (xn_cl_l0 hcj) xn_l_eq xn_m_eq) ml_CT_27 rfl rfl wn_im_EX (by decide) ⟨by decide, by decide⟩ ⟨by show _ ≤ 29; omega, by show _ ≤ 158; omega⟩ (Nat.le_of_ble_eq_true rfl) dc_CT_init_54 (rfl : _ = 57) (fun ad42 h42 => ?_)
        first
        | rw [← h42 c (by omega)]
        | rw [show (xn_Y Y ad41).2.2.2 c = ad42 c from (h42 c (by omega)).symm]
        first
        | rw [← h42 (c + 6 + 2 * j) (by omega)]
        | rw [show (xn_Y Y ad41).2.2.2 (c + 6 + 2 * j) = ad42 (c + 6 + 2 * j) from (h42 (c + 6 + 2 * j) (by omega)).symm]
        first
        | rw [← h42 (c + 5) (by omega)]
        | rw [show (xn_Y Y ad41).2.2.2 (c + 5) = ad42 (c + 5) from (h42 (c + 5) (by omega)).symm]
        have hX42 : xv_ok X (xn_Y Y ad42) prog_3_method_1_code "CertificatePath$Certificate" 2 (xn_rm 3 29 158) := hX
        refine xn_aast hX42 (q := c + 5) (t := 4) (v := c + 6 + 2 * j) (ci := 5) (m := 4) k5 rfl (by omega) (by omega) (by decide) hs1.1 (by omega) rfl dc_CT_init_57 (rfl : _ = 58) ?_
        refine xv_iinc hX42 1 [1, 0] dc_CT_init_58 rfl (xi_inc j 1) (by decide) (L' := [(0, .ref (ad42 c)), (1, .int (nI (j + 1)))]) rfl (rfl : _ = 61) ?_
        refine xv_goto hX42 (pq := 36) dc_CT_init_61 (by decide) ?_
        refine xn_wd (k := 5 + 2 * (j + 1)) (n := 16 + 24 * (j + 1)) (by omega) (by omega) ?_
        refine xn_sw (lk' := xn_g lk c (fun i => if i = 9 then some (c + 5) else (fun i => if i = 4 then some (c + 3) else (fun i => if i = 1 then some (c + 1) else (fun _ => none) i) i) i) (c + 5) (j + 1)) (M' := xn_m (xn_fm M c) c) (fun z hz => ⟨(xn_g_step (by omega) (by omega) (by omega) (by rw [k6]; exact if_pos (by omega))).symm, (xn_mc_call (by omega)).symm⟩) ?_
        rw [show c + 6 + 2 * j + 2 = c + 6 + 2 * (j + 1) by omega]
        exact ih (j + 1) ad42 (fun z hz => ((h42 z (by omega)).trans ((h41 z (by omega)).trans (h' z hz)))) (by omega) (by omega)
  exact lp _ 0 ad5 (fun z hz => ((h5 z (by omega)).trans ((h4 z (by omega)).trans ((h3 z (by omega)).trans ((h2 z (by omega)).trans (h1 z (by omega))))))) (Nat.zero_le _) (Nat.lt_succ_self _)
