/-! constructors: ByteRow, NameList -/
set_option maxRecDepth 100000 in
set_option maxHeartbeats 4000000 in
theorem cn_BR (l : Launch) (Y : xw_Y) (ad : Nat → Nat) (lk : xl_L) (M : xm_M) (b : Nat) (hs : xs_p b 2 2 0 (1, 0, 160)) (hcl : xn_cl lk b) (hlb : lk b = fun _ => none) (hMb : M b = fun _ => 0) : xn_c l qm_BR_init 1 1 160 Y ad lk (xn_fl lk b) b (b + 2) M (xn_fm M b) := by
  refine xn_c.mk rfl (by decide) rfl (by decide) ?_
  intro X hXl hX hin hA hO hR
  subst hXl
  have hX0 : xv_ok X (xn_Y Y ad) prog_2_method_1_code "CertificatePath$ByteRow" 1 (xn_rm 1 1 160) := hX
  obtain ⟨k0, k1, k2, k3⟩ := id hs
  have hc0 := xn_cl_b hcl hlb
  show xv_V X (xn_Y Y ad) 1 0 0 lk (b + 1) M 0 [(0, .ref (ad b))] []
  refine xv_aload_n hX0 0 dc_BR_init_0 rfl (rfl : _ = 1) ?_
  refine xn_obj hX0 wn_ob_BR ⟨by decide, by decide⟩ (Nat.le_of_ble_eq_true rfl) dc_BR_init_1 (rfl : _ = 4) wn_oi wn_oc ?_
  refine xv_aload_n hX0 0 dc_BR_init_4 rfl (rfl : _ = 5) ?_
  refine xv_sipush hX0 (v := nI 160) dc_BR_init_5 (by decide) (rfl : _ = 8) ?_
  refine xn_newi hX0 hA k1 (by decide) wn_ai hc0 ⟨by show _ ≤ 1; omega, by show _ ≤ 160; omega⟩ dc_BR_init_8 (rfl : _ = 10) (fun ad1 h1 => ?_)
  first
  | rw [← h1 b (by omega)]
  | rw [show (xn_Y Y ad).2.2.2 b = ad1 b from (h1 b (by omega)).symm]
  have hX1 : xv_ok X (xn_Y Y ad1) prog_2_method_1_code "CertificatePath$ByteRow" 1 (xn_rm 1 1 160) := hX
  refine xn_putr hX1 hin (q := b) (ci := 2) (n := 2) (k := 0) (v := b + 1) (T := tk_BR) (tf := ty_BR) (ty := ty_BR 0) rfl (by decide) wi_BR to_BR tn_BR (xw_in 29 (by decide +kernel) rfl) rfl rfl (to_BR 0 (by decide)) rfl k0 (by omega) (fun _ => rfl) (fun _ => rfl) dc_BR_init_10 (rfl : _ = 13) ?_
  refine xv_aload_n hX1 0 dc_BR_init_13 rfl (rfl : _ = 14) ?_
  refine xv_iconst hX1 (v := nI 0) dc_BR_init_14 (by decide) (rfl : _ = 15) ?_
  refine xv_puti hX1 fl_BR_15 rfl k0 (by omega) dc_BR_init_15 (rfl : _ = 18) ?_
  refine xn_ret hX1 hR dc_BR_init_18 (fun z hz => (h1 z (by omega))) (by omega) (by omega) (fun z hz => ?_)
  rcases (show z < b ∨ z = b ∨ z = b + 1 by omega) with h | rfl | rfl
  · exact ⟨by rw [xn_fl_lt h, xl_oth (by omega), xn_l_ne (by omega)], by rw [xn_fm_lt h, xm_oth (by omega), xn_m_ne (by omega)]⟩
  · refine ⟨?_, ?_⟩
    · rw [xn_fl_ge (Nat.le_refl _), xl_row, xn_l_ne (by omega), hlb, k2]
    · rw [xn_fm_ge (Nat.le_refl _), xn_d0 (by rw [k0]; decide)]
      funext j
      simp only [xm_set, xn_m, hMb]
      (repeat' split) <;> first | rfl | omega
  · refine ⟨?_, ?_⟩
    · rw [xn_fl_ge (by omega), xl_oth (by omega), xn_l_eq, k3]
    · rw [xn_fm_ge (by omega), xn_d0 (by rw [k1]; decide), xm_oth (by omega), xn_m_eq]

set_option maxRecDepth 100000 in
set_option maxHeartbeats 4000000 in
theorem cn_NL (l : Launch) (Y : xw_Y) (ad : Nat → Nat) (lk : xl_L) (M : xm_M) (p : Nat) (hs : xs_nl p) (hcl : xn_cl lk p) (hlb : lk p = fun _ => none) (hMb : M p = fun _ => 0) : xn_c l qm_NL_init 2 7 21 Y ad lk (xn_fl lk p) p (p + 8) M (xn_fm M p) := by
  refine xn_c.mk rfl (by decide) rfl (by decide) ?_
  intro X hXl hX hin hA hO hR
  subst hXl
  have hX0 : xv_ok X (xn_Y Y ad) prog_6_method_1_code "CertificatePath$NameList" 2 (xn_rm 2 7 21) := hX
  obtain ⟨k0, k1, k2, k3, k4⟩ := id hs
  show xv_V X (xn_Y Y ad) 2 0 0 lk (p + 1) M 0 [(0, .ref (ad p))] []
  refine xn_sw (lk' := xn_g lk p (fun _ => none) p 0) (M' := xn_m (xn_fm M p) p) (fun z hz => ⟨xn_g_0 hz hlb, xn_mc_0 hz hMb⟩) ?_
  have hc0 : xn_cl (xn_g lk p (fun _ => none) p 0) (p + 1) := xn_g_cl hcl (by omega) (by omega) (fun _ _ z => by cases z) (fun k t hk => absurd hk (Nat.not_lt_zero _)) (fun z z1 z2 => absurd z1 (by omega))
  refine xv_aload_n hX0 0 dc_NL_init_0 rfl (rfl : _ = 1) ?_
  refine xn_obj hX0 wn_ob_NL ⟨by decide, by decide⟩ (Nat.le_of_ble_eq_true rfl) dc_NL_init_1 (rfl : _ = 4) wn_oi wn_oc ?_
  refine xv_aload_n hX0 0 dc_NL_init_4 rfl (rfl : _ = 5) ?_
  refine xv_iconst hX0 (v := nI 3) dc_NL_init_5 (by decide) (rfl : _ = 6) ?_
  refine xn_newq (t := 3) hX0 hA k1 rfl (by decide) wn_cl_NL_9 hO.2.1 hc0 ⟨by show _ ≤ 7; omega, by show _ ≤ 21; omega⟩ dc_NL_init_6 (rfl : _ = 9) (fun ad1 h1 => ?_)
  first
  | rw [← h1 p (by omega)]
  | rw [show (xn_Y Y ad).2.2.2 p = ad1 p from (h1 p (by omega)).symm]
  have hX1 : xv_ok X (xn_Y Y ad1) prog_6_method_1_code "CertificatePath$NameList" 2 (xn_rm 2 7 21) := hX
  refine xn_putr hX1 hin (q := p) (ci := 4) (n := 2) (k := 0) (v := p + 1) (T := tk_NL) (tf := ty_NL) (ty := ty_NL 0) rfl (by decide) wi_NL to_NL tn_NL (xw_in 112 (by decide +kernel) rfl) rfl rfl (to_NL 0 (by decide)) rfl k0 (by omega) (fun _ => rfl) (fun _ => rfl) dc_NL_init_9 (rfl : _ = 12) ?_
  refine xv_iconst hX1 (v := nI 0) dc_NL_init_12 (by decide) (rfl : _ = 13) ?_
  refine xv_istore_n hX1 [1, 0] dc_NL_init_13 (by decide) (L' := [(0, .ref (ad1 p)), (1, .int (nI 0))]) rfl (rfl : _ = 14) ?_
  refine xn_sw (lk' := xn_g lk p (fun i => if i = 0 then some (p + 1) else (fun _ => none) i) (p + 1) 0) (M' := xn_m (xn_fm M p) p) (fun z hz => ⟨xn_g_na (by omega) hz, xn_mc_na (by omega) hz (by rw [k1]; decide)⟩) ?_
  have lp : ∀ (fu j : Nat) (ad' : Nat → Nat), (∀ z, z ≤ p → ad' z = ad z) → j ≤ 3 → 3 - j < fu → xv_V X (xn_Y Y ad') 2 (1 + 2 * j) (3 + 6 * j) (xn_g lk p (fun i => if i = 0 then some (p + 1) else (fun _ => none) i) (p + 1) j) (p + 2 + 2 * j) (xn_m (xn_fm M p) p) 14 [(0, .ref (ad' p)), (1, .int (nI j))] [] := by
    intro fu
    induction fu with
    | zero => intro j ad' h' hj hm; exact absurd hm (Nat.not_lt_zero _)
    | succ fu ih =>
      intro j ad' h' hj hm
      have hX40 : xv_ok X (xn_Y Y ad') prog_6_method_1_code "CertificatePath$NameList" 2 (xn_rm 2 7 21) := hX
      have hcj : xn_cl (xn_g lk p (fun i => if i = 0 then some (p + 1) else (fun _ => none) i) (p + 1) j) (p + 2 + 2 * j) := xn_g_cl hcl (by omega) (by omega) (xn_rw (fun _ _ z => by cases z) (by omega)) (fun k t hk ht => by rw [k3] at ht; dsimp only at ht; split at ht; (cases ht; omega); cases ht) (fun z z1 z2 z3 k t ht => hs.in1 j hj z (by omega) (by omega) k t ht)
      refine xv_iload_n hX40 1 dc_NL_init_14 rfl (rfl : _ = 15) ?_
      refine xv_aload_n hX40 0 dc_NL_init_15 rfl (rfl : _ = 16) ?_
      refine xv_getr hX40 fl_NL_11 rfl k0 (by omega) (v := p + 1) (by rw [xn_g_b]; rfl) dc_NL_init_16 (rfl : _ = 19) ?_
      refine xv_alen hX40 (n := 3) k1 ⟨_, rfl⟩ (by omega) dc_NL_init_19 (rfl : _ = 20) ?_
      refine xv_icmp_ge hX40 (nI_toInt (by omega)) (show (nI 3).toInt = 3 by decide) (tgt := 42) (pq := 23) dc_NL_init_20 (by decide) rfl (fun cj => ?_) (fun cj => ?_)
      · obtain rfl : j = 3 := by omega
        refine xv_aload_n hX40 0 dc_NL_init_42 rfl (rfl : _ = 43) ?_
        refine xv_iconst hX40 (v := nI 0) dc_NL_init_43 (by decide) (rfl : _ = 44) ?_
        refine xv_puti hX40 fl_NL_18 rfl k0 (by omega) dc_NL_init_44 (rfl : _ = 47) ?_
        refine xn_ret hX40 hR dc_NL_init_47 h' (by omega) (by omega) (fun z hz => ?_)
        refine ⟨(xn_g_fin k2).trans ?_, ?_⟩
        · refine (xn_g_up (a := p + 1) (j := 3) (by omega) (fun k hk => by rw [k3]; exact if_neg (by omega)))
        · exact (xn_mc_f (by rw [k0]; decide)).trans (xn_mz xn_m_eq)
      · skip
        have hs1 := k4 j (by omega)
        refine xv_aload_n hX40 0 dc_NL_init_23 rfl (rfl : _ = 24) ?_
        refine xv_getr hX40 fl_NL_11 rfl k0 (by omega) (v := p + 1) (by rw [xn_g_b]; rfl) dc_NL_init_24 (rfl : _ = 27) ?_
        refine xv_iload_n hX40 1 dc_NL_init_27 rfl (rfl : _ = 28) ?_
        refine xn_new hX40 hA hs1.1 (C := "CertificatePath$Name") (T := tk_NM) (tf := ty_NM) rfl wi_NM to_NM wn_dv_NM wn_cl_NL_9 wn_in_NM wn_it_NM hcj ⟨by show _ ≤ 7; omega, by show _ ≤ 21; omega⟩ dc_NL_init_28 (rfl : _ = 31) (fun ad41 h41 => ?_)
        first
        | rw [← h41 p (by omega)]
        | rw [show (xn_Y Y ad').2.2.2 p = ad41 p from (h41 p (by omega)).symm]
        first
        | rw [← h41 (p + 1) (by omega)]
        | rw [show (xn_Y Y ad').2.2.2 (p + 1) = ad41 (p + 1) from (h41 (p + 1) (by omega)).symm]
        have hX41 : xv_ok X (xn_Y Y ad41) prog_6_method_1_code "CertificatePath$NameList" 2 (xn_rm 2 7 21) := hX
        refine xv_dup hX41 dc_NL_init_31 rfl (rfl : _ = 32) ?_
        refine xn_call hX41 hA hO (cn_NM _ Y ad41 _ _ (p + 2 + 2 * j) hs1 (xn_cl_l0 hcj) xn_l_eq xn_m_eq) ml_NL_17 rfl rfl wn_im_NM (by decide) ⟨by decide, by decide⟩ ⟨by show _ ≤ 7; omega, by show _ ≤ 21; omega⟩ (Nat.le_of_ble_eq_true rfl) dc_NL_init_32 (rfl : _ = 35) (fun ad42 h42 => ?_)
        first
        | rw [← h42 p (by omega)]
        | rw [show (xn_Y Y ad41).2.2.2 p = ad42 p from (h42 p (by omega)).symm]
        first
        | rw [← h42 (p + 2 + 2 * j) (by omega)]
        | rw [show (xn_Y Y ad41).2.2.2 (p + 2 + 2 * j) = ad42 (p + 2 + 2 * j) from (h42 (p + 2 + 2 * j) (by omega)).symm]
        first
        | rw [← h42 (p + 1) (by omega)]
        | rw [show (xn_Y Y ad41).2.2.2 (p + 1) = ad42 (p + 1) from (h42 (p + 1) (by omega)).symm]
        have hX42 : xv_ok X (xn_Y Y ad42) prog_6_method_1_code "CertificatePath$NameList" 2 (xn_rm 2 7 21) := hX
        refine xn_aast hX42 (q := p + 1) (t := 3) (v := p + 2 + 2 * j) (ci := 3) (m := 2) k1 rfl (by omega) (by omega) (by decide) hs1.1 (by omega) rfl dc_NL_init_35 (rfl : _ = 36) ?_
        refine xv_iinc hX42 1 [1, 0] dc_NL_init_36 rfl (xi_inc j 1) (by decide) (L' := [(0, .ref (ad42 p)), (1, .int (nI (j + 1)))]) rfl (rfl : _ = 39) ?_
        refine xv_goto hX42 (pq := 14) dc_NL_init_39 (by decide) ?_
        refine xn_wd (k := 1 + 2 * (j + 1)) (n := 3 + 6 * (j + 1)) (by omega) (by omega) ?_
        refine xn_sw (lk' := xn_g lk p (fun i => if i = 0 then some (p + 1) else (fun _ => none) i) (p + 1) (j + 1)) (M' := xn_m (xn_fm M p) p) (fun z hz => ⟨(xn_g_step (by omega) (by omega) (by omega) (by rw [k3]; exact if_pos (by omega))).symm, (xn_mc_call (by omega)).symm⟩) ?_
        rw [show p + 2 + 2 * j + 2 = p + 2 + 2 * (j + 1) by omega]
        exact ih (j + 1) ad42 (fun z hz => ((h42 z (by omega)).trans ((h41 z (by omega)).trans (h' z hz)))) (by omega) (by omega)
  exact lp _ 0 ad1 (fun z hz => (h1 z (by omega))) (Nat.zero_le _) (Nat.lt_succ_self _)
