/-! constructors: CertificatePath, the reference -/
theorem xs_in6 : ∀ j, j ≤ 9 → xs_in 6 (6 + 30 * j)
  | 0, _ => xs_in0 _
  | j + 1, hj => (xs_in6 j (by omega)).app (xs_cert (i := j) (by omega)).in (by omega)
theorem xs_in5 : xs_in 1 5 := by
  intro z z1 z2 k t ht
  rcases (show z = 1 ∨ z = 2 ∨ z = 3 ∨ z = 4 by omega) with rfl | rfl | rfl | rfl
  · rw [xn_lk_ob (ci := 1) (n := 5) rfl] at ht
    rcases k with _ | _ | k
    · have ht : some 2 = some t := ht
      cases ht; omega
    · have ht : some 4 = some t := ht
      cases ht; omega
    · have ht : none = some t := ht
      cases ht
  · rw [xn_lk_ob (ci := 2) (n := 2) rfl] at ht
    rcases k with _ | k
    · have ht : some 3 = some t := ht
      cases ht; omega
    · have ht : none = some t := ht
      cases ht
  · rw [xn_lk_i (t := 0) (n := 160) rfl] at ht
    cases ht
  · rw [xn_lk_i (t := 0) (n := 11) rfl] at ht
    cases ht
theorem xs_l5 {k t : Nat} (h : xn_lk 5 k = some t) : k < 9 ∧ t = 6 + 30 * k := by
  rw [xn_lk_ar (t := 2) (n := 9) rfl] at h
  have h : (if k < 9 then some (6 + 30 * k) else none) = some t := h
  split at h
  · rename_i hk
    cases h
    exact ⟨hk, rfl⟩
  · cases h

set_option maxRecDepth 100000 in
set_option maxHeartbeats 4000000 in
theorem cn_CP (l : Launch) (Y : xw_Y) (ad : Nat → Nat) (lk : xl_L) (M : xm_M)  (hcl : xn_cl lk 0) (hlb : lk 0 = fun _ => none) (hMb : M 0 = fun _ => 0) : xn_c l qm_CP_init 4 276 1759 Y ad lk (xn_fl lk 0) 0 (277) M (xn_fm M 0) := by
  refine xn_c.mk rfl (by decide) rfl (by decide) ?_
  intro X hXl hX hin hA hO hR
  subst hXl
  have hX0 : xv_ok X (xn_Y Y ad) prog_1_method_1_code "CertificatePath" 2 (xn_rm 4 276 1759) := hX
  have k0 : xw_K 0 = (0, 0, 6) := rfl
  have k1 : xw_K 1 = (0, 1, 5) := rfl
  have k5 : xw_K 5 = (3, 2, 9) := rfl
  have k6 : xw_K 276 = (1, 0, 6) := rfl
  show xv_V X (xn_Y Y ad) 2 0 0 lk (0 + 1) M 0 [(0, .ref (ad 0))] []
  refine xn_sw (lk' := xn_g lk 0 (fun _ => none) 0 0) (M' := xn_m (xn_fm M 0) 0) (fun z hz => ⟨xn_g_0 hz hlb, xn_mc_0 hz hMb⟩) ?_
  have hc0 : xn_cl (xn_g lk 0 (fun _ => none) 0 0) (1) := xn_g_cl hcl (by omega) (by omega) (fun _ _ z => by cases z) (fun k t hk => absurd hk (Nat.not_lt_zero _)) (fun z z1 z2 => absurd z1 (by omega))
  refine xv_aload_n hX0 0 dc_CP_init_0 rfl (rfl : _ = 1) ?_
  refine xn_obj hX0 wn_ob_CP ⟨by decide, by decide⟩ (Nat.le_of_ble_eq_true rfl) dc_CP_init_1 (rfl : _ = 4) wn_oi wn_oc ?_
  refine xv_aload_n hX0 0 dc_CP_init_4 rfl (rfl : _ = 5) ?_
  refine xn_new hX0 hA (N := 1) k1 (C := "CertificatePath$Reader") (T := tk_RD) (tf := ty_RD) rfl wi_RD to_RD wn_dv_RD wn_cl_CP_7 wn_in_RD wn_it_RD hc0 ⟨by show _ ≤ 276; omega, by show _ ≤ 1759; omega⟩ dc_CP_init_5 (rfl : _ = 8) (fun ad1 h1 => ?_)
  first
  | rw [← h1 0 (by omega)]
  | rw [show (xn_Y Y ad).2.2.2 0 = ad1 0 from (h1 0 (by omega)).symm]
  have hX1 : xv_ok X (xn_Y Y ad1) prog_1_method_1_code "CertificatePath" 2 (xn_rm 4 276 1759) := hX
  refine xv_dup hX1 dc_CP_init_8 rfl (rfl : _ = 9) ?_
  refine xn_call hX1 hA hO (cn_RD _ Y ad1 _ _ (xn_cl_l0 hc0) xn_l_eq xn_m_eq) ml_CP_9 rfl rfl wn_im_RD (by decide) ⟨by decide, by decide⟩ ⟨by show _ ≤ 276; omega, by show _ ≤ 1759; omega⟩ (Nat.le_of_ble_eq_true rfl) dc_CP_init_9 (rfl : _ = 12) (fun ad2 h2 => ?_)
  first
  | rw [← h2 0 (by omega)]
  | rw [show (xn_Y Y ad1).2.2.2 0 = ad2 0 from (h2 0 (by omega)).symm]
  first
  | rw [← h2 1 (by omega)]
  | rw [show (xn_Y Y ad1).2.2.2 1 = ad2 1 from (h2 1 (by omega)).symm]
  have hX2 : xv_ok X (xn_Y Y ad2) prog_1_method_1_code "CertificatePath" 2 (xn_rm 4 276 1759) := hX
  refine xn_putr hX2 hin (q := 0) (ci := 0) (n := 6) (k := 0) (v := 1) (T := tk_CP) (tf := ty_CP) (ty := ty_CP 0) rfl (by decide) wi_CP to_CP tn_CP (xw_in 179 (by decide +kernel) rfl) rfl rfl (to_CP 0 (by decide)) rfl k0 (by omega) (fun _ => rfl) (fun _ => rfl) dc_CP_init_12 (rfl : _ = 15) ?_
  refine xn_sw (lk' := xn_g lk 0 (fun i => if i = 0 then some (1) else (fun _ => none) i) 0 0) (M' := xn_m (xn_fm M 0) 0) (fun z hz => ⟨xn_g_cp (by omega) (by omega), (xn_mc_call (by omega)).symm⟩) ?_
  refine xv_aload_n hX2 0 dc_CP_init_15 rfl (rfl : _ = 16) ?_
  refine xv_aload_n hX2 0 dc_CP_init_16 rfl (rfl : _ = 17) ?_
  refine xv_getr hX2 fl_CP_10 rfl k0 (by omega) (v := 1) (by rw [xn_g_b]; rfl) dc_CP_init_17 (rfl : _ = 20) ?_
  refine xv_getr hX2 fl_CP_16 rfl k1 (by omega) (v := 2) (by rw [xn_g_ge (by omega) (by omega) (by omega)]; rfl) dc_CP_init_20 (rfl : _ = 23) ?_
  refine xn_putr hX2 hin (q := 0) (ci := 0) (n := 6) (k := 1) (v := 2) (T := tk_CP) (tf := ty_CP) (ty := ty_CP 1) rfl (by decide) wi_CP to_CP tn_CP (xw_in 180 (by decide +kernel) rfl) rfl rfl (to_CP 1 (by decide)) rfl k0 (by omega) (fun _ => rfl) (fun _ => rfl) dc_CP_init_23 (rfl : _ = 26) ?_
  refine xn_sw (lk' := xn_g lk 0 (fun i => if i = 1 then some (2) else (fun i => if i = 0 then some (1) else (fun _ => none) i) i) 0 0) (M' := xn_m (xn_fm M 0) 0) (fun z hz => ⟨xn_g_put.symm, rfl⟩) ?_
  have hc2 : xn_cl (xn_g lk 0 (fun i => if i = 1 then some (2) else (fun i => if i = 0 then some (1) else (fun _ => none) i) i) 0 0) (5) := xn_g_cl hcl (by omega) (by omega) (xn_rw (xn_rw (fun _ _ z => by cases z) (by omega)) (by omega)) (fun k t hk => absurd hk (Nat.not_lt_zero _)) (fun z z1 z2 z3 k t ht => xs_in5 z (by omega) (by omega) k t ht)
  refine xv_aload_n hX2 0 dc_CP_init_26 rfl (rfl : _ = 27) ?_
  refine xv_bipush hX2 (v := nI 9) dc_CP_init_27 (by decide) (rfl : _ = 29) ?_
  refine xn_newq (t := 2) hX2 hA (N := 5) k5 rfl (by decide) wn_cl_CP_23 hO.1 hc2 ⟨by show _ ≤ 276; omega, by show _ ≤ 1759; omega⟩ dc_CP_init_29 (rfl : _ = 32) (fun ad3 h3 => ?_)
  first
  | rw [← h3 0 (by omega)]
  | rw [show (xn_Y Y ad2).2.2.2 0 = ad3 0 from (h3 0 (by omega)).symm]
  have hX3 : xv_ok X (xn_Y Y ad3) prog_1_method_1_code "CertificatePath" 2 (xn_rm 4 276 1759) := hX
  refine xn_putr hX3 hin (q := 0) (ci := 0) (n := 6) (k := 2) (v := 5) (T := tk_CP) (tf := ty_CP) (ty := ty_CP 2) rfl (by decide) wi_CP to_CP tn_CP (xw_in 181 (by decide +kernel) rfl) rfl rfl (to_CP 2 (by decide)) rfl k0 (by omega) (fun _ => rfl) (fun _ => rfl) dc_CP_init_32 (rfl : _ = 35) ?_
  refine xv_iconst hX3 (v := nI 0) dc_CP_init_35 (by decide) (rfl : _ = 36) ?_
  refine xv_istore_n hX3 [1, 0] dc_CP_init_36 (by decide) (L' := [(0, .ref (ad3 0)), (1, .int (nI 0))]) rfl (rfl : _ = 37) ?_
  refine xn_sw (lk' := xn_g lk 0 (fun i => if i = 2 then some (5) else (fun i => if i = 1 then some (2) else (fun i => if i = 0 then some (1) else (fun _ => none) i) i) i) 5 0) (M' := xn_m (xn_fm M 0) 0) (fun z hz => ⟨xn_g_na (by omega) hz, xn_mc_na (by omega) hz (by rw [k5]; decide)⟩) ?_
  have lp : ∀ (fu j : Nat) (ad' : Nat → Nat), (∀ z, z ≤ 0 → ad' z = ad z) → j ≤ 9 → 9 - j < fu → xv_V X (xn_Y Y ad') 2 (5 + 30 * j) (187 + 174 * j) (xn_g lk 0 (fun i => if i = 2 then some (5) else (fun i => if i = 1 then some (2) else (fun i => if i = 0 then some (1) else (fun _ => none) i) i) i) 5 j) (6 + 30 * j) (xn_m (xn_fm M 0) 0) 37 [(0, .ref (ad' 0)), (1, .int (nI j))] [] := by
    intro fu
    induction fu with
    | zero => intro j ad' h' hj hm; exact absurd hm (Nat.not_lt_zero _)
    | succ fu ih =>
      intro j ad' h' hj hm
      have hX40 : xv_ok X (xn_Y Y ad') prog_1_method_1_code "CertificatePath" 2 (xn_rm 4 276 1759) := hX
      have hcj : xn_cl (xn_g lk 0 (fun i => if i = 2 then some (5) else (fun i => if i = 1 then some (2) else (fun i => if i = 0 then some (1) else (fun _ => none) i) i) i) 5 j) (6 + 30 * j) := xn_g_cl hcl (by omega) (by omega) (xn_rw (xn_rw (xn_rw (fun _ _ z => by cases z) (by omega)) (by omega)) (by omega)) (fun k t hk ht => by have := xs_l5 ht; omega) (fun z z1 z2 z3 k t ht => by
        by_cases e1 : z < 5
        · have := xs_in5 z (by omega) e1 k t ht; omega
        · exact xs_in6 j hj z (by omega) (by omega) k t ht)
      refine xv_iload_n hX40 1 dc_CP_init_37 rfl (rfl : _ = 38) ?_
      refine xv_aload_n hX40 0 dc_CP_init_38 rfl (rfl : _ = 39) ?_
      refine xv_getr hX40 fl_CP_25 rfl k0 (by omega) (v := 5) (by rw [xn_g_b]; rfl) dc_CP_init_39 (rfl : _ = 42) ?_
      refine xv_alen hX40 (n := 9) k5 ⟨_, rfl⟩ (by omega) dc_CP_init_42 (rfl : _ = 43) ?_
      refine xv_icmp_ge hX40 (nI_toInt (by omega)) (show (nI 9).toInt = 9 by decide) (tgt := 65) (pq := 46) dc_CP_init_43 (by decide) rfl (fun cj => ?_) (fun cj => ?_)
      · obtain rfl : j = 9 := by omega
        refine xn_sw (lk' := xn_g lk 0 (fun i => if i = 2 then some (5) else (fun i => if i = 1 then some (2) else (fun i => if i = 0 then some (1) else (fun _ => none) i) i) i) 0 0) (M' := xn_m (xn_fm M 0) 0) (fun z hz => ⟨xn_g_up (a := 5) (j := 9) (by omega) (fun k hk => by cases h5 : xn_lk 5 k with | none => rfl | some t => have := xs_l5 h5; omega), rfl⟩) ?_
        have hc4 : xn_cl (xn_g lk 0 (fun i => if i = 2 then some (5) else (fun i => if i = 1 then some (2) else (fun i => if i = 0 then some (1) else (fun _ => none) i) i) i) 0 0) (276) := xn_g_cl hcl (by omega) (by omega) (xn_rw (xn_rw (xn_rw (fun _ _ z => by cases z) (by omega)) (by omega)) (by omega)) (fun k t hk => absurd hk (Nat.not_lt_zero _)) (fun z z1 z2 z3 k t ht => by
          by_cases e1 : z < 5
          · have := xs_in5 z (by omega) e1 k t ht; omega
          · by_cases e2 : z = 5
            · rw [e2] at ht
              have := xs_l5 ht; omega
            · exact xs_in6 9 (by omega) z (by omega) (by omega) k t ht)
        refine xv_aload_n hX40 0 dc_CP_init_65 rfl (rfl : _ = 66) ?_
        refine xv_iconst hX40 (v := nI 0) dc_CP_init_66 (by decide) (rfl : _ = 67) ?_
        refine xv_puti hX40 fl_CP_30 rfl k0 (by omega) dc_CP_init_67 (rfl : _ = 70) ?_
        refine xn_sw (lk' := xn_g lk 0 (fun i => if i = 2 then some (5) else (fun i => if i = 1 then some (2) else (fun i => if i = 0 then some (1) else (fun _ => none) i) i) i) 0 0) (M' := xn_m (xn_fm M 0) 0) (fun z hz => ⟨rfl, xn_mz xn_m_eq⟩) ?_
        refine xv_aload_n hX40 0 dc_CP_init_70 rfl (rfl : _ = 71) ?_
        refine xv_bipush hX40 (v := nI 6) dc_CP_init_71 (by decide) (rfl : _ = 73) ?_
        refine xn_newi hX40 hA (N := 276) k6 (by decide) wn_ai hc4 ⟨by show _ ≤ 276; omega, by show _ ≤ 1759; omega⟩ dc_CP_init_73 (rfl : _ = 75) (fun ad41 h41 => ?_)
        first
        | rw [← h41 0 (by omega)]
        | rw [show (xn_Y Y ad').2.2.2 0 = ad41 0 from (h41 0 (by omega)).symm]
        have hX41 : xv_ok X (xn_Y Y ad41) prog_1_method_1_code "CertificatePath" 2 (xn_rm 4 276 1759) := hX
        refine xn_putr hX41 hin (q := 0) (ci := 0) (n := 6) (k := 4) (v := 276) (T := tk_CP) (tf := ty_CP) (ty := ty_CP 4) rfl (by decide) wi_CP to_CP tn_CP (xw_in 183 (by decide +kernel) rfl) rfl rfl (to_CP 4 (by decide)) rfl k0 (by omega) (fun _ => rfl) (fun _ => rfl) dc_CP_init_75 (rfl : _ = 78) ?_
        refine xn_sw (lk' := xn_g lk 0 (fun i => if i = 4 then some (276) else (fun i => if i = 2 then some (5) else (fun i => if i = 1 then some (2) else (fun i => if i = 0 then some (1) else (fun _ => none) i) i) i) i) 0 0) (M' := xn_m (xn_fm M 0) 0) (fun z hz => ⟨xn_g_ni (by omega) hz (xn_lk_i k6), xn_mc_na (by omega) hz (by rw [k6]; decide)⟩) ?_
        refine xv_aload_n hX41 0 dc_CP_init_78 rfl (rfl : _ = 79) ?_
        refine xv_iconst hX41 (v := nI 0) dc_CP_init_79 (by decide) (rfl : _ = 80) ?_
        refine xv_puti hX41 fl_CP_38 rfl k0 (by omega) dc_CP_init_80 (rfl : _ = 83) ?_
        refine xn_ret hX41 hR dc_CP_init_83 (fun z hz => ((h41 z (by omega)).trans (h' z hz))) (by omega) (by omega) (fun z hz => ?_)
        refine ⟨xn_g_fin ?_, (xn_mc_f (by rw [k0]; decide)).trans (xn_mz xn_m_eq)⟩
        rw [xn_lk_ob k0]
        funext k
        rcases k with _ | _ | _ | _ | _ | k <;> rfl
      · skip
        have hs1 := xs_cert (i := j) (by omega)
        refine xv_aload_n hX40 0 dc_CP_init_46 rfl (rfl : _ = 47) ?_
        refine xv_getr hX40 fl_CP_25 rfl k0 (by omega) (v := 5) (by rw [xn_g_b]; rfl) dc_CP_init_47 (rfl : _ = 50) ?_
        refine xv_iload_n hX40 1 dc_CP_init_50 rfl (rfl : _ = 51) ?_
        refine xn_new hX40 hA hs1.1 (C := "CertificatePath$Certificate") (T := tk_CT) (tf := ty_CT) rfl wi_CT to_CT wn_dv_CT wn_cl_CP_23 wn_in_CT wn_it_CT hcj ⟨by show _ ≤ 276; omega, by show _ ≤ 1759; omega⟩ dc_CP_init_51 (rfl : _ = 54) (fun ad41 h41 => ?_)
        first
        | rw [← h41 0 (by omega)]
        | rw [show (xn_Y Y ad').2.2.2 0 = ad41 0 from (h41 0 (by omega)).symm]
        first
        | rw [← h41 5 (by omega)]
        | rw [show (xn_Y Y ad').2.2.2 5 = ad41 5 from (h41 5 (by omega)).symm]
        have hX41 : xv_ok X (xn_Y Y ad41) prog_1_method_1_code "CertificatePath" 2 (xn_rm 4 276 1759) := hX
        refine xv_dup hX41 dc_CP_init_54 rfl (rfl : _ = 55) ?_
        refine xn_call hX41 hA hO (cn_CT _ Y ad41 _ _ (6 + 30 * j) hs1 (xn_cl_l0 hcj) xn_l_eq xn_m_eq) ml_CP_29 rfl rfl wn_im_CT (by decide) ⟨by decide, by decide⟩ ⟨by show _ ≤ 276; omega, by show _ ≤ 1759; omega⟩ (Nat.le_of_ble_eq_true rfl) dc_CP_init_55 (rfl : _ = 58) (fun ad42 h42 => ?_)
        first
        | rw [← h42 0 (by omega)]
        | rw [show (xn_Y Y ad41).2.2.2 0 = ad42 0 from (h42 0 (by omega)).symm]
        first
        | rw [← h42 (6 + 30 * j) (by omega)]
        | rw [show (xn_Y Y ad41).2.2.2 (6 + 30 * j) = ad42 (6 + 30 * j) from (h42 (6 + 30 * j) (by omega)).symm]
        first
        | rw [← h42 5 (by omega)]
        | rw [show (xn_Y Y ad41).2.2.2 5 = ad42 5 from (h42 5 (by omega)).symm]
        have hX42 : xv_ok X (xn_Y Y ad42) prog_1_method_1_code "CertificatePath" 2 (xn_rm 4 276 1759) := hX
        refine xn_aast hX42 (q := 5) (t := 2) (v := 6 + 30 * j) (ci := 6) (m := 16) k5 rfl (by omega) (by omega) (by decide) hs1.1 (by omega) rfl dc_CP_init_58 (rfl : _ = 59) ?_
        refine xv_iinc hX42 1 [1, 0] dc_CP_init_59 rfl (xi_inc j 1) (by decide) (L' := [(0, .ref (ad42 0)), (1, .int (nI (j + 1)))]) rfl (rfl : _ = 62) ?_
        refine xv_goto hX42 (pq := 37) dc_CP_init_62 (by decide) ?_
        refine xn_wd (k := 5 + 30 * (j + 1)) (n := 187 + 174 * (j + 1)) (by omega) (by omega) ?_
        refine xn_sw (lk' := xn_g lk 0 (fun i => if i = 2 then some (5) else (fun i => if i = 1 then some (2) else (fun i => if i = 0 then some (1) else (fun _ => none) i) i) i) 5 (j + 1)) (M' := xn_m (xn_fm M 0) 0) (fun z hz => ⟨(xn_g_step (by omega) (by omega) (by omega) (by rw [xn_lk_ar k5]; exact xk_l5 (by omega))).symm, (xn_mc_call (by omega)).symm⟩) ?_
        rw [show 6 + 30 * j + 30 = 6 + 30 * (j + 1) by omega]
        exact ih (j + 1) ad42 (fun z hz => ((h42 z (by omega)).trans ((h41 z (by omega)).trans (h' z hz)))) (by omega) (by omega)
  exact lp _ 0 ad3 (fun z hz => ((h3 z (by omega)).trans ((h2 z (by omega)).trans (h1 z (by omega))))) (Nat.zero_le _) (Nat.lt_succ_self _)

set_option maxRecDepth 100000 in
set_option maxHeartbeats 4000000 in
theorem cn_MD (l : Launch) (Y : xw_Y) (ad : Nat → Nat) (lk : xl_L) (M : xm_M)  (hcl : xn_cl lk 277) (hlb : lk 277 = fun _ => none) (hMb : M 277 = fun _ => 0) : xn_c l qm_MD_init 1 4 1458 Y ad lk (xn_fl lk 277) 277 (282) M (xn_fm M 277) := by
  refine xn_c.mk rfl (by decide) rfl (by decide) ?_
  intro X hXl hX hin hA hO hR
  subst hXl
  have hX0 : xv_ok X (xn_Y Y ad) prog_9_method_1_code "CertificatePathModel" 1 (xn_rm 1 4 1458) := hX
  have k0 : xw_K 277 = (0, 7, 43) := rfl
  show xv_V X (xn_Y Y ad) 1 0 0 lk (277 + 1) M 0 [(0, .ref (ad 277))] []
  refine xn_sw (lk' := xn_g lk 277 (fun _ => none) 277 0) (M' := xn_m (xn_fm M 277) 277) (fun z hz => ⟨xn_g_0 hz hlb, xn_mc_0 hz hMb⟩) ?_
  refine xv_aload_n hX0 0 dc_MD_init_0 rfl (rfl : _ = 1) ?_
  refine xn_obj hX0 wn_ob_MD ⟨by decide, by decide⟩ (Nat.le_of_ble_eq_true rfl) dc_MD_init_1 (rfl : _ = 4) wn_oi wn_oc ?_
  have k1 : xw_K 278 = (1, 0, 1440) := rfl
  have hc0 : xn_cl (xn_g lk 277 (fun _ => none) 277 0) (278) := xn_g_cl hcl (by omega) (by omega) (fun _ _ z => by cases z) (fun k t hk => absurd hk (Nat.not_lt_zero _)) (fun z z1 z2 => absurd z1 (by omega))
  refine xv_aload_n hX0 0 dc_MD_init_4 rfl (rfl : _ = 5) ?_
  refine xv_sipush hX0 (v := nI 1440) dc_MD_init_5 (by decide) (rfl : _ = 8) ?_
  refine xn_newi hX0 hA (N := 278) k1 (by decide) wn_ai hc0 ⟨by show _ ≤ 4; omega, by show _ ≤ 1458; omega⟩ dc_MD_init_8 (rfl : _ = 10) (fun ad1 h1 => ?_)
  first
  | rw [← h1 277 (by omega)]
  | rw [show (xn_Y Y ad).2.2.2 277 = ad1 277 from (h1 277 (by omega)).symm]
  have hX1 : xv_ok X (xn_Y Y ad1) prog_9_method_1_code "CertificatePathModel" 1 (xn_rm 1 4 1458) := hX
  refine xn_puto hX1 (q := 277) (v := 278) fl_MD_7 rfl k0 (by omega) (fun _ => rfl) (fun _ => rfl) dc_MD_init_10 (rfl : _ = 13) ?_
  refine xn_sw (lk' := xn_g lk 277 (fun i => if i = 0 then some (278) else (fun _ => none) i) 277 0) (M' := xn_m (xn_fm M 277) 277) (fun z hz => ⟨xn_g_ni (by omega) hz (xn_lk_i k1), xn_mc_na (by omega) hz (by rw [k1]; decide)⟩) ?_
  have k2 : xw_K 279 = (1, 0, 8) := rfl
  have hc1 : xn_cl (xn_g lk 277 (fun i => if i = 0 then some (278) else (fun _ => none) i) 277 0) (279) := xn_g_cl hcl (by omega) (by omega) (xn_rw (fun _ _ z => by cases z) (by omega)) (fun k t hk => absurd hk (Nat.not_lt_zero _)) (fun z z1 z2 z3 k t ht => by
    rcases (show z = 278 by omega) with rfl
    · rw [xn_lk_i k1] at ht; cases ht)
  refine xv_aload_n hX1 0 dc_MD_init_13 rfl (rfl : _ = 14) ?_
  refine xv_bipush hX1 (v := nI 8) dc_MD_init_14 (by decide) (rfl : _ = 16) ?_
  refine xn_newi hX1 hA (N := 279) k2 (by decide) wn_ai hc1 ⟨by show _ ≤ 4; omega, by show _ ≤ 1458; omega⟩ dc_MD_init_16 (rfl : _ = 18) (fun ad2 h2 => ?_)
  first
  | rw [← h2 277 (by omega)]
  | rw [show (xn_Y Y ad1).2.2.2 277 = ad2 277 from (h2 277 (by omega)).symm]
  have hX2 : xv_ok X (xn_Y Y ad2) prog_9_method_1_code "CertificatePathModel" 1 (xn_rm 1 4 1458) := hX
  refine xn_puto hX2 (q := 277) (v := 279) fl_MD_13 rfl k0 (by omega) (fun _ => rfl) (fun _ => rfl) dc_MD_init_18 (rfl : _ = 21) ?_
  refine xn_sw (lk' := xn_g lk 277 (fun i => if i = 3 then some (279) else (fun i => if i = 0 then some (278) else (fun _ => none) i) i) 277 0) (M' := xn_m (xn_fm M 277) 277) (fun z hz => ⟨xn_g_ni (by omega) hz (xn_lk_i k2), xn_mc_na (by omega) hz (by rw [k2]; decide)⟩) ?_
  have k3 : xw_K 280 = (1, 0, 6) := rfl
  have hc2 : xn_cl (xn_g lk 277 (fun i => if i = 3 then some (279) else (fun i => if i = 0 then some (278) else (fun _ => none) i) i) 277 0) (280) := xn_g_cl hcl (by omega) (by omega) (xn_rw (xn_rw (fun _ _ z => by cases z) (by omega)) (by omega)) (fun k t hk => absurd hk (Nat.not_lt_zero _)) (fun z z1 z2 z3 k t ht => by
    rcases (show z = 278 ∨ z = 279 by omega) with rfl | rfl
    · rw [xn_lk_i k1] at ht; cases ht
    · rw [xn_lk_i k2] at ht; cases ht)
  refine xv_aload_n hX2 0 dc_MD_init_21 rfl (rfl : _ = 22) ?_
  refine xv_bipush hX2 (v := nI 6) dc_MD_init_22 (by decide) (rfl : _ = 24) ?_
  refine xn_newi hX2 hA (N := 280) k3 (by decide) wn_ai hc2 ⟨by show _ ≤ 4; omega, by show _ ≤ 1458; omega⟩ dc_MD_init_24 (rfl : _ = 26) (fun ad3 h3 => ?_)
  first
  | rw [← h3 277 (by omega)]
  | rw [show (xn_Y Y ad2).2.2.2 277 = ad3 277 from (h3 277 (by omega)).symm]
  have hX3 : xv_ok X (xn_Y Y ad3) prog_9_method_1_code "CertificatePathModel" 1 (xn_rm 1 4 1458) := hX
  refine xn_puto hX3 (q := 277) (v := 280) fl_MD_16 rfl k0 (by omega) (fun _ => rfl) (fun _ => rfl) dc_MD_init_26 (rfl : _ = 29) ?_
  refine xn_sw (lk' := xn_g lk 277 (fun i => if i = 4 then some (280) else (fun i => if i = 3 then some (279) else (fun i => if i = 0 then some (278) else (fun _ => none) i) i) i) 277 0) (M' := xn_m (xn_fm M 277) 277) (fun z hz => ⟨xn_g_ni (by omega) hz (xn_lk_i k3), xn_mc_na (by omega) hz (by rw [k3]; decide)⟩) ?_
  have k4 : xw_K 281 = (1, 0, 4) := rfl
  have hc3 : xn_cl (xn_g lk 277 (fun i => if i = 4 then some (280) else (fun i => if i = 3 then some (279) else (fun i => if i = 0 then some (278) else (fun _ => none) i) i) i) 277 0) (281) := xn_g_cl hcl (by omega) (by omega) (xn_rw (xn_rw (xn_rw (fun _ _ z => by cases z) (by omega)) (by omega)) (by omega)) (fun k t hk => absurd hk (Nat.not_lt_zero _)) (fun z z1 z2 z3 k t ht => by
    rcases (show z = 278 ∨ z = 279 ∨ z = 280 by omega) with rfl | rfl | rfl
    · rw [xn_lk_i k1] at ht; cases ht
    · rw [xn_lk_i k2] at ht; cases ht
    · rw [xn_lk_i k3] at ht; cases ht)
  refine xv_aload_n hX3 0 dc_MD_init_29 rfl (rfl : _ = 30) ?_
  refine xv_iconst hX3 (v := nI 4) dc_MD_init_30 (by decide) (rfl : _ = 31) ?_
  refine xn_newi hX3 hA (N := 281) k4 (by decide) wn_ai hc3 ⟨by show _ ≤ 4; omega, by show _ ≤ 1458; omega⟩ dc_MD_init_31 (rfl : _ = 33) (fun ad4 h4 => ?_)
  first
  | rw [← h4 277 (by omega)]
  | rw [show (xn_Y Y ad3).2.2.2 277 = ad4 277 from (h4 277 (by omega)).symm]
  have hX4 : xv_ok X (xn_Y Y ad4) prog_9_method_1_code "CertificatePathModel" 1 (xn_rm 1 4 1458) := hX
  refine xn_puto hX4 (q := 277) (v := 281) fl_MD_19 rfl k0 (by omega) (fun _ => rfl) (fun _ => rfl) dc_MD_init_33 (rfl : _ = 36) ?_
  refine xn_sw (lk' := xn_g lk 277 (fun i => if i = 26 then some (281) else (fun i => if i = 4 then some (280) else (fun i => if i = 3 then some (279) else (fun i => if i = 0 then some (278) else (fun _ => none) i) i) i) i) 277 0) (M' := xn_m (xn_fm M 277) 277) (fun z hz => ⟨xn_g_ni (by omega) hz (xn_lk_i k4), xn_mc_na (by omega) hz (by rw [k4]; decide)⟩) ?_
  refine xn_ret hX4 hR dc_MD_init_36 (fun z hz => ((h4 z (by omega)).trans ((h3 z (by omega)).trans ((h2 z (by omega)).trans (h1 z (by omega)))))) (by omega) (by omega) (fun z hz => ?_)
  refine ⟨xn_g_fin ?_, xn_mc_f (by rw [k0]; decide)⟩
  rw [xn_lk_ob k0]
  funext k
  show (match k with | 0 => some 278 | 3 => some 279 | 4 => some 280 | 26 => some 281 | _ => none) = _
  split <;> simp_all
