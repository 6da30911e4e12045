/-! constructors: Name, Extension -/
set_option maxRecDepth 100000 in
set_option maxHeartbeats 4000000 in
theorem cn_NM (l : Launch) (Y : xw_Y) (ad : Nat → Nat) (lk : xl_L) (M : xm_M) (b : Nat) (hs : xs_nm b) (hcl : xn_cl lk b) (hlb : lk b = fun _ => none) (hMb : M b = fun _ => 0) : xn_c l qm_NM_init 1 1 4 Y ad lk (xn_fl lk b) b (b + 2) M (xn_fm M b) := by
  refine xn_c.mk rfl (by decide) rfl (by decide) ?_
  intro X hXl hX hin hA hO hR
  subst hXl
  have hX0 : xv_ok X (xn_Y Y ad) prog_5_method_1_code "CertificatePath$Name" 1 (xn_rm 1 1 4) := hX
  obtain ⟨k0, k1, k2, k3⟩ := id hs
  have hc0 := xn_cl_b hcl hlb
  show xv_V X (xn_Y Y ad) 1 0 0 lk (b + 1) M 0 [(0, .ref (ad b))] []
  refine xv_aload_n hX0 0 dc_NM_init_0 rfl (rfl : _ = 1) ?_
  refine xn_obj hX0 wn_ob_NM ⟨by decide, by decide⟩ (Nat.le_of_ble_eq_true rfl) dc_NM_init_1 (rfl : _ = 4) wn_oi wn_oc ?_
  refine xv_aload_n hX0 0 dc_NM_init_4 rfl (rfl : _ = 5) ?_
  refine xv_iconst hX0 (v := nI 4) dc_NM_init_5 (by decide) (rfl : _ = 6) ?_
  refine xn_newl hX0 hA k1 (by decide) wn_al hc0 ⟨by show _ ≤ 1; omega, by show _ ≤ 4; omega⟩ dc_NM_init_6 (rfl : _ = 8) (fun ad1 h1 => ?_)
  first
  | rw [← h1 b (by omega)]
  | rw [show (xn_Y Y ad).2.2.2 b = ad1 b from (h1 b (by omega)).symm]
  have hX1 : xv_ok X (xn_Y Y ad1) prog_5_method_1_code "CertificatePath$Name" 1 (xn_rm 1 1 4) := hX
  refine xn_putr hX1 hin (q := b) (ci := 3) (n := 2) (k := 0) (v := b + 1) (T := tk_NM) (tf := ty_NM) (ty := ty_NM 0) rfl (by decide) wi_NM to_NM tn_NM (xw_in 72 (by decide +kernel) rfl) rfl rfl (to_NM 0 (by decide)) rfl k0 (by omega) (fun _ => rfl) (fun _ => rfl) dc_NM_init_8 (rfl : _ = 11) ?_
  refine xv_aload_n hX1 0 dc_NM_init_11 rfl (rfl : _ = 12) ?_
  refine xv_iconst hX1 (v := nI 0) dc_NM_init_12 (by decide) (rfl : _ = 13) ?_
  refine xv_puti hX1 fl_NM_15 rfl k0 (by omega) dc_NM_init_13 (rfl : _ = 16) ?_
  refine xn_ret hX1 hR dc_NM_init_16 (fun z hz => (h1 z (by omega))) (by omega) (by omega) (fun z hz => ?_)
  rcases (show z < b ∨ z = b ∨ z = b + 1 by omega) with h | rfl | rfl
  · exact ⟨by rw [xn_fl_lt h, xl_oth (by omega), xn_l_ne (by omega)], by rw [xn_fm_lt h, xm_oth (by omega), xn_m_ne (by omega)]⟩
  · refine ⟨?_, ?_⟩
    · rw [xn_fl_ge (Nat.le_refl _), xl_row, xn_l_ne (by omega), hlb, k2]
    · rw [xn_fm_ge (Nat.le_refl _), xn_d0 (by rw [k0]; decide)]
      funext j
      simp only [xm_set, xn_m, hMb]
      (repeat' split) <;> first | rfl | omega
  · refine ⟨?_, ?_⟩
    · rw [xn_fl_ge (by omega), xl_oth (by omega), xn_l_eq, k3]
    · rw [xn_fm_ge (by omega), xn_d0 (by rw [k1]; decide), xm_oth (by omega), xn_m_eq]

set_option maxRecDepth 100000 in
set_option maxHeartbeats 4000000 in
theorem cn_EX (l : Launch) (Y : xw_Y) (ad : Nat → Nat) (lk : xl_L) (M : xm_M) (b : Nat) (hs : xs_ex b) (hcl : xn_cl lk b) (hlb : lk b = fun _ => none) (hMb : M b = fun _ => 0) : xn_c l qm_EX_init 1 1 20 Y ad lk (xn_fl lk b) b (b + 2) M (xn_fm M b) := by
  refine xn_c.mk rfl (by decide) rfl (by decide) ?_
  intro X hXl hX hin hA hO hR
  subst hXl
  have hX0 : xv_ok X (xn_Y Y ad) prog_4_method_1_code "CertificatePath$Extension" 1 (xn_rm 1 1 20) := hX
  obtain ⟨k0, k1, k2, k3⟩ := id hs
  have hc0 := xn_cl_b hcl hlb
  show xv_V X (xn_Y Y ad) 1 0 0 lk (b + 1) M 0 [(0, .ref (ad b))] []
  refine xv_aload_n hX0 0 dc_EX_init_0 rfl (rfl : _ = 1) ?_
  refine xn_obj hX0 wn_ob_EX ⟨by decide, by decide⟩ (Nat.le_of_ble_eq_true rfl) dc_EX_init_1 (rfl : _ = 4) wn_oi wn_oc ?_
  refine xv_aload_n hX0 0 dc_EX_init_4 rfl (rfl : _ = 5) ?_
  refine xv_iconst hX0 (v := nI 0) dc_EX_init_5 (by decide) (rfl : _ = 6) ?_
  refine xv_puti hX0 fl_EX_9 rfl k0 (by omega) dc_EX_init_6 (rfl : _ = 9) ?_
  refine xv_aload_n hX0 0 dc_EX_init_9 rfl (rfl : _ = 10) ?_
  refine xv_iconst hX0 (v := nI 0) dc_EX_init_10 (by decide) (rfl : _ = 11) ?_
  refine xv_putz hX0 fl_EX_15 rfl k0 (by omega) (by decide) dc_EX_init_11 (rfl : _ = 14) ?_
  refine xv_aload_n hX0 0 dc_EX_init_14 rfl (rfl : _ = 15) ?_
  refine xv_bipush hX0 (v := nI 20) dc_EX_init_15 (by decide) (rfl : _ = 17) ?_
  refine xn_newi hX0 hA k1 (by decide) wn_ai hc0 ⟨by show _ ≤ 1; omega, by show _ ≤ 20; omega⟩ dc_EX_init_17 (rfl : _ = 19) (fun ad1 h1 => ?_)
  first
  | rw [← h1 b (by omega)]
  | rw [show (xn_Y Y ad).2.2.2 b = ad1 b from (h1 b (by omega)).symm]
  have hX1 : xv_ok X (xn_Y Y ad1) prog_4_method_1_code "CertificatePath$Extension" 1 (xn_rm 1 1 20) := hX
  refine xn_putr hX1 hin (q := b) (ci := 5) (n := 4) (k := 2) (v := b + 1) (T := tk_EX) (tf := ty_EX) (ty := ty_EX 2) rfl (by decide) wi_EX to_EX tn_EX (xw_in 92 (by decide +kernel) rfl) rfl rfl (to_EX 2 (by decide)) rfl k0 (by omega) (fun _ => rfl) (fun _ => rfl) dc_EX_init_19 (rfl : _ = 22) ?_
  refine xv_aload_n hX1 0 dc_EX_init_22 rfl (rfl : _ = 23) ?_
  refine xv_iconst hX1 (v := nI 0) dc_EX_init_23 (by decide) (rfl : _ = 24) ?_
  refine xv_puti hX1 fl_EX_23 rfl k0 (by omega) dc_EX_init_24 (rfl : _ = 27) ?_
  refine xn_ret hX1 hR dc_EX_init_27 (fun z hz => (h1 z (by omega))) (by omega) (by omega) (fun z hz => ?_)
  rcases (show z < b ∨ z = b ∨ z = b + 1 by omega) with h | rfl | rfl
  · exact ⟨by rw [xn_fl_lt h, xl_oth (by omega), xn_l_ne (by omega)], by rw [xn_fm_lt h, xm_oth (by omega), xn_m_ne (by omega), xm_oth (by omega), xm_oth (by omega)]⟩
  · refine ⟨?_, ?_⟩
    · rw [xn_fl_ge (Nat.le_refl _), xl_row, xn_l_ne (by omega), hlb, k2]
    · rw [xn_fm_ge (Nat.le_refl _), xn_d0 (by rw [k0]; decide)]
      funext j
      simp only [xm_set, xn_m, hMb]
      (repeat' split) <;> first | rfl | omega | (simp only [xm_set, hMb]; (repeat' split) <;> first | rfl | omega)
  · refine ⟨?_, ?_⟩
    · rw [xn_fl_ge (by omega), xl_oth (by omega), xn_l_eq, k3]
    · rw [xn_fm_ge (by omega), xn_d0 (by rw [k1]; decide), xm_oth (by omega), xn_m_eq]
