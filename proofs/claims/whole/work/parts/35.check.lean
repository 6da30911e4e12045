/-! Certificate: what check asks -/
set_option maxRecDepth 100000 in
set_option maxHeartbeats 4000000 in
theorem ct_CT_isSelfIssued (l : Launch) (Y : xw_Y) (M : xm_M) (c : Nat) (hc : xk_ct c) (hK : ct_K M c) : xc_i l qm_CT_isSelfIssued 2 Y [.ref (Y.2.2.2 c)] M (fun r M1 => M1 = M ∧ ∃ t : Nat, r = nI t ∧ t < 2 ∧ (t = 1 ↔ ck_same M (c + 1) (c + 3))) := by
  refine xc_i.mk .boolean rfl (by decide) (Nat.le_of_ble_eq_true rfl) ?_
  intro X hXl hX hR
  subst hXl
  have hX : xv_ok X Y prog_3_method_4_code "CertificatePath$Certificate" 1 (xc_rm 2) := hX
  show xv_V X Y 1 0 0 xw_lk xw_N M 0 [(0, .ref (Y.2.2.2 c))] []
  have hc6 : 6 ≤ c := hc.2.2.2.2.2.2.1
  have hc29 : c + 29 < 276 := hc.2.2.2.2.2.2.2
  obtain ⟨k7, ⟨k5a, k5b⟩, ⟨k6a, k6b⟩, k8, ⟨k2, k3⟩, k10, kx, k11, k12, k13, ⟨kn1, kn3⟩, ⟨kp1, kp2⟩, ⟨ke1, ke2⟩⟩ := id hK
  refine xv_aload_n hX 0 dc_CT_isSelfIssued_0 rfl (rfl : _ = 1) ?_
  refine xv_getr hX fl_CT_12 rfl hc.1 (xk_N (by omega)) hc.2.1.1 dc_CT_isSelfIssued_1 (rfl : _ = 4) ?_
  refine xv_aload_n hX 0 dc_CT_isSelfIssued_4 rfl (rfl : _ = 5) ?_
  refine xv_getr hX fl_CT_18 rfl hc.1 (xk_N (by omega)) hc.2.2.1.1 dc_CT_isSelfIssued_5 (rfl : _ = 8) ?_
  refine xv_calli hX (As := [.ref (Y.2.2.2 (c + 3))]) (rest := []) (ct_NM_isSameAs _ Y M (c + 1) (c + 3) hc.2.1.2 hc.2.2.1.2 kn1.1 kn3.1 kn1.2 kn3.2) ml_CT_80 li_NM_isSameAs hc.2.1.2.1 (xk_N (Nat.lt_of_succ_lt hc.2.1.2.2.2.2.2)) rfl rfl rfl (by decide) ⟨by decide, by decide⟩ ⟨Nat.le_refl _, Nat.le_refl _⟩ (Nat.le_of_ble_eq_true rfl) dc_CT_isSelfIssued_8 (rfl : _ = 11) (fun r8 M8 p8 => ?_)
  obtain ⟨pMa, ta, pra, pta, pia⟩ := p8
  rw [pMa, pra]
  refine xv_reti hX hR (xi_z (by omega)) dc_CT_isSelfIssued_11 ?_
  exact ⟨rfl, ta, rfl, pta, pia⟩

set_option maxRecDepth 100000 in
set_option maxHeartbeats 4000000 in
theorem ct_CT_isSignedBy (l : Launch) (Y : xw_Y) (M : xm_M) (c : Nat) (hc : xk_ct c) (hK : ct_K M c) (m e : Nat) (hm : 2 ≤ m) (hm2 : m < 2147483648) (he : 1 ≤ e) (he2 : e ≤ 1000) : xc_i l qm_CT_isSignedBy 0 Y [.ref (Y.2.2.2 c), .int (nI m), .int (nI e)] M (fun r M1 => M1 = M ∧ ∃ t : Nat, r = nI t ∧ t < 2 ∧ (t = 1 ↔ ck_sig (M c 7) (M c 8) m e)) := by
  refine xc_i.mk .boolean rfl (by decide) (Nat.le_of_ble_eq_true rfl) ?_
  intro X hXl hX hR
  subst hXl
  have hX : xv_ok X Y prog_3_method_5_code "CertificatePath$Certificate" 8 (xc_rm 0) := hX
  show xv_V X Y 8 0 0 xw_lk xw_N M 0 [(0, .ref (Y.2.2.2 c)), (1, .int (nI m)), (2, .int (nI e))] []
  have hc6 : 6 ≤ c := hc.2.2.2.2.2.2.1
  have hc29 : c + 29 < 276 := hc.2.2.2.2.2.2.2
  obtain ⟨k7, ⟨k5a, k5b⟩, ⟨k6a, k6b⟩, k8, ⟨k2, k3⟩, k10, kx, k11, k12, k13, ⟨kn1, kn3⟩, ⟨kp1, kp2⟩, ⟨ke1, ke2⟩⟩ := id hK
  refine xv_iload_n hX 1 dc_CT_isSignedBy_0 rfl (rfl : _ = 1) ?_
  refine xv_iconst hX (v := nI 2) dc_CT_isSignedBy_1 (by decide) (rfl : _ = 2) ?_
  refine xv_icmp_lt hX (nI_toInt (by omega)) (show (nI 2).toInt = 2 by decide) (tgt := 13) (pq := 5) dc_CT_isSignedBy_2 (by decide) rfl (fun c2 => ?_) (fun c2 => ?_)
  · exact absurd c2 (by omega)
  · skip
    refine xv_aload_n hX 0 dc_CT_isSignedBy_5 rfl (rfl : _ = 6) ?_
    refine xv_geti hX fl_CT_73 rfl hc.1 (xk_N (by omega)) (v := M c 7) rfl dc_CT_isSignedBy_6 (rfl : _ = 9) ?_
    refine xv_iload_n hX 1 dc_CT_isSignedBy_9 rfl (rfl : _ = 10) ?_
    refine xv_icmp_lt hX (nI_toInt (by omega)) (nI_toInt (by omega)) (tgt := 15) (pq := 13) dc_CT_isSignedBy_10 (by decide) rfl (fun c10 => ?_) (fun c10 => ?_)
    · skip
      have hs : M c 7 < m := by omega
      refine xv_lconst hX (v := lN 1) dc_CT_isSignedBy_15 rfl (rfl : _ = 16) ?_
      refine xv_lstore_n hX [1, 2, 3, 0] dc_CT_isSignedBy_16 (by decide) (L' := [(0, .ref (Y.2.2.2 c)), (1, .int (nI m)), (2, .int (nI e)), (3, .long (lN 1))]) rfl (rfl : _ = 17) ?_
      refine xv_aload_n hX 0 dc_CT_isSignedBy_17 rfl (rfl : _ = 18) ?_
      refine xv_geti hX fl_CT_73 rfl hc.1 (xk_N (by omega)) (v := M c 7) rfl dc_CT_isSignedBy_18 (rfl : _ = 21) ?_
      refine xv_i2l hX dc_CT_isSignedBy_21 (nI_l (by omega)) (rfl : _ = 22) ?_
      refine xv_lstore hX [1, 2, 3, 4, 0] dc_CT_isSignedBy_22 (by decide) (L' := [(0, .ref (Y.2.2.2 c)), (1, .int (nI m)), (2, .int (nI e)), (3, .long (lN 1)), (5, .long (lN (M c 7)))]) rfl (rfl : _ = 24) ?_
      refine xv_iload_n hX 2 dc_CT_isSignedBy_24 rfl (rfl : _ = 25) ?_
      refine xv_istore hX [1, 2, 3, 4, 5, 0] dc_CT_isSignedBy_25 (by decide) (L' := [(0, .ref (Y.2.2.2 c)), (1, .int (nI m)), (2, .int (nI e)), (3, .long (lN 1)), (5, .long (lN (M c 7))), (7, .int (nI e))]) rfl (rfl : _ = 27) ?_
      have lp27 : ∀ (n : Nat) (p : Nat) (q : Nat) (x : Nat) (hp : p < m) (hq : q < m) (hx : x ≤ 1000) (hI : p * q ^ x % m = M c 7 ^ e % m), x < n → xv_V X Y 8 0 0 xw_lk xw_N M 27 [(0, .ref (Y.2.2.2 c)), (1, .int (nI m)), (2, .int (nI e)), (3, .long (lN p)), (5, .long (lN q)), (7, .int (nI x))] [] := by
        intro n27
        induction n27 with
        | zero => intro p q x hp hq hx hI hm27; exact absurd hm27 (Nat.not_lt_zero _)
        | succ n27 ih27 =>
          intro p q x hp hq hx hI hm27
          refine xv_iload hX 5 dc_CT_isSignedBy_27 rfl (rfl : _ = 29) ?_
          refine xv_if_le hX (nI_toInt (by omega)) (tgt := 67) (pq := 32) dc_CT_isSignedBy_29 (by decide) rfl (fun c29 => ?_) (fun c29 => ?_)
          · skip
            refine xv_lload_n hX 3 dc_CT_isSignedBy_67 rfl (rfl : _ = 68) ?_
            refine xv_aload_n hX 0 dc_CT_isSignedBy_68 rfl (rfl : _ = 69) ?_
            refine xv_geti hX fl_CT_76 rfl hc.1 (xk_N (by omega)) (v := M c 8) rfl dc_CT_isSignedBy_69 (rfl : _ = 72) ?_
            refine xv_iload_n hX 1 dc_CT_isSignedBy_72 rfl (rfl : _ = 73) ?_
            refine xv_irem hX dc_CT_isSignedBy_73 (xi_ge0 (by omega) hm2) (pk_rem (by omega) (by omega) (by omega)) (rfl : _ = 74) ?_
            have hhm := Nat.mod_lt (M c 8) (show 0 < m by omega)
            refine xv_i2l hX dc_CT_isSignedBy_74 (nI_l (by omega)) (rfl : _ = 75) ?_
            have hx0 : x = 0 := by omega
            rw [hx0, Nat.pow_zero, Nat.mul_one, Nat.mod_eq_of_lt hp] at hI
            refine xv_lcmp hX dc_CT_isSignedBy_75 (rfl : _ = 76) ?_
            refine xv_if_ne hX (rfl : (lg_cmp (lN p) (lN (M c 8 % m))).toInt = _) (tgt := 83) (pq := 79) dc_CT_isSignedBy_76 (by decide) rfl (fun c76 => ?_) (fun c76 => ?_)
            · skip
              have c76 : p ≠ M c 8 % m := fun h => c76 ((xi_lcmp (by omega) (by omega)).mpr h)
              refine xv_iconst hX (v := nI 0) dc_CT_isSignedBy_83 (by decide) (rfl : _ = 84) ?_
              refine xv_reti hX hR (by decide) dc_CT_isSignedBy_84 ?_
              exact ⟨rfl, 0, rfl, by decide, by simp, fun z => absurd (hI.trans z.2) c76⟩
            · skip
              have c76 : p = M c 8 % m := (xi_lcmp (by omega) (by omega)).mp c76
              refine xv_iconst hX (v := nI 1) dc_CT_isSignedBy_79 (by decide) (rfl : _ = 80) ?_
              refine xv_goto hX (pq := 84) dc_CT_isSignedBy_80 (by decide) ?_
              refine xv_reti hX hR (by decide) dc_CT_isSignedBy_84 ?_
              exact ⟨rfl, 1, rfl, by decide, fun _ => ⟨hs, by rw [← hI]; exact c76⟩, fun _ => rfl⟩
          · skip
            refine xv_iload hX 5 dc_CT_isSignedBy_32 rfl (rfl : _ = 34) ?_
            refine xv_iconst hX (v := nI 1) dc_CT_isSignedBy_34 (by decide) (rfl : _ = 35) ?_
            refine xv_iand hX dc_CT_isSignedBy_35 (xi_and1 (by omega)) (rfl : _ = 36) ?_
            refine xv_iconst hX (v := nI 1) dc_CT_isSignedBy_36 (by decide) (rfl : _ = 37) ?_
            refine xv_icmp_ne hX (nI_toInt (by omega)) (show (nI 1).toInt = 1 by decide) (tgt := 48) (pq := 40) dc_CT_isSignedBy_37 (by decide) rfl (fun c37 => ?_) (fun c37 => ?_)
            · skip
              refine xv_lload hX 4 dc_CT_isSignedBy_48 rfl (rfl : _ = 50) ?_
              refine xv_lload hX 4 dc_CT_isSignedBy_50 rfl (rfl : _ = 52) ?_
              refine xv_lmul hX dc_CT_isSignedBy_52 (lN_mul _ _) (rfl : _ = 53) ?_
              refine xv_iload_n hX 1 dc_CT_isSignedBy_53 rfl (rfl : _ = 54) ?_
              refine xv_i2l hX dc_CT_isSignedBy_54 (nI_l (by omega)) (rfl : _ = 55) ?_
              refine xv_lrem hX dc_CT_isSignedBy_55 (xi_lne0 (by omega) hm2) (pk_lRem (ck_mul (by omega) (by omega)) (by omega) (by omega)) (rfl : _ = 56) ?_
              refine xv_lstore hX [1, 2, 3, 4, 0, 5] dc_CT_isSignedBy_56 (by decide) (L' := [(0, .ref (Y.2.2.2 c)), (1, .int (nI m)), (2, .int (nI e)), (3, .long (lN p)), (5, .long (lN (q * q % m))), (7, .int (nI x))]) rfl (rfl : _ = 58) ?_
              refine xv_iload hX 5 dc_CT_isSignedBy_58 rfl (rfl : _ = 60) ?_
              refine xv_iconst hX (v := nI 1) dc_CT_isSignedBy_60 (by decide) (rfl : _ = 61) ?_
              refine xv_ishr hX dc_CT_isSignedBy_61 (xi_shr1 (by omega)) (rfl : _ = 62) ?_
              refine xv_istore hX [1, 2, 3, 4, 5, 0] dc_CT_isSignedBy_62 (by decide) (L' := [(0, .ref (Y.2.2.2 c)), (1, .int (nI m)), (2, .int (nI e)), (3, .long (lN p)), (5, .long (lN (q * q % m))), (7, .int (nI (x / 2)))]) rfl (rfl : _ = 64) ?_
              refine xv_goto hX (pq := 27) dc_CT_isSignedBy_64 (by decide) ?_
              refine xv_sub (L' := [(0, .ref (Y.2.2.2 c)), (1, .int (nI m)), (2, .int (nI e)), (3, .long (lN p)), (5, .long (lN (q * q % m))), (7, .int (nI (x / 2)))]) [0, 1, 2, 3, 4, 5] rfl ?_
              exact ih27 p (q * q % m) (x / 2) hp (Nat.mod_lt _ (by omega)) (by omega) (ck_pow0 hI (by omega)) (by omega)
            · skip
              refine xv_lload_n hX 3 dc_CT_isSignedBy_40 rfl (rfl : _ = 41) ?_
              refine xv_lload hX 4 dc_CT_isSignedBy_41 rfl (rfl : _ = 43) ?_
              refine xv_lmul hX dc_CT_isSignedBy_43 (lN_mul _ _) (rfl : _ = 44) ?_
              refine xv_iload_n hX 1 dc_CT_isSignedBy_44 rfl (rfl : _ = 45) ?_
              refine xv_i2l hX dc_CT_isSignedBy_45 (nI_l (by omega)) (rfl : _ = 46) ?_
              refine xv_lrem hX dc_CT_isSignedBy_46 (xi_lne0 (by omega) hm2) (pk_lRem (ck_mul (by omega) (by omega)) (by omega) (by omega)) (rfl : _ = 47) ?_
              refine xv_lstore_n hX [1, 2, 3, 0, 4, 5] dc_CT_isSignedBy_47 (by decide) (L' := [(0, .ref (Y.2.2.2 c)), (1, .int (nI m)), (2, .int (nI e)), (3, .long (lN (p * q % m))), (5, .long (lN q)), (7, .int (nI x))]) rfl (rfl : _ = 48) ?_
              refine xv_lload hX 4 dc_CT_isSignedBy_48 rfl (rfl : _ = 50) ?_
              refine xv_lload hX 4 dc_CT_isSignedBy_50 rfl (rfl : _ = 52) ?_
              refine xv_lmul hX dc_CT_isSignedBy_52 (lN_mul _ _) (rfl : _ = 53) ?_
              refine xv_iload_n hX 1 dc_CT_isSignedBy_53 rfl (rfl : _ = 54) ?_
              refine xv_i2l hX dc_CT_isSignedBy_54 (nI_l (by omega)) (rfl : _ = 55) ?_
              refine xv_lrem hX dc_CT_isSignedBy_55 (xi_lne0 (by omega) hm2) (pk_lRem (ck_mul (by omega) (by omega)) (by omega) (by omega)) (rfl : _ = 56) ?_
              refine xv_lstore hX [1, 2, 3, 4, 0, 5] dc_CT_isSignedBy_56 (by decide) (L' := [(0, .ref (Y.2.2.2 c)), (1, .int (nI m)), (2, .int (nI e)), (3, .long (lN (p * q % m))), (5, .long (lN (q * q % m))), (7, .int (nI x))]) rfl (rfl : _ = 58) ?_
              refine xv_iload hX 5 dc_CT_isSignedBy_58 rfl (rfl : _ = 60) ?_
              refine xv_iconst hX (v := nI 1) dc_CT_isSignedBy_60 (by decide) (rfl : _ = 61) ?_
              refine xv_ishr hX dc_CT_isSignedBy_61 (xi_shr1 (by omega)) (rfl : _ = 62) ?_
              refine xv_istore hX [1, 2, 3, 4, 5, 0] dc_CT_isSignedBy_62 (by decide) (L' := [(0, .ref (Y.2.2.2 c)), (1, .int (nI m)), (2, .int (nI e)), (3, .long (lN (p * q % m))), (5, .long (lN (q * q % m))), (7, .int (nI (x / 2)))]) rfl (rfl : _ = 64) ?_
              refine xv_goto hX (pq := 27) dc_CT_isSignedBy_64 (by decide) ?_
              refine xv_sub (L' := [(0, .ref (Y.2.2.2 c)), (1, .int (nI m)), (2, .int (nI e)), (3, .long (lN (p * q % m))), (5, .long (lN (q * q % m))), (7, .int (nI (x / 2)))]) [0, 1, 2, 3, 4, 5] rfl ?_
              exact ih27 (p * q % m) (q * q % m) (x / 2) (Nat.mod_lt _ (by omega)) (Nat.mod_lt _ (by omega)) (by omega) (ck_pow hI (by omega)) (by omega)
      refine xv_sub (L' := [(0, .ref (Y.2.2.2 c)), (1, .int (nI m)), (2, .int (nI e)), (3, .long (lN 1)), (5, .long (lN (M c 7))), (7, .int (nI e))]) [0, 1, 2, 3, 4, 5] rfl ?_
      exact lp27 _ 1 (M c 7) e (by omega) hs he2 (by rw [Nat.one_mul]) (Nat.lt_succ_self _)
    · skip
      refine xv_iconst hX (v := nI 0) dc_CT_isSignedBy_13 (by decide) (rfl : _ = 14) ?_
      refine xv_reti hX hR (by decide) dc_CT_isSignedBy_14 ?_
      exact ⟨rfl, 0, rfl, by decide, by simp, fun z => absurd z.1 (by omega)⟩

set_option maxRecDepth 100000 in
set_option maxHeartbeats 4000000 in
theorem ct_CT_hasUnknownCritical (l : Launch) (Y : xw_Y) (M : xm_M) (c : Nat) (hc : xk_ct c) (hK : ct_K M c) : xc_i l qm_CT_hasUnknownCritical 1 Y [.ref (Y.2.2.2 c)] M (fun r M1 => M1 = M ∧ ∃ t : Nat, r = nI t ∧ t < 2 ∧ (t = 1 ↔ ck_cr M c)) := by
  refine xc_i.mk .boolean rfl (by decide) (Nat.le_of_ble_eq_true rfl) ?_
  intro X hXl hX hR
  subst hXl
  have hX : xv_ok X Y prog_3_method_6_code "CertificatePath$Certificate" 2 (xc_rm 1) := hX
  show xv_V X Y 2 0 0 xw_lk xw_N M 0 [(0, .ref (Y.2.2.2 c))] []
  have hc6 : 6 ≤ c := hc.2.2.2.2.2.2.1
  have hc29 : c + 29 < 276 := hc.2.2.2.2.2.2.2
  obtain ⟨k7, ⟨k5a, k5b⟩, ⟨k6a, k6b⟩, k8, ⟨k2, k3⟩, k10, kx, k11, k12, k13, ⟨kn1, kn3⟩, ⟨kp1, kp2⟩, ⟨ke1, ke2⟩⟩ := id hK
  refine xv_iconst hX (v := nI 0) dc_CT_hasUnknownCritical_0 (by decide) (rfl : _ = 1) ?_
  refine xv_istore_n hX [1, 0] dc_CT_hasUnknownCritical_1 (by decide) (L' := [(0, .ref (Y.2.2.2 c)), (1, .int (nI 0))]) rfl (rfl : _ = 2) ?_
  have lp2 : ∀ (n : Nat) (k : Nat) (hk : k ≤ M c 10) (hno : ∀ j, j < k → ¬ (M (c + 6 + 2 * j) 1 = 1 ∧ ¬ (M (c + 6 + 2 * j) 0 = 1 ∨ M (c + 6 + 2 * j) 0 = 2 ∨ M (c + 6 + 2 * j) 0 = 3))), M c 10 - k < n → xv_V X Y 2 0 0 xw_lk xw_N M 2 [(0, .ref (Y.2.2.2 c)), (1, .int (nI k))] [] := by
    intro n2
    induction n2 with
    | zero => intro k hk hno hm2; exact absurd hm2 (Nat.not_lt_zero _)
    | succ n2 ih2 =>
      intro k hk hno hm2
      refine xv_iload_n hX 1 dc_CT_hasUnknownCritical_2 rfl (rfl : _ = 3) ?_
      refine xv_aload_n hX 0 dc_CT_hasUnknownCritical_3 rfl (rfl : _ = 4) ?_
      refine xv_geti hX fl_CT_41 rfl hc.1 (xk_N (by omega)) (v := M c 10) rfl dc_CT_hasUnknownCritical_4 (rfl : _ = 7) ?_
      refine xv_icmp_ge hX (nI_toInt (by omega)) (nI_toInt (by omega)) (tgt := 42) (pq := 10) dc_CT_hasUnknownCritical_7 (by decide) rfl (fun c7 => ?_) (fun c7 => ?_)
      · skip
        refine xv_iconst hX (v := nI 0) dc_CT_hasUnknownCritical_42 (by decide) (rfl : _ = 43) ?_
        refine xv_reti hX hR (by decide) dc_CT_hasUnknownCritical_43 ?_
        exact ⟨rfl, 0, rfl, by decide, by simp, fun ⟨j, hj, hw⟩ => absurd hw (hno j (by omega))⟩
      · skip
        have hk2 := kx k (by omega)
        refine xv_aload_n hX 0 dc_CT_hasUnknownCritical_10 rfl (rfl : _ = 11) ?_
        refine xv_getr hX fl_CT_23 rfl hc.1 (xk_N (by omega)) hc.2.2.2.1.1 dc_CT_hasUnknownCritical_11 (rfl : _ = 14) ?_
        refine xv_iload_n hX 1 dc_CT_hasUnknownCritical_14 rfl (rfl : _ = 15) ?_
        refine xv_aald hX hc.2.2.2.1.2.1 (C := xw_A4) rfl (xk_N (by omega)) (by omega) (by decide) (v := c + 6 + 2 * k) ((hc.2.2.2.1.2.2 _ (by omega)).1) dc_CT_hasUnknownCritical_15 (rfl : _ = 16) ?_
        refine xv_geti hX fl_CT_84 rfl (hc.2.2.2.1.2.2 _ (by omega)).2.1 (xk_N (by omega)) (v := M (c + 6 + 2 * k) 1) rfl dc_CT_hasUnknownCritical_16 (rfl : _ = 19) ?_
        refine xv_if_eq hX (nI_toInt (by omega)) (tgt := 36) (pq := 22) dc_CT_hasUnknownCritical_19 (by decide) rfl (fun c19 => ?_) (fun c19 => ?_)
        · skip
          refine xv_iinc hX 1 [1, 0] dc_CT_hasUnknownCritical_36 rfl (xi_inc k 1) (by decide) (L' := [(0, .ref (Y.2.2.2 c)), (1, .int (nI (k + 1)))]) rfl (rfl : _ = 39) ?_
          refine xv_goto hX (pq := 2) dc_CT_hasUnknownCritical_39 (by decide) ?_
          refine xv_sub (L' := [(0, .ref (Y.2.2.2 c)), (1, .int (nI (k + 1)))]) [0, 1] rfl ?_
          exact ih2 (k + 1) (by omega) (fun j hj => by rcases Nat.lt_or_eq_of_le (Nat.le_of_lt_succ hj) with h | h; exact hno j h; rw [h]; first | omega | (intro z; exact z.2 (pia.mp (by omega)))) (by omega)
        · skip
          refine xv_aload_n hX 0 dc_CT_hasUnknownCritical_22 rfl (rfl : _ = 23) ?_
          refine xv_getr hX fl_CT_23 rfl hc.1 (xk_N (by omega)) hc.2.2.2.1.1 dc_CT_hasUnknownCritical_23 (rfl : _ = 26) ?_
          refine xv_iload_n hX 1 dc_CT_hasUnknownCritical_26 rfl (rfl : _ = 27) ?_
          refine xv_aald hX hc.2.2.2.1.2.1 (C := xw_A4) rfl (xk_N (by omega)) (by omega) (by decide) (v := c + 6 + 2 * k) ((hc.2.2.2.1.2.2 _ (by omega)).1) dc_CT_hasUnknownCritical_27 (rfl : _ = 28) ?_
          refine xv_calli hX (As := []) (rest := []) (ct_EX_isKnown _ Y M (c + 6 + 2 * k) (hc.2.2.2.1.2.2 k (by omega)).2 hk2.1) ml_CT_87 li_EX_isKnown (hc.2.2.2.1.2.2 _ (by omega)).2.1 (xk_N (by omega)) rfl rfl rfl (by decide) ⟨by decide, by decide⟩ ⟨Nat.le_refl _, Nat.le_refl _⟩ (Nat.le_of_ble_eq_true rfl) dc_CT_hasUnknownCritical_28 (rfl : _ = 31) (fun r28 M28 p28 => ?_)
          obtain ⟨pMa, ta, pra, pta, pia⟩ := p28
          rw [pMa, pra]
          refine xv_if_ne hX (nI_toInt (by omega)) (tgt := 36) (pq := 34) dc_CT_hasUnknownCritical_31 (by decide) rfl (fun c31 => ?_) (fun c31 => ?_)
          · skip
            refine xv_iinc hX 1 [1, 0] dc_CT_hasUnknownCritical_36 rfl (xi_inc k 1) (by decide) (L' := [(0, .ref (Y.2.2.2 c)), (1, .int (nI (k + 1)))]) rfl (rfl : _ = 39) ?_
            refine xv_goto hX (pq := 2) dc_CT_hasUnknownCritical_39 (by decide) ?_
            refine xv_sub (L' := [(0, .ref (Y.2.2.2 c)), (1, .int (nI (k + 1)))]) [0, 1] rfl ?_
            exact ih2 (k + 1) (by omega) (fun j hj => by rcases Nat.lt_or_eq_of_le (Nat.le_of_lt_succ hj) with h | h; exact hno j h; rw [h]; first | omega | (intro z; exact z.2 (pia.mp (by omega)))) (by omega)
          · skip
            refine xv_iconst hX (v := nI 1) dc_CT_hasUnknownCritical_34 (by decide) (rfl : _ = 35) ?_
            refine xv_reti hX hR (by decide) dc_CT_hasUnknownCritical_35 ?_
            exact ⟨rfl, 1, rfl, by decide, fun _ => ⟨k, by omega, by omega, fun z => absurd (pia.mpr z) (by omega)⟩, fun _ => rfl⟩
  refine xv_sub (L' := [(0, .ref (Y.2.2.2 c)), (1, .int (nI 0))]) [0, 1] rfl ?_
  exact lp2 _ 0 (Nat.zero_le _) (fun j hj => absurd hj (Nat.not_lt_zero _)) (Nat.lt_succ_self _)

set_option maxRecDepth 100000 in
set_option maxHeartbeats 4000000 in
theorem ct_CT_allows (l : Launch) (Y : xw_Y) (M : xm_M) (c : Nat) (hc : xk_ct c) (hK : ct_K M c) (q : Nat) (hq : xk_nm q) (hqo : nm_ok M q) : xc_i l qm_CT_allows 2 Y [.ref (Y.2.2.2 c), .ref (Y.2.2.2 q)] M (fun r M1 => M1 = M ∧ ∃ t : Nat, r = nI t ∧ t < 2 ∧ (t = 1 ↔ ck_al M c q)) := by
  refine xc_i.mk .boolean rfl (by decide) (Nat.le_of_ble_eq_true rfl) ?_
  intro X hXl hX hR
  subst hXl
  have hX : xv_ok X Y prog_3_method_7_code "CertificatePath$Certificate" 2 (xc_rm 2) := hX
  show xv_V X Y 2 0 0 xw_lk xw_N M 0 [(0, .ref (Y.2.2.2 c)), (1, .ref (Y.2.2.2 q))] []
  have hc6 : 6 ≤ c := hc.2.2.2.2.2.2.1
  have hc29 : c + 29 < 276 := hc.2.2.2.2.2.2.2
  obtain ⟨k7, ⟨k5a, k5b⟩, ⟨k6a, k6b⟩, k8, ⟨k2, k3⟩, k10, kx, k11, k12, k13, ⟨kn1, kn3⟩, ⟨kp1, kp2⟩, ⟨ke1, ke2⟩⟩ := id hK
  refine xv_aload_n hX 0 dc_CT_allows_0 rfl (rfl : _ = 1) ?_
  refine xv_getr hX fl_CT_31 rfl hc.1 (xk_N (by omega)) hc.2.2.2.2.1.1 dc_CT_allows_1 (rfl : _ = 4) ?_
  refine xv_geti hX fl_CT_55 rfl hc.2.2.2.2.1.2.1 (xk_N (by have := hc.2.2.2.2.1.2.2.2.2.2.2; omega)) (v := M (c + 14) 1) rfl dc_CT_allows_4 (rfl : _ = 7) ?_
  refine xv_if_eq hX (nI_toInt (by omega)) (tgt := 21) (pq := 10) dc_CT_allows_7 (by decide) rfl (fun c7 => ?_) (fun c7 => ?_)
  · skip
    refine xv_aload_n hX 0 dc_CT_allows_21 rfl (rfl : _ = 22) ?_
    refine xv_getr hX fl_CT_35 rfl hc.1 (xk_N (by omega)) hc.2.2.2.2.2.1.1 dc_CT_allows_22 (rfl : _ = 25) ?_
    refine xv_aload_n hX 1 dc_CT_allows_25 rfl (rfl : _ = 26) ?_
    refine xv_calli hX (As := [.ref (Y.2.2.2 q)]) (rest := []) (ct_NL_covers _ Y M (c + 22) q hc.2.2.2.2.2.1.2 hq ke1 ke2 hqo) ml_CT_91 li_NL_covers hc.2.2.2.2.2.1.2.1 (xk_N (by have := hc.2.2.2.2.2.1.2.2.2.2.2.2; omega)) rfl rfl rfl (by decide) ⟨by decide, by decide⟩ ⟨Nat.le_refl _, Nat.le_refl _⟩ (Nat.le_of_ble_eq_true rfl) dc_CT_allows_26 (rfl : _ = 29) (fun r26 M26 p26 => ?_)
    obtain ⟨pMb, tb, prb, ptb, pib⟩ := p26
    rw [pMb, prb]
    refine xv_if_ne hX (nI_toInt (by omega)) (tgt := 36) (pq := 32) dc_CT_allows_29 (by decide) rfl (fun c29 => ?_) (fun c29 => ?_)
    · skip
      refine xv_iconst hX (v := nI 0) dc_CT_allows_36 (by decide) (rfl : _ = 37) ?_
      refine xv_reti hX hR (by decide) dc_CT_allows_37 ?_
      refine ⟨rfl, 0, rfl, by decide, by simp, fun z => ?_⟩
      first
      | exact absurd (pib.mp (by omega)) z.2
      | (rcases z.1 with h | h; omega; have := pia.mpr h; omega)
    · skip
      refine xv_iconst hX (v := nI 1) dc_CT_allows_32 (by decide) (rfl : _ = 33) ?_
      refine xv_goto hX (pq := 37) dc_CT_allows_33 (by decide) ?_
      refine xv_reti hX hR (by decide) dc_CT_allows_37 ?_
      exact ⟨rfl, 1, rfl, by decide, fun _ => ⟨by first | exact Or.inl (by omega) | exact Or.inr (pia.mp (by omega)), fun z => absurd (pib.mpr z) (by omega)⟩, fun _ => rfl⟩
  · skip
    refine xv_aload_n hX 0 dc_CT_allows_10 rfl (rfl : _ = 11) ?_
    refine xv_getr hX fl_CT_31 rfl hc.1 (xk_N (by omega)) hc.2.2.2.2.1.1 dc_CT_allows_11 (rfl : _ = 14) ?_
    refine xv_aload_n hX 1 dc_CT_allows_14 rfl (rfl : _ = 15) ?_
    refine xv_calli hX (As := [.ref (Y.2.2.2 q)]) (rest := []) (ct_NL_covers _ Y M (c + 14) q hc.2.2.2.2.1.2 hq kp1 kp2 hqo) ml_CT_91 li_NL_covers hc.2.2.2.2.1.2.1 (xk_N (by have := hc.2.2.2.2.1.2.2.2.2.2.2; omega)) rfl rfl rfl (by decide) ⟨by decide, by decide⟩ ⟨Nat.le_refl _, Nat.le_refl _⟩ (Nat.le_of_ble_eq_true rfl) dc_CT_allows_15 (rfl : _ = 18) (fun r15 M15 p15 => ?_)
    obtain ⟨pMa, ta, pra, pta, pia⟩ := p15
    rw [pMa, pra]
    refine xv_if_eq hX (nI_toInt (by omega)) (tgt := 36) (pq := 21) dc_CT_allows_18 (by decide) rfl (fun c18 => ?_) (fun c18 => ?_)
    · skip
      refine xv_iconst hX (v := nI 0) dc_CT_allows_36 (by decide) (rfl : _ = 37) ?_
      refine xv_reti hX hR (by decide) dc_CT_allows_37 ?_
      refine ⟨rfl, 0, rfl, by decide, by simp, fun z => ?_⟩
      first
      | exact absurd (pib.mp (by omega)) z.2
      | (rcases z.1 with h | h; omega; have := pia.mpr h; omega)
    · skip
      refine xv_aload_n hX 0 dc_CT_allows_21 rfl (rfl : _ = 22) ?_
      refine xv_getr hX fl_CT_35 rfl hc.1 (xk_N (by omega)) hc.2.2.2.2.2.1.1 dc_CT_allows_22 (rfl : _ = 25) ?_
      refine xv_aload_n hX 1 dc_CT_allows_25 rfl (rfl : _ = 26) ?_
      refine xv_calli hX (As := [.ref (Y.2.2.2 q)]) (rest := []) (ct_NL_covers _ Y M (c + 22) q hc.2.2.2.2.2.1.2 hq ke1 ke2 hqo) ml_CT_91 li_NL_covers hc.2.2.2.2.2.1.2.1 (xk_N (by have := hc.2.2.2.2.2.1.2.2.2.2.2.2; omega)) rfl rfl rfl (by decide) ⟨by decide, by decide⟩ ⟨Nat.le_refl _, Nat.le_refl _⟩ (Nat.le_of_ble_eq_true rfl) dc_CT_allows_26 (rfl : _ = 29) (fun r26 M26 p26 => ?_)
      obtain ⟨pMb, tb, prb, ptb, pib⟩ := p26
      rw [pMb, prb]
      refine xv_if_ne hX (nI_toInt (by omega)) (tgt := 36) (pq := 32) dc_CT_allows_29 (by decide) rfl (fun c29 => ?_) (fun c29 => ?_)
      · skip
        refine xv_iconst hX (v := nI 0) dc_CT_allows_36 (by decide) (rfl : _ = 37) ?_
        refine xv_reti hX hR (by decide) dc_CT_allows_37 ?_
        refine ⟨rfl, 0, rfl, by decide, by simp, fun z => ?_⟩
        first
        | exact absurd (pib.mp (by omega)) z.2
        | (rcases z.1 with h | h; omega; have := pia.mpr h; omega)
      · skip
        refine xv_iconst hX (v := nI 1) dc_CT_allows_32 (by decide) (rfl : _ = 33) ?_
        refine xv_goto hX (pq := 37) dc_CT_allows_33 (by decide) ?_
        refine xv_reti hX hR (by decide) dc_CT_allows_37 ?_
        exact ⟨rfl, 1, rfl, by decide, fun _ => ⟨by first | exact Or.inl (by omega) | exact Or.inr (pia.mp (by omega)), fun z => absurd (pib.mpr z) (by omega)⟩, fun _ => rfl⟩

set_option maxRecDepth 100000 in
set_option maxHeartbeats 4000000 in
theorem ct_CT_brokenAsHolder (l : Launch) (Y : xw_Y) (M : xm_M) (c : Nat) (hc : xk_ct c) (hK : ct_K M c) (rest : Int32) : xc_i l qm_CT_brokenAsHolder 3 Y [.ref (Y.2.2.2 c), .int rest] M (fun r M1 => M1 = M ∧ ∃ v : Nat, r = nI v ∧ ((v = 6 ∧ M c 11 = 0) ∨ (v = 7 ∧ M c 11 = 1 ∧ ¬ ck_same M (c + 1) (c + 3) ∧ rest.toInt ≤ 0) ∨ (M c 11 = 1 ∧ (ck_same M (c + 1) (c + 3) ∨ 0 < rest.toInt) ∧ ((v = 8 ∧ M c 13 ≠ 4294967295 ∧ M c 13 / 32 % 2 = 0) ∨ (v = 0 ∧ (M c 13 = 4294967295 ∨ M c 13 / 32 % 2 = 1)))))) := by
  refine xc_i.mk .int rfl (by decide) (Nat.le_of_ble_eq_true rfl) ?_
  intro X hXl hX hR
  subst hXl
  have hX : xv_ok X Y prog_3_method_8_code "CertificatePath$Certificate" 2 (xc_rm 3) := hX
  show xv_V X Y 2 0 0 xw_lk xw_N M 0 [(0, .ref (Y.2.2.2 c)), (1, .int rest)] []
  have hc6 : 6 ≤ c := hc.2.2.2.2.2.2.1
  have hc29 : c + 29 < 276 := hc.2.2.2.2.2.2.2
  obtain ⟨k7, ⟨k5a, k5b⟩, ⟨k6a, k6b⟩, k8, ⟨k2, k3⟩, k10, kx, k11, k12, k13, ⟨kn1, kn3⟩, ⟨kp1, kp2⟩, ⟨ke1, ke2⟩⟩ := id hK
  refine xv_aload_n hX 0 dc_CT_brokenAsHolder_0 rfl (rfl : _ = 1) ?_
  refine xv_geti hX fl_CT_45 rfl hc.1 (xk_N (by omega)) (v := M c 11) rfl dc_CT_brokenAsHolder_1 (rfl : _ = 4) ?_
  refine xv_if_ne hX (nI_toInt (by omega)) (tgt := 10) (pq := 7) dc_CT_brokenAsHolder_4 (by decide) rfl (fun c4 => ?_) (fun c4 => ?_)
  · skip
    refine xv_aload_n hX 0 dc_CT_brokenAsHolder_10 rfl (rfl : _ = 11) ?_
    refine xv_calli hX (As := []) (rest := []) (ct_CT_isSelfIssued _ Y M c hc hK) ml_CT_94 li_CT_isSelfIssued hc.1 (xk_N (by omega)) rfl rfl rfl (by decide) ⟨by decide, by decide⟩ ⟨Nat.le_refl _, Nat.le_refl _⟩ (Nat.le_of_ble_eq_true rfl) dc_CT_brokenAsHolder_11 (rfl : _ = 14) (fun r11 M11 p11 => ?_)
    obtain ⟨pMa, ta, pra, pta, pia⟩ := p11
    rw [pMa, pra]
    refine xv_if_ne hX (nI_toInt (by omega)) (tgt := 24) (pq := 17) dc_CT_brokenAsHolder_14 (by decide) rfl (fun c14 => ?_) (fun c14 => ?_)
    · skip
      rcases k13 with ku | ku
      · skip
        refine xv_aload_n hX 0 dc_CT_brokenAsHolder_24 rfl (rfl : _ = 25) ?_
        refine xv_geti hX fl_CT_52 rfl hc.1 (xk_N (by omega)) (v := 4294967295) ku dc_CT_brokenAsHolder_25 (rfl : _ = 28) ?_
        refine xv_iconst hX (v := nI 4294967295) dc_CT_brokenAsHolder_28 (by decide) (rfl : _ = 29) ?_
        refine xv_icmp_eq hX (show (nI 4294967295).toInt = -1 by decide) (show (nI 4294967295).toInt = -1 by decide) (tgt := 47) (pq := 32) dc_CT_brokenAsHolder_29 (by decide) rfl (fun c29 => ?_) (fun c29 => ?_)
        · skip
          refine xv_iconst hX (v := nI 0) dc_CT_brokenAsHolder_47 (by decide) (rfl : _ = 48) ?_
          refine xv_reti hX hR rfl dc_CT_brokenAsHolder_48 ?_
          exact ⟨rfl, 0, rfl, Or.inr (Or.inr ⟨by omega, by first | exact Or.inl (pia.mp (by omega)) | exact Or.inr (by omega), by omega⟩)⟩
        · skip
          exact absurd c29 (by decide)
      · skip
        refine xv_aload_n hX 0 dc_CT_brokenAsHolder_24 rfl (rfl : _ = 25) ?_
        refine xv_geti hX fl_CT_52 rfl hc.1 (xk_N (by omega)) (v := M c 13) rfl dc_CT_brokenAsHolder_25 (rfl : _ = 28) ?_
        refine xv_iconst hX (v := nI 4294967295) dc_CT_brokenAsHolder_28 (by decide) (rfl : _ = 29) ?_
        refine xv_icmp_eq hX (nI_toInt (by omega)) (show (nI 4294967295).toInt = -1 by decide) (tgt := 47) (pq := 32) dc_CT_brokenAsHolder_29 (by decide) rfl (fun c29 => ?_) (fun c29 => ?_)
        · skip
          exact absurd c29 (by omega)
        · skip
          refine xv_aload_n hX 0 dc_CT_brokenAsHolder_32 rfl (rfl : _ = 33) ?_
          refine xv_geti hX fl_CT_52 rfl hc.1 (xk_N (by omega)) (v := M c 13) rfl dc_CT_brokenAsHolder_33 (rfl : _ = 36) ?_
          refine xv_bipush hX (v := nI 32) dc_CT_brokenAsHolder_36 (by decide) (rfl : _ = 38) ?_
          refine xv_iand hX dc_CT_brokenAsHolder_38 rfl (rfl : _ = 39) ?_
          refine xv_if_ne hX (rfl : (nI (M c 13) &&& nI 32).toInt = _) (tgt := 47) (pq := 42) dc_CT_brokenAsHolder_39 (by decide) rfl (fun c39 => ?_) (fun c39 => ?_)
          · skip
            have c39 : M c 13 / 32 % 2 ≠ 0 := fun h => c39 ((xi_and32 _ ku).mpr h)
            refine xv_iconst hX (v := nI 0) dc_CT_brokenAsHolder_47 (by decide) (rfl : _ = 48) ?_
            refine xv_reti hX hR rfl dc_CT_brokenAsHolder_48 ?_
            exact ⟨rfl, 0, rfl, Or.inr (Or.inr ⟨by omega, by first | exact Or.inl (pia.mp (by omega)) | exact Or.inr (by omega), by omega⟩)⟩
          · skip
            have c39 : M c 13 / 32 % 2 = 0 := (xi_and32 _ ku).mp c39
            refine xv_bipush hX (v := nI 8) dc_CT_brokenAsHolder_42 (by decide) (rfl : _ = 44) ?_
            refine xv_goto hX (pq := 48) dc_CT_brokenAsHolder_44 (by decide) ?_
            refine xv_reti hX hR rfl dc_CT_brokenAsHolder_48 ?_
            exact ⟨rfl, 8, rfl, Or.inr (Or.inr ⟨by omega, by first | exact Or.inl (pia.mp (by omega)) | exact Or.inr (by omega), by omega⟩)⟩
    · skip
      refine xv_iload_n hX 1 dc_CT_brokenAsHolder_17 rfl (rfl : _ = 18) ?_
      refine xv_if_gt hX (rfl : (rest).toInt = _) (tgt := 24) (pq := 21) dc_CT_brokenAsHolder_18 (by decide) rfl (fun c18 => ?_) (fun c18 => ?_)
      · skip
        rcases k13 with ku | ku
        · skip
          refine xv_aload_n hX 0 dc_CT_brokenAsHolder_24 rfl (rfl : _ = 25) ?_
          refine xv_geti hX fl_CT_52 rfl hc.1 (xk_N (by omega)) (v := 4294967295) ku dc_CT_brokenAsHolder_25 (rfl : _ = 28) ?_
          refine xv_iconst hX (v := nI 4294967295) dc_CT_brokenAsHolder_28 (by decide) (rfl : _ = 29) ?_
          refine xv_icmp_eq hX (show (nI 4294967295).toInt = -1 by decide) (show (nI 4294967295).toInt = -1 by decide) (tgt := 47) (pq := 32) dc_CT_brokenAsHolder_29 (by decide) rfl (fun c29 => ?_) (fun c29 => ?_)
          · skip
            refine xv_iconst hX (v := nI 0) dc_CT_brokenAsHolder_47 (by decide) (rfl : _ = 48) ?_
            refine xv_reti hX hR rfl dc_CT_brokenAsHolder_48 ?_
            exact ⟨rfl, 0, rfl, Or.inr (Or.inr ⟨by omega, by first | exact Or.inl (pia.mp (by omega)) | exact Or.inr (by omega), by omega⟩)⟩
          · skip
            exact absurd c29 (by decide)
        · skip
          refine xv_aload_n hX 0 dc_CT_brokenAsHolder_24 rfl (rfl : _ = 25) ?_
          refine xv_geti hX fl_CT_52 rfl hc.1 (xk_N (by omega)) (v := M c 13) rfl dc_CT_brokenAsHolder_25 (rfl : _ = 28) ?_
          refine xv_iconst hX (v := nI 4294967295) dc_CT_brokenAsHolder_28 (by decide) (rfl : _ = 29) ?_
          refine xv_icmp_eq hX (nI_toInt (by omega)) (show (nI 4294967295).toInt = -1 by decide) (tgt := 47) (pq := 32) dc_CT_brokenAsHolder_29 (by decide) rfl (fun c29 => ?_) (fun c29 => ?_)
          · skip
            exact absurd c29 (by omega)
          · skip
            refine xv_aload_n hX 0 dc_CT_brokenAsHolder_32 rfl (rfl : _ = 33) ?_
            refine xv_geti hX fl_CT_52 rfl hc.1 (xk_N (by omega)) (v := M c 13) rfl dc_CT_brokenAsHolder_33 (rfl : _ = 36) ?_
            refine xv_bipush hX (v := nI 32) dc_CT_brokenAsHolder_36 (by decide) (rfl : _ = 38) ?_
            refine xv_iand hX dc_CT_brokenAsHolder_38 rfl (rfl : _ = 39) ?_
            refine xv_if_ne hX (rfl : (nI (M c 13) &&& nI 32).toInt = _) (tgt := 47) (pq := 42) dc_CT_brokenAsHolder_39 (by decide) rfl (fun c39 => ?_) (fun c39 => ?_)
            · skip
              have c39 : M c 13 / 32 % 2 ≠ 0 := fun h => c39 ((xi_and32 _ ku).mpr h)
              refine xv_iconst hX (v := nI 0) dc_CT_brokenAsHolder_47 (by decide) (rfl : _ = 48) ?_
              refine xv_reti hX hR rfl dc_CT_brokenAsHolder_48 ?_
              exact ⟨rfl, 0, rfl, Or.inr (Or.inr ⟨by omega, by first | exact Or.inl (pia.mp (by omega)) | exact Or.inr (by omega), by omega⟩)⟩
            · skip
              have c39 : M c 13 / 32 % 2 = 0 := (xi_and32 _ ku).mp c39
              refine xv_bipush hX (v := nI 8) dc_CT_brokenAsHolder_42 (by decide) (rfl : _ = 44) ?_
              refine xv_goto hX (pq := 48) dc_CT_brokenAsHolder_44 (by decide) ?_
              refine xv_reti hX hR rfl dc_CT_brokenAsHolder_48 ?_
              exact ⟨rfl, 8, rfl, Or.inr (Or.inr ⟨by omega, by first | exact Or.inl (pia.mp (by omega)) | exact Or.inr (by omega), by omega⟩)⟩
      · skip
        refine xv_bipush hX (v := nI 7) dc_CT_brokenAsHolder_21 (by decide) (rfl : _ = 23) ?_
        refine xv_reti hX hR rfl dc_CT_brokenAsHolder_23 ?_
        exact ⟨rfl, 7, rfl, Or.inr (Or.inl ⟨rfl, by omega, fun z => absurd (pia.mpr z) (by omega), by omega⟩)⟩
  · skip
    refine xv_bipush hX (v := nI 6) dc_CT_brokenAsHolder_7 (by decide) (rfl : _ = 9) ?_
    refine xv_reti hX hR rfl dc_CT_brokenAsHolder_9 ?_
    exact ⟨rfl, 6, rfl, Or.inl ⟨rfl, by omega⟩⟩

set_option maxRecDepth 100000 in
set_option maxHeartbeats 4000000 in
theorem ct_CT_brokenAsLast (l : Launch) (Y : xw_Y) (M : xm_M) (c : Nat) (hc : xk_ct c) (hK : ct_K M c) (a : Nat) (ha : a < 256) : xc_i l qm_CT_brokenAsLast 0 Y [.ref (Y.2.2.2 c), .int (nI a)] M (fun r M1 => M1 = M ∧ ∃ v : Nat, r = nI v ∧ ((v = 9 ∧ M c 13 ≠ 4294967295 ∧ M c 13 &&& a ≠ a) ∨ (v = 0 ∧ (M c 13 = 4294967295 ∨ M c 13 &&& a = a)))) := by
  refine xc_i.mk .int rfl (by decide) (Nat.le_of_ble_eq_true rfl) ?_
  intro X hXl hX hR
  subst hXl
  have hX : xv_ok X Y prog_3_method_9_code "CertificatePath$Certificate" 2 (xc_rm 0) := hX
  show xv_V X Y 2 0 0 xw_lk xw_N M 0 [(0, .ref (Y.2.2.2 c)), (1, .int (nI a))] []
  have hc6 : 6 ≤ c := hc.2.2.2.2.2.2.1
  have hc29 : c + 29 < 276 := hc.2.2.2.2.2.2.2
  obtain ⟨k7, ⟨k5a, k5b⟩, ⟨k6a, k6b⟩, k8, ⟨k2, k3⟩, k10, kx, k11, k12, k13, ⟨kn1, kn3⟩, ⟨kp1, kp2⟩, ⟨ke1, ke2⟩⟩ := id hK
  rcases k13 with ku | ku
  · skip
    refine xv_aload_n hX 0 dc_CT_brokenAsLast_0 rfl (rfl : _ = 1) ?_
    refine xv_geti hX fl_CT_52 rfl hc.1 (xk_N (by omega)) (v := 4294967295) ku dc_CT_brokenAsLast_1 (rfl : _ = 4) ?_
    refine xv_iconst hX (v := nI 4294967295) dc_CT_brokenAsLast_4 (by decide) (rfl : _ = 5) ?_
    refine xv_icmp_eq hX (show (nI 4294967295).toInt = -1 by decide) (show (nI 4294967295).toInt = -1 by decide) (tgt := 23) (pq := 8) dc_CT_brokenAsLast_5 (by decide) rfl (fun c5 => ?_) (fun c5 => ?_)
    · skip
      refine xv_iconst hX (v := nI 0) dc_CT_brokenAsLast_23 (by decide) (rfl : _ = 24) ?_
      refine xv_reti hX hR rfl dc_CT_brokenAsLast_24 ?_
      exact ⟨rfl, 0, rfl, by omega⟩
    · skip
      exact absurd c5 (by decide)
  · skip
    refine xv_aload_n hX 0 dc_CT_brokenAsLast_0 rfl (rfl : _ = 1) ?_
    refine xv_geti hX fl_CT_52 rfl hc.1 (xk_N (by omega)) (v := M c 13) rfl dc_CT_brokenAsLast_1 (rfl : _ = 4) ?_
    refine xv_iconst hX (v := nI 4294967295) dc_CT_brokenAsLast_4 (by decide) (rfl : _ = 5) ?_
    refine xv_icmp_eq hX (nI_toInt (by omega)) (show (nI 4294967295).toInt = -1 by decide) (tgt := 23) (pq := 8) dc_CT_brokenAsLast_5 (by decide) rfl (fun c5 => ?_) (fun c5 => ?_)
    · skip
      exact absurd c5 (by omega)
    · skip
      refine xv_aload_n hX 0 dc_CT_brokenAsLast_8 rfl (rfl : _ = 9) ?_
      refine xv_geti hX fl_CT_52 rfl hc.1 (xk_N (by omega)) (v := M c 13) rfl dc_CT_brokenAsLast_9 (rfl : _ = 12) ?_
      refine xv_iload_n hX 1 dc_CT_brokenAsLast_12 rfl (rfl : _ = 13) ?_
      refine xv_iand hX dc_CT_brokenAsLast_13 (xi_and _ _) (rfl : _ = 14) ?_
      have hand := Nat.and_le_right (n := M c 13) (m := a)
      refine xv_iload_n hX 1 dc_CT_brokenAsLast_14 rfl (rfl : _ = 15) ?_
      refine xv_icmp_eq hX (nI_toInt (by omega)) (nI_toInt (by omega)) (tgt := 23) (pq := 18) dc_CT_brokenAsLast_15 (by decide) rfl (fun c15 => ?_) (fun c15 => ?_)
      · skip
        refine xv_iconst hX (v := nI 0) dc_CT_brokenAsLast_23 (by decide) (rfl : _ = 24) ?_
        refine xv_reti hX hR rfl dc_CT_brokenAsLast_24 ?_
        exact ⟨rfl, 0, rfl, by omega⟩
      · skip
        refine xv_bipush hX (v := nI 9) dc_CT_brokenAsLast_18 (by decide) (rfl : _ = 20) ?_
        refine xv_goto hX (pq := 24) dc_CT_brokenAsLast_20 (by decide) ?_
        refine xv_reti hX hR rfl dc_CT_brokenAsLast_24 ?_
        exact ⟨rfl, 9, rfl, by omega⟩

set_option maxRecDepth 100000 in
set_option maxHeartbeats 4000000 in
theorem ct_CT_restBehind (l : Launch) (Y : xw_Y) (M : xm_M) (c : Nat) (hc : xk_ct c) (hK : ct_K M c) (rest : Int32) (hr : -2147483648 < rest.toInt) : xc_i l qm_CT_restBehind 3 Y [.ref (Y.2.2.2 c), .int rest] M (fun r M1 => M1 = M ∧ ∃ left : Int, ((ck_same M (c + 1) (c + 3) ∧ left = rest.toInt) ∨ (¬ ck_same M (c + 1) (c + 3) ∧ left = rest.toInt - 1)) ∧ ((M c 12 ≠ 4294967295 ∧ (M c 12 : Int) < left ∧ r.toInt = (M c 12 : Int)) ∨ (¬ (M c 12 ≠ 4294967295 ∧ (M c 12 : Int) < left) ∧ r.toInt = left))) := by
  refine xc_i.mk .int rfl (by decide) (Nat.le_of_ble_eq_true rfl) ?_
  intro X hXl hX hR
  subst hXl
  have hX : xv_ok X Y prog_3_method_10_code "CertificatePath$Certificate" 3 (xc_rm 3) := hX
  show xv_V X Y 3 0 0 xw_lk xw_N M 0 [(0, .ref (Y.2.2.2 c)), (1, .int rest)] []
  have hc6 : 6 ≤ c := hc.2.2.2.2.2.2.1
  have hc29 : c + 29 < 276 := hc.2.2.2.2.2.2.2
  obtain ⟨k7, ⟨k5a, k5b⟩, ⟨k6a, k6b⟩, k8, ⟨k2, k3⟩, k10, kx, k11, k12, k13, ⟨kn1, kn3⟩, ⟨kp1, kp2⟩, ⟨ke1, ke2⟩⟩ := id hK
  refine xv_aload_n hX 0 dc_CT_restBehind_0 rfl (rfl : _ = 1) ?_
  refine xv_calli hX (As := []) (rest := []) (ct_CT_isSelfIssued _ Y M c hc hK) ml_CT_94 li_CT_isSelfIssued hc.1 (xk_N (by omega)) rfl rfl rfl (by decide) ⟨by decide, by decide⟩ ⟨Nat.le_refl _, Nat.le_refl _⟩ (Nat.le_of_ble_eq_true rfl) dc_CT_restBehind_1 (rfl : _ = 4) (fun r1 M1 p1 => ?_)
  obtain ⟨pMa, ta, pra, pta, pia⟩ := p1
  rw [pMa, pra]
  refine xv_if_eq hX (nI_toInt (by omega)) (tgt := 11) (pq := 7) dc_CT_restBehind_4 (by decide) rfl (fun c4 => ?_) (fun c4 => ?_)
  · skip
    refine xv_iload_n hX 1 dc_CT_restBehind_11 rfl (rfl : _ = 12) ?_
    refine xv_iconst hX (v := nI 1) dc_CT_restBehind_12 (by decide) (rfl : _ = 13) ?_
    have hsub := xi_subT hr
    refine xv_isub hX dc_CT_restBehind_13 rfl (rfl : _ = 14) ?_
    refine xv_istore_n hX [1, 2, 0] dc_CT_restBehind_14 (by decide) (L' := [(0, .ref (Y.2.2.2 c)), (1, .int rest), (2, .int (rest - nI 1))]) rfl (rfl : _ = 15) ?_
    rcases k12 with ku | ku
    · skip
      refine xv_aload_n hX 0 dc_CT_restBehind_15 rfl (rfl : _ = 16) ?_
      refine xv_geti hX fl_CT_49 rfl hc.1 (xk_N (by omega)) (v := 4294967295) ku dc_CT_restBehind_16 (rfl : _ = 19) ?_
      refine xv_iconst hX (v := nI 4294967295) dc_CT_restBehind_19 (by decide) (rfl : _ = 20) ?_
      refine xv_icmp_eq hX (show (nI 4294967295).toInt = -1 by decide) (show (nI 4294967295).toInt = -1 by decide) (tgt := 38) (pq := 23) dc_CT_restBehind_20 (by decide) rfl (fun c20 => ?_) (fun c20 => ?_)
      · skip
        refine xv_iload_n hX 2 dc_CT_restBehind_38 rfl (rfl : _ = 39) ?_
        refine xv_reti hX hR rfl dc_CT_restBehind_39 ?_
        exact ⟨rfl, _, Or.inr ⟨fun z => absurd (pia.mpr z) (by omega), rfl⟩, Or.inr ⟨by omega, by first | rfl | exact hsub⟩⟩
      · skip
        exact absurd c20 (by decide)
    · skip
      refine xv_aload_n hX 0 dc_CT_restBehind_15 rfl (rfl : _ = 16) ?_
      refine xv_geti hX fl_CT_49 rfl hc.1 (xk_N (by omega)) (v := M c 12) rfl dc_CT_restBehind_16 (rfl : _ = 19) ?_
      refine xv_iconst hX (v := nI 4294967295) dc_CT_restBehind_19 (by decide) (rfl : _ = 20) ?_
      refine xv_icmp_eq hX (nI_toInt (by omega)) (show (nI 4294967295).toInt = -1 by decide) (tgt := 38) (pq := 23) dc_CT_restBehind_20 (by decide) rfl (fun c20 => ?_) (fun c20 => ?_)
      · skip
        exact absurd c20 (by omega)
      · skip
        refine xv_aload_n hX 0 dc_CT_restBehind_23 rfl (rfl : _ = 24) ?_
        refine xv_geti hX fl_CT_49 rfl hc.1 (xk_N (by omega)) (v := M c 12) rfl dc_CT_restBehind_24 (rfl : _ = 27) ?_
        refine xv_iload_n hX 2 dc_CT_restBehind_27 rfl (rfl : _ = 28) ?_
        refine xv_icmp_ge hX (nI_toInt (by omega)) (rfl : (rest - nI 1).toInt = _) (tgt := 38) (pq := 31) dc_CT_restBehind_28 (by decide) rfl (fun c28 => ?_) (fun c28 => ?_)
        · skip
          refine xv_iload_n hX 2 dc_CT_restBehind_38 rfl (rfl : _ = 39) ?_
          refine xv_reti hX hR rfl dc_CT_restBehind_39 ?_
          exact ⟨rfl, _, Or.inr ⟨fun z => absurd (pia.mpr z) (by omega), rfl⟩, Or.inr ⟨by omega, by first | rfl | exact hsub⟩⟩
        · skip
          refine xv_aload_n hX 0 dc_CT_restBehind_31 rfl (rfl : _ = 32) ?_
          refine xv_geti hX fl_CT_49 rfl hc.1 (xk_N (by omega)) (v := M c 12) rfl dc_CT_restBehind_32 (rfl : _ = 35) ?_
          refine xv_goto hX (pq := 39) dc_CT_restBehind_35 (by decide) ?_
          refine xv_reti hX hR rfl dc_CT_restBehind_39 ?_
          exact ⟨rfl, _, Or.inr ⟨fun z => absurd (pia.mpr z) (by omega), rfl⟩, Or.inl ⟨by omega, by omega, nI_toInt (by omega)⟩⟩
  · skip
    refine xv_iload_n hX 1 dc_CT_restBehind_7 rfl (rfl : _ = 8) ?_
    refine xv_goto hX (pq := 14) dc_CT_restBehind_8 (by decide) ?_
    refine xv_istore_n hX [1, 2, 0] dc_CT_restBehind_14 (by decide) (L' := [(0, .ref (Y.2.2.2 c)), (1, .int rest), (2, .int rest)]) rfl (rfl : _ = 15) ?_
    rcases k12 with ku | ku
    · skip
      refine xv_aload_n hX 0 dc_CT_restBehind_15 rfl (rfl : _ = 16) ?_
      refine xv_geti hX fl_CT_49 rfl hc.1 (xk_N (by omega)) (v := 4294967295) ku dc_CT_restBehind_16 (rfl : _ = 19) ?_
      refine xv_iconst hX (v := nI 4294967295) dc_CT_restBehind_19 (by decide) (rfl : _ = 20) ?_
      refine xv_icmp_eq hX (show (nI 4294967295).toInt = -1 by decide) (show (nI 4294967295).toInt = -1 by decide) (tgt := 38) (pq := 23) dc_CT_restBehind_20 (by decide) rfl (fun c20 => ?_) (fun c20 => ?_)
      · skip
        refine xv_iload_n hX 2 dc_CT_restBehind_38 rfl (rfl : _ = 39) ?_
        refine xv_reti hX hR rfl dc_CT_restBehind_39 ?_
        exact ⟨rfl, _, Or.inl ⟨pia.mp (by omega), rfl⟩, Or.inr ⟨by omega, by first | rfl | exact hsub⟩⟩
      · skip
        exact absurd c20 (by decide)
    · skip
      refine xv_aload_n hX 0 dc_CT_restBehind_15 rfl (rfl : _ = 16) ?_
      refine xv_geti hX fl_CT_49 rfl hc.1 (xk_N (by omega)) (v := M c 12) rfl dc_CT_restBehind_16 (rfl : _ = 19) ?_
      refine xv_iconst hX (v := nI 4294967295) dc_CT_restBehind_19 (by decide) (rfl : _ = 20) ?_
      refine xv_icmp_eq hX (nI_toInt (by omega)) (show (nI 4294967295).toInt = -1 by decide) (tgt := 38) (pq := 23) dc_CT_restBehind_20 (by decide) rfl (fun c20 => ?_) (fun c20 => ?_)
      · skip
        exact absurd c20 (by omega)
      · skip
        refine xv_aload_n hX 0 dc_CT_restBehind_23 rfl (rfl : _ = 24) ?_
        refine xv_geti hX fl_CT_49 rfl hc.1 (xk_N (by omega)) (v := M c 12) rfl dc_CT_restBehind_24 (rfl : _ = 27) ?_
        refine xv_iload_n hX 2 dc_CT_restBehind_27 rfl (rfl : _ = 28) ?_
        refine xv_icmp_ge hX (nI_toInt (by omega)) (rfl : (rest).toInt = _) (tgt := 38) (pq := 31) dc_CT_restBehind_28 (by decide) rfl (fun c28 => ?_) (fun c28 => ?_)
        · skip
          refine xv_iload_n hX 2 dc_CT_restBehind_38 rfl (rfl : _ = 39) ?_
          refine xv_reti hX hR rfl dc_CT_restBehind_39 ?_
          exact ⟨rfl, _, Or.inl ⟨pia.mp (by omega), rfl⟩, Or.inr ⟨by omega, by first | rfl | exact hsub⟩⟩
        · skip
          refine xv_aload_n hX 0 dc_CT_restBehind_31 rfl (rfl : _ = 32) ?_
          refine xv_geti hX fl_CT_49 rfl hc.1 (xk_N (by omega)) (v := M c 12) rfl dc_CT_restBehind_32 (rfl : _ = 35) ?_
          refine xv_goto hX (pq := 39) dc_CT_restBehind_35 (by decide) ?_
          refine xv_reti hX hR rfl dc_CT_restBehind_39 ?_
          exact ⟨rfl, _, Or.inl ⟨pia.mp (by omega), rfl⟩, Or.inl ⟨by omega, by omega, nI_toInt (by omega)⟩⟩
