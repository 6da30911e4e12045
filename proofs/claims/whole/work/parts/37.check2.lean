/-! CertificatePath: check -/
set_option maxRecDepth 100000 in
set_option maxHeartbeats 4000000 in
theorem ct_CP_isWithinBoundsBefore (l : Launch) (Y : xw_Y) (M : xm_M) (p : Nat) (hp : p < M 0 5) (hk8 : M 0 3 ≤ 8) (hl6 : M 0 5 ≤ 6) (hpa : ∀ j, j < M 0 5 → M 276 j < M 0 3) (hK : ∀ a, a < M 0 3 → ct_K M (6 + 30 * a)) : xc_i l qm_CP_isWithinBoundsBefore 3 Y [.ref (Y.2.2.2 0), .int (nI p)] M (fun r M1 => M1 = M ∧ ∃ t : Nat, r = nI t ∧ t < 2 ∧ (t = 1 ↔ ∀ q, q < p → ck_al M (6 + 30 * M 276 q) ((6 + 30 * M 276 p) + 3))) := by
  refine xc_i.mk .boolean rfl (by decide) (Nat.le_of_ble_eq_true rfl) ?_
  intro X hXl hX hR
  subst hXl
  have hX : xv_ok X Y prog_1_method_21_code "CertificatePath" 4 (xc_rm 3) := hX
  show xv_V X Y 4 0 0 xw_lk xw_N M 0 [(0, .ref (Y.2.2.2 0)), (1, .int (nI p))] []
  have hpp := hpa p hp
  refine xv_aload_n hX 0 dc_CP_isWithinBoundsBefore_0 rfl (rfl : _ = 1) ?_
  refine xv_getr hX fl_CP_25 rfl rfl (by decide) rfl dc_CP_isWithinBoundsBefore_1 (rfl : _ = 4) ?_
  refine xv_aload_n hX 0 dc_CP_isWithinBoundsBefore_4 rfl (rfl : _ = 5) ?_
  refine xv_getr hX fl_CP_34 rfl rfl (by decide) rfl dc_CP_isWithinBoundsBefore_5 (rfl : _ = 8) ?_
  refine xv_iload_n hX 1 dc_CP_isWithinBoundsBefore_8 rfl (rfl : _ = 9) ?_
  refine xv_iald hX rfl (by decide) (by omega) (by decide) (v := M 276 p) rfl dc_CP_isWithinBoundsBefore_9 (rfl : _ = 10) ?_
  refine xv_aald hX rfl (C := xw_A2) rfl (by decide) (by omega) (by decide) (v := 6 + 30 * (M 276 p)) (xk_l5 (by omega)) dc_CP_isWithinBoundsBefore_10 (rfl : _ = 11) ?_
  refine xv_getr hX fl_CP_102 rfl (xk_cert (by omega)).1 (xk_N (by omega)) ((xk_cert (by omega)).2.2.1.1) dc_CP_isWithinBoundsBefore_11 (rfl : _ = 14) ?_
  refine xv_astore_n hX [1, 2, 0] dc_CP_isWithinBoundsBefore_14 (by decide) (L' := [(0, .ref (Y.2.2.2 0)), (1, .int (nI p)), (2, .ref (Y.2.2.2 (6 + 30 * (M 276 p) + 3)))]) rfl (rfl : _ = 15) ?_
  refine xv_iconst hX (v := nI 0) dc_CP_isWithinBoundsBefore_15 (by decide) (rfl : _ = 16) ?_
  refine xv_istore_n hX [1, 2, 3, 0] dc_CP_isWithinBoundsBefore_16 (by decide) (L' := [(0, .ref (Y.2.2.2 0)), (1, .int (nI p)), (2, .ref (Y.2.2.2 (6 + 30 * (M 276 p) + 3))), (3, .int (nI 0))]) rfl (rfl : _ = 17) ?_
  have lp17 : ∀ (n : Nat) (k : Nat) (hk : k ≤ p) (hal : ∀ q, q < k → ck_al M (6 + 30 * M 276 q) ((6 + 30 * M 276 p) + 3)), p - k < n → xv_V X Y 4 0 0 xw_lk xw_N M 17 [(0, .ref (Y.2.2.2 0)), (1, .int (nI p)), (2, .ref (Y.2.2.2 (6 + 30 * (M 276 p) + 3))), (3, .int (nI k))] [] := by
    intro n17
    induction n17 with
    | zero => intro k hk hal hm17; exact absurd hm17 (Nat.not_lt_zero _)
    | succ n17 ih17 =>
      intro k hk hal hm17
      refine xv_iload_n hX 3 dc_CP_isWithinBoundsBefore_17 rfl (rfl : _ = 18) ?_
      refine xv_iload_n hX 1 dc_CP_isWithinBoundsBefore_18 rfl (rfl : _ = 19) ?_
      refine xv_icmp_ge hX (nI_toInt (by omega)) (nI_toInt (by omega)) (tgt := 48) (pq := 22) dc_CP_isWithinBoundsBefore_19 (by decide) rfl (fun c19 => ?_) (fun c19 => ?_)
      · skip
        refine xv_iconst hX (v := nI 1) dc_CP_isWithinBoundsBefore_48 (by decide) (rfl : _ = 49) ?_
        refine xv_reti hX hR (by decide) dc_CP_isWithinBoundsBefore_49 ?_
        exact ⟨rfl, 1, rfl, by decide, fun _ q hq => hal q (by omega), fun _ => rfl⟩
      · skip
        have hkk := hpa k (by omega)
        refine xv_aload_n hX 0 dc_CP_isWithinBoundsBefore_22 rfl (rfl : _ = 23) ?_
        refine xv_getr hX fl_CP_25 rfl rfl (by decide) rfl dc_CP_isWithinBoundsBefore_23 (rfl : _ = 26) ?_
        refine xv_aload_n hX 0 dc_CP_isWithinBoundsBefore_26 rfl (rfl : _ = 27) ?_
        refine xv_getr hX fl_CP_34 rfl rfl (by decide) rfl dc_CP_isWithinBoundsBefore_27 (rfl : _ = 30) ?_
        refine xv_iload_n hX 3 dc_CP_isWithinBoundsBefore_30 rfl (rfl : _ = 31) ?_
        refine xv_iald hX rfl (by decide) (by omega) (by decide) (v := M 276 k) rfl dc_CP_isWithinBoundsBefore_31 (rfl : _ = 32) ?_
        refine xv_aald hX rfl (C := xw_A2) rfl (by decide) (by omega) (by decide) (v := 6 + 30 * (M 276 k)) (xk_l5 (by omega)) dc_CP_isWithinBoundsBefore_32 (rfl : _ = 33) ?_
        refine xv_aload_n hX 2 dc_CP_isWithinBoundsBefore_33 rfl (rfl : _ = 34) ?_
        refine xv_calli hX (As := [.ref (Y.2.2.2 (6 + 30 * (M 276 p) + 3))]) (rest := []) (ct_CT_allows _ Y M (6 + 30 * M 276 k) (xk_cert (by omega)) (hK _ (by omega)) ((6 + 30 * M 276 p) + 3) (xk_cert (by omega)).2.2.1.2 (hK _ (by omega)).n3) ml_CP_134 li_CT_allows (xk_cert (by omega)).1 (xk_N (by omega)) rfl rfl rfl (by decide) ⟨by decide, by decide⟩ ⟨Nat.le_refl _, Nat.le_refl _⟩ (Nat.le_of_ble_eq_true rfl) dc_CP_isWithinBoundsBefore_34 (rfl : _ = 37) (fun r34 M34 p34 => ?_)
        obtain ⟨pMa, ta, pra, pta, pia⟩ := p34
        rw [pMa, pra]
        refine xv_if_ne hX (nI_toInt (by omega)) (tgt := 42) (pq := 40) dc_CP_isWithinBoundsBefore_37 (by decide) rfl (fun c37 => ?_) (fun c37 => ?_)
        · skip
          refine xv_iinc hX 3 [1, 2, 3, 0] dc_CP_isWithinBoundsBefore_42 rfl (xi_inc k 1) (by decide) (L' := [(0, .ref (Y.2.2.2 0)), (1, .int (nI p)), (2, .ref (Y.2.2.2 (6 + 30 * (M 276 p) + 3))), (3, .int (nI (k + 1)))]) rfl (rfl : _ = 45) ?_
          refine xv_goto hX (pq := 17) dc_CP_isWithinBoundsBefore_45 (by decide) ?_
          refine xv_sub (L' := [(0, .ref (Y.2.2.2 0)), (1, .int (nI p)), (2, .ref (Y.2.2.2 (6 + 30 * (M 276 p) + 3))), (3, .int (nI (k + 1)))]) [0, 1, 2, 3] rfl ?_
          exact ih17 (k + 1) (by omega) (fun q hq => by rcases Nat.lt_or_eq_of_le (Nat.le_of_lt_succ hq) with h | h; exact hal q h; rw [h]; exact pia.mp (by omega)) (by omega)
        · skip
          refine xv_iconst hX (v := nI 0) dc_CP_isWithinBoundsBefore_40 (by decide) (rfl : _ = 41) ?_
          refine xv_reti hX hR (by decide) dc_CP_isWithinBoundsBefore_41 ?_
          exact ⟨rfl, 0, rfl, by decide, by simp, fun z => absurd (pia.mpr (z k (by omega))) (by omega)⟩
  refine xv_sub (L' := [(0, .ref (Y.2.2.2 0)), (1, .int (nI p)), (2, .ref (Y.2.2.2 (6 + 30 * (M 276 p) + 3))), (3, .int (nI 0))]) [0, 1, 2, 3] rfl ?_
  exact lp17 _ 0 (Nat.zero_le _) (fun q hq => absurd hq (Nat.not_lt_zero _)) (Nat.lt_succ_self _)

set_option maxRecDepth 100000 in
set_option maxHeartbeats 4000000 in
theorem ct_CP_brokenAnywhere (l : Launch) (Y : xw_Y) (M : xm_M) (h p : Nat) (T : Int32) (hh : xk_ct h) (hKh : ct_K M h) (hp : p < M 0 5) (hk8 : M 0 3 ≤ 8) (hl6 : M 0 5 ≤ 6) (hpa : ∀ j, j < M 0 5 → M 276 j < M 0 3) (hK : ∀ a, a < M 0 3 → ct_K M (6 + 30 * a)) : xc_i l qm_CP_brokenAnywhere 4 Y [.ref (Y.2.2.2 0), .ref (Y.2.2.2 h), .int (nI p), .int T] M (fun r M1 => M1 = M ∧ ∃ v : Nat, r = nI v ∧ ck_any M h (6 + 30 * M 276 p) p T.toInt v) := by
  refine xc_i.mk .int rfl (by decide) (Nat.le_of_ble_eq_true rfl) ?_
  intro X hXl hX hR
  subst hXl
  have hX : xv_ok X Y prog_1_method_20_code "CertificatePath" 6 (xc_rm 4) := hX
  show xv_V X Y 6 0 0 xw_lk xw_N M 0 [(0, .ref (Y.2.2.2 0)), (1, .ref (Y.2.2.2 h)), (2, .int (nI p)), (3, .int T)] []
  have hpp := hpa p hp
  have hKX := hK _ hpp
  have hh29 := hh.2.2.2.2.2.2.2
  obtain ⟨k7, ⟨k5a, k5b⟩, ⟨k6a, k6b⟩, k8, ⟨k2, k3⟩, -⟩ := id hKX
  obtain ⟨-, ⟨m5a, m5b⟩, ⟨m6a, m6b⟩, -⟩ := id hKh
  refine xv_aload_n hX 0 dc_CP_brokenAnywhere_0 rfl (rfl : _ = 1) ?_
  refine xv_getr hX fl_CP_25 rfl rfl (by decide) rfl dc_CP_brokenAnywhere_1 (rfl : _ = 4) ?_
  refine xv_aload_n hX 0 dc_CP_brokenAnywhere_4 rfl (rfl : _ = 5) ?_
  refine xv_getr hX fl_CP_34 rfl rfl (by decide) rfl dc_CP_brokenAnywhere_5 (rfl : _ = 8) ?_
  refine xv_iload_n hX 2 dc_CP_brokenAnywhere_8 rfl (rfl : _ = 9) ?_
  refine xv_iald hX rfl (by decide) (by omega) (by decide) (v := M 276 p) rfl dc_CP_brokenAnywhere_9 (rfl : _ = 10) ?_
  refine xv_aald hX rfl (C := xw_A2) rfl (by decide) (by omega) (by decide) (v := 6 + 30 * (M 276 p)) (xk_l5 (by omega)) dc_CP_brokenAnywhere_10 (rfl : _ = 11) ?_
  refine xv_astore hX [1, 2, 3, 4, 0] dc_CP_brokenAnywhere_11 (by decide) (L' := [(0, .ref (Y.2.2.2 0)), (1, .ref (Y.2.2.2 h)), (2, .int (nI p)), (3, .int T), (4, .ref (Y.2.2.2 (6 + 30 * (M 276 p))))]) rfl (rfl : _ = 13) ?_
  refine xv_iload_n hX 2 dc_CP_brokenAnywhere_13 rfl (rfl : _ = 14) ?_
  refine xv_aload_n hX 0 dc_CP_brokenAnywhere_14 rfl (rfl : _ = 15) ?_
  refine xv_geti hX fl_CP_38 rfl rfl (by decide) (v := M 0 5) rfl dc_CP_brokenAnywhere_15 (rfl : _ = 18) ?_
  refine xv_iconst hX (v := nI 1) dc_CP_brokenAnywhere_18 (by decide) (rfl : _ = 19) ?_
  refine xv_isub hX dc_CP_brokenAnywhere_19 (pk_sub (by omega)) (rfl : _ = 20) ?_
  refine xv_icmp_ne hX (nI_toInt (by omega)) (nI_toInt (by omega)) (tgt := 27) (pq := 23) dc_CP_brokenAnywhere_20 (by decide) rfl (fun c20 => ?_) (fun c20 => ?_)
  · skip
    refine xv_iconst hX (v := nI 0) dc_CP_brokenAnywhere_27 (by decide) (rfl : _ = 28) ?_
    refine xv_istore hX [1, 2, 3, 4, 5, 0] dc_CP_brokenAnywhere_28 (by decide) (L' := [(0, .ref (Y.2.2.2 0)), (1, .ref (Y.2.2.2 h)), (2, .int (nI p)), (3, .int T), (4, .ref (Y.2.2.2 (6 + 30 * (M 276 p)))), (5, .int (nI 0))]) rfl (rfl : _ = 30) ?_
    refine xv_aload hX 4 dc_CP_brokenAnywhere_30 rfl (rfl : _ = 32) ?_
    refine xv_aload_n hX 1 dc_CP_brokenAnywhere_32 rfl (rfl : _ = 33) ?_
    refine xv_geti hX fl_CP_105 rfl hh.1 (xk_N (by omega)) (v := M h 5) rfl dc_CP_brokenAnywhere_33 (rfl : _ = 36) ?_
    refine xv_aload_n hX 1 dc_CP_brokenAnywhere_36 rfl (rfl : _ = 37) ?_
    refine xv_geti hX fl_CP_108 rfl hh.1 (xk_N (by omega)) (v := M h 6) rfl dc_CP_brokenAnywhere_37 (rfl : _ = 40) ?_
    refine xv_calli hX (As := [.int (nI (M h 5)), .int (nI (M h 6))]) (rest := []) (ct_CT_isSignedBy _ Y M (6 + 30 * M 276 p) (xk_cert (by omega)) hKX (M h 5) (M h 6) m5a m5b m6a m6b) ml_CP_111 li_CT_isSignedBy (xk_cert (by omega)).1 (xk_N (by omega)) rfl rfl rfl (by decide) ⟨by decide, by decide⟩ ⟨Nat.le_refl _, Nat.le_refl _⟩ (Nat.le_of_ble_eq_true rfl) dc_CP_brokenAnywhere_40 (rfl : _ = 43) (fun r40 M40 p40 => ?_)
    obtain ⟨pMa, ta, pra, pta, pia⟩ := p40
    rw [pMa, pra]
    refine xv_if_ne hX (nI_toInt (by omega)) (tgt := 48) (pq := 46) dc_CP_brokenAnywhere_43 (by decide) rfl (fun c43 => ?_) (fun c43 => ?_)
    · skip
      refine xv_iload_n hX 3 dc_CP_brokenAnywhere_48 rfl (rfl : _ = 49) ?_
      refine xv_aload hX 4 dc_CP_brokenAnywhere_49 rfl (rfl : _ = 51) ?_
      refine xv_geti hX fl_CP_115 rfl (xk_cert (by omega)).1 (xk_N (by omega)) (v := M (6 + 30 * (M 276 p)) 2) rfl dc_CP_brokenAnywhere_51 (rfl : _ = 54) ?_
      refine xv_icmp_lt hX (rfl : (T).toInt = _) (nI_toInt (by omega)) (tgt := 66) (pq := 57) dc_CP_brokenAnywhere_54 (by decide) rfl (fun c54 => ?_) (fun c54 => ?_)
      · skip
        refine xv_iconst hX (v := nI 2) dc_CP_brokenAnywhere_66 (by decide) (rfl : _ = 67) ?_
        refine xv_reti hX hR rfl dc_CP_brokenAnywhere_67 ?_
        exact ⟨rfl, 2, rfl, Or.inr ⟨pia.mp (by omega), Or.inl ⟨rfl, by omega⟩⟩⟩
      · skip
        refine xv_iload_n hX 3 dc_CP_brokenAnywhere_57 rfl (rfl : _ = 58) ?_
        refine xv_aload hX 4 dc_CP_brokenAnywhere_58 rfl (rfl : _ = 60) ?_
        refine xv_geti hX fl_CP_118 rfl (xk_cert (by omega)).1 (xk_N (by omega)) (v := M (6 + 30 * (M 276 p)) 3) rfl dc_CP_brokenAnywhere_60 (rfl : _ = 63) ?_
        refine xv_icmp_le hX (rfl : (T).toInt = _) (nI_toInt (by omega)) (tgt := 68) (pq := 66) dc_CP_brokenAnywhere_63 (by decide) rfl (fun c63 => ?_) (fun c63 => ?_)
        · skip
          refine xv_aload hX 4 dc_CP_brokenAnywhere_68 rfl (rfl : _ = 70) ?_
          refine xv_getr hX fl_CP_98 rfl (xk_cert (by omega)).1 (xk_N (by omega)) ((xk_cert (by omega)).2.1.1) dc_CP_brokenAnywhere_70 (rfl : _ = 73) ?_
          refine xv_aload_n hX 1 dc_CP_brokenAnywhere_73 rfl (rfl : _ = 74) ?_
          refine xv_getr hX fl_CP_102 rfl hh.1 (xk_N (by omega)) hh.2.2.1.1 dc_CP_brokenAnywhere_74 (rfl : _ = 77) ?_
          refine xv_calli hX (As := [.ref (Y.2.2.2 (h + 3))]) (rest := []) (ct_NM_isSameAs _ Y M ((6 + 30 * M 276 p) + 1) (h + 3) (xk_cert (by omega)).2.1.2 hh.2.2.1.2 hKX.n1.1 hKh.n3.1 hKX.n1.2 hKh.n3.2) ml_CP_121 li_NM_isSameAs (xk_cert (by omega)).2.1.2.1 (xk_N (by omega)) rfl rfl rfl (by decide) ⟨by decide, by decide⟩ ⟨Nat.le_refl _, Nat.le_refl _⟩ (Nat.le_of_ble_eq_true rfl) dc_CP_brokenAnywhere_77 (rfl : _ = 80) (fun r77 M77 p77 => ?_)
          obtain ⟨pMb, tb, prb, ptb, pib⟩ := p77
          rw [pMb, prb]
          refine xv_if_ne hX (nI_toInt (by omega)) (tgt := 85) (pq := 83) dc_CP_brokenAnywhere_80 (by decide) rfl (fun c80 => ?_) (fun c80 => ?_)
          · skip
            refine xv_iload hX 5 dc_CP_brokenAnywhere_85 rfl (rfl : _ = 87) ?_
            refine xv_if_ne hX (show (nI 0).toInt = 0 by decide) (tgt := 98) (pq := 90) dc_CP_brokenAnywhere_87 (by decide) rfl (fun c87 => ?_) (fun c87 => ?_)
            · skip
              exact absurd c87 (by decide)
            · skip
              refine xv_aload hX 4 dc_CP_brokenAnywhere_90 rfl (rfl : _ = 92) ?_
              refine xv_calli hX (As := []) (rest := []) (ct_CT_isSelfIssued _ Y M (6 + 30 * M 276 p) (xk_cert (by omega)) hKX) ml_CP_124 li_CT_isSelfIssued (xk_cert (by omega)).1 (xk_N (by omega)) rfl rfl rfl (by decide) ⟨by decide, by decide⟩ ⟨Nat.le_refl _, Nat.le_refl _⟩ (Nat.le_of_ble_eq_true rfl) dc_CP_brokenAnywhere_92 (rfl : _ = 95) (fun r92 M92 p92 => ?_)
              obtain ⟨pMc, tc, prc, ptc, pic⟩ := p92
              rw [pMc, prc]
              refine xv_if_ne hX (nI_toInt (by omega)) (tgt := 108) (pq := 98) dc_CP_brokenAnywhere_95 (by decide) rfl (fun c95 => ?_) (fun c95 => ?_)
              · skip
                refine xv_aload hX 4 dc_CP_brokenAnywhere_108 rfl (rfl : _ = 110) ?_
                refine xv_calli hX (As := []) (rest := []) (ct_CT_hasUnknownCritical _ Y M (6 + 30 * M 276 p) (xk_cert (by omega)) hKX) ml_CP_131 li_CT_hasUnknownCritical (xk_cert (by omega)).1 (xk_N (by omega)) rfl rfl rfl (by decide) ⟨by decide, by decide⟩ ⟨Nat.le_refl _, Nat.le_refl _⟩ (Nat.le_of_ble_eq_true rfl) dc_CP_brokenAnywhere_110 (rfl : _ = 113) (fun r110 M110 p110 => ?_)
                obtain ⟨pMe, te, pre, pte, pie⟩ := p110
                rw [pMe, pre]
                refine xv_if_eq hX (nI_toInt (by omega)) (tgt := 120) (pq := 116) dc_CP_brokenAnywhere_113 (by decide) rfl (fun c113 => ?_) (fun c113 => ?_)
                · skip
                  refine xv_iconst hX (v := nI 0) dc_CP_brokenAnywhere_120 (by decide) (rfl : _ = 121) ?_
                  refine xv_reti hX hR rfl dc_CP_brokenAnywhere_121 ?_
                  refine ⟨rfl, 0, rfl, Or.inr ⟨pia.mp (by omega), Or.inr ⟨⟨by omega, by omega⟩, Or.inr ⟨pib.mp (by omega), Or.inr ⟨?_, ?_⟩⟩⟩⟩⟩
                  · first
                    | exact Or.inr (pid.mp (by omega))
                    | exact Or.inl ⟨by omega, pic.mp (by omega)⟩
                  · first
                    | exact Or.inl ⟨rfl, pie.mp (by omega)⟩
                    | exact Or.inr ⟨rfl, fun z => absurd (pie.mpr z) (by omega)⟩
                · skip
                  refine xv_iconst hX (v := nI 5) dc_CP_brokenAnywhere_116 (by decide) (rfl : _ = 117) ?_
                  refine xv_goto hX (pq := 121) dc_CP_brokenAnywhere_117 (by decide) ?_
                  refine xv_reti hX hR rfl dc_CP_brokenAnywhere_121 ?_
                  refine ⟨rfl, 5, rfl, Or.inr ⟨pia.mp (by omega), Or.inr ⟨⟨by omega, by omega⟩, Or.inr ⟨pib.mp (by omega), Or.inr ⟨?_, ?_⟩⟩⟩⟩⟩
                  · first
                    | exact Or.inr (pid.mp (by omega))
                    | exact Or.inl ⟨by omega, pic.mp (by omega)⟩
                  · first
                    | exact Or.inl ⟨rfl, pie.mp (by omega)⟩
                    | exact Or.inr ⟨rfl, fun z => absurd (pie.mpr z) (by omega)⟩
              · skip
                refine xv_aload_n hX 0 dc_CP_brokenAnywhere_98 rfl (rfl : _ = 99) ?_
                refine xv_iload_n hX 2 dc_CP_brokenAnywhere_99 rfl (rfl : _ = 100) ?_
                refine xv_calli hX (As := [.int (nI p)]) (rest := []) (ct_CP_isWithinBoundsBefore _ Y M p hp hk8 hl6 hpa hK) ml_CP_128 li_CP_isWithinBoundsBefore rfl (by decide) rfl rfl rfl (by decide) ⟨by decide, by decide⟩ ⟨Nat.le_refl _, Nat.le_refl _⟩ (Nat.le_of_ble_eq_true rfl) dc_CP_brokenAnywhere_100 (rfl : _ = 103) (fun r100 M100 p100 => ?_)
                obtain ⟨pMd, td, prd, ptd, pid⟩ := p100
                rw [pMd, prd]
                refine xv_if_ne hX (nI_toInt (by omega)) (tgt := 108) (pq := 106) dc_CP_brokenAnywhere_103 (by decide) rfl (fun c103 => ?_) (fun c103 => ?_)
                · skip
                  refine xv_aload hX 4 dc_CP_brokenAnywhere_108 rfl (rfl : _ = 110) ?_
                  refine xv_calli hX (As := []) (rest := []) (ct_CT_hasUnknownCritical _ Y M (6 + 30 * M 276 p) (xk_cert (by omega)) hKX) ml_CP_131 li_CT_hasUnknownCritical (xk_cert (by omega)).1 (xk_N (by omega)) rfl rfl rfl (by decide) ⟨by decide, by decide⟩ ⟨Nat.le_refl _, Nat.le_refl _⟩ (Nat.le_of_ble_eq_true rfl) dc_CP_brokenAnywhere_110 (rfl : _ = 113) (fun r110 M110 p110 => ?_)
                  obtain ⟨pMe, te, pre, pte, pie⟩ := p110
                  rw [pMe, pre]
                  refine xv_if_eq hX (nI_toInt (by omega)) (tgt := 120) (pq := 116) dc_CP_brokenAnywhere_113 (by decide) rfl (fun c113 => ?_) (fun c113 => ?_)
                  · skip
                    refine xv_iconst hX (v := nI 0) dc_CP_brokenAnywhere_120 (by decide) (rfl : _ = 121) ?_
                    refine xv_reti hX hR rfl dc_CP_brokenAnywhere_121 ?_
                    refine ⟨rfl, 0, rfl, Or.inr ⟨pia.mp (by omega), Or.inr ⟨⟨by omega, by omega⟩, Or.inr ⟨pib.mp (by omega), Or.inr ⟨?_, ?_⟩⟩⟩⟩⟩
                    · first
                      | exact Or.inr (pid.mp (by omega))
                      | exact Or.inl ⟨by omega, pic.mp (by omega)⟩
                    · first
                      | exact Or.inl ⟨rfl, pie.mp (by omega)⟩
                      | exact Or.inr ⟨rfl, fun z => absurd (pie.mpr z) (by omega)⟩
                  · skip
                    refine xv_iconst hX (v := nI 5) dc_CP_brokenAnywhere_116 (by decide) (rfl : _ = 117) ?_
                    refine xv_goto hX (pq := 121) dc_CP_brokenAnywhere_117 (by decide) ?_
                    refine xv_reti hX hR rfl dc_CP_brokenAnywhere_121 ?_
                    refine ⟨rfl, 5, rfl, Or.inr ⟨pia.mp (by omega), Or.inr ⟨⟨by omega, by omega⟩, Or.inr ⟨pib.mp (by omega), Or.inr ⟨?_, ?_⟩⟩⟩⟩⟩
                    · first
                      | exact Or.inr (pid.mp (by omega))
                      | exact Or.inl ⟨by omega, pic.mp (by omega)⟩
                    · first
                      | exact Or.inl ⟨rfl, pie.mp (by omega)⟩
                      | exact Or.inr ⟨rfl, fun z => absurd (pie.mpr z) (by omega)⟩
                · skip
                  refine xv_iconst hX (v := nI 4) dc_CP_brokenAnywhere_106 (by decide) (rfl : _ = 107) ?_
                  refine xv_reti hX hR rfl dc_CP_brokenAnywhere_107 ?_
                  refine ⟨rfl, 4, rfl, Or.inr ⟨pia.mp (by omega), Or.inr ⟨⟨by omega, by omega⟩, Or.inr ⟨pib.mp (by omega), Or.inl ⟨rfl, fun z => ?_⟩⟩⟩⟩⟩
                  rcases z with z | z
                  · first
                    | exact absurd z.1 (by omega)
                    | exact absurd (pic.mpr z.2) (by omega)
                  · exact absurd (pid.mpr z) (by omega)
          · skip
            refine xv_iconst hX (v := nI 3) dc_CP_brokenAnywhere_83 (by decide) (rfl : _ = 84) ?_
            refine xv_reti hX hR rfl dc_CP_brokenAnywhere_84 ?_
            exact ⟨rfl, 3, rfl, Or.inr ⟨pia.mp (by omega), Or.inr ⟨⟨by omega, by omega⟩, Or.inl ⟨rfl, fun z => absurd (pib.mpr z) (by omega)⟩⟩⟩⟩
        · skip
          refine xv_iconst hX (v := nI 2) dc_CP_brokenAnywhere_66 (by decide) (rfl : _ = 67) ?_
          refine xv_reti hX hR rfl dc_CP_brokenAnywhere_67 ?_
          exact ⟨rfl, 2, rfl, Or.inr ⟨pia.mp (by omega), Or.inl ⟨rfl, by omega⟩⟩⟩
    · skip
      refine xv_iconst hX (v := nI 1) dc_CP_brokenAnywhere_46 (by decide) (rfl : _ = 47) ?_
      refine xv_reti hX hR rfl dc_CP_brokenAnywhere_47 ?_
      exact ⟨rfl, 1, rfl, Or.inl ⟨rfl, fun z => absurd (pia.mpr z) (by omega)⟩⟩
  · skip
    refine xv_iconst hX (v := nI 1) dc_CP_brokenAnywhere_23 (by decide) (rfl : _ = 24) ?_
    refine xv_goto hX (pq := 28) dc_CP_brokenAnywhere_24 (by decide) ?_
    refine xv_istore hX [1, 2, 3, 4, 5, 0] dc_CP_brokenAnywhere_28 (by decide) (L' := [(0, .ref (Y.2.2.2 0)), (1, .ref (Y.2.2.2 h)), (2, .int (nI p)), (3, .int T), (4, .ref (Y.2.2.2 (6 + 30 * (M 276 p)))), (5, .int (nI 1))]) rfl (rfl : _ = 30) ?_
    refine xv_aload hX 4 dc_CP_brokenAnywhere_30 rfl (rfl : _ = 32) ?_
    refine xv_aload_n hX 1 dc_CP_brokenAnywhere_32 rfl (rfl : _ = 33) ?_
    refine xv_geti hX fl_CP_105 rfl hh.1 (xk_N (by omega)) (v := M h 5) rfl dc_CP_brokenAnywhere_33 (rfl : _ = 36) ?_
    refine xv_aload_n hX 1 dc_CP_brokenAnywhere_36 rfl (rfl : _ = 37) ?_
    refine xv_geti hX fl_CP_108 rfl hh.1 (xk_N (by omega)) (v := M h 6) rfl dc_CP_brokenAnywhere_37 (rfl : _ = 40) ?_
    refine xv_calli hX (As := [.int (nI (M h 5)), .int (nI (M h 6))]) (rest := []) (ct_CT_isSignedBy _ Y M (6 + 30 * M 276 p) (xk_cert (by omega)) hKX (M h 5) (M h 6) m5a m5b m6a m6b) ml_CP_111 li_CT_isSignedBy (xk_cert (by omega)).1 (xk_N (by omega)) rfl rfl rfl (by decide) ⟨by decide, by decide⟩ ⟨Nat.le_refl _, Nat.le_refl _⟩ (Nat.le_of_ble_eq_true rfl) dc_CP_brokenAnywhere_40 (rfl : _ = 43) (fun r40 M40 p40 => ?_)
    obtain ⟨pMa, ta, pra, pta, pia⟩ := p40
    rw [pMa, pra]
    refine xv_if_ne hX (nI_toInt (by omega)) (tgt := 48) (pq := 46) dc_CP_brokenAnywhere_43 (by decide) rfl (fun c43 => ?_) (fun c43 => ?_)
    · skip
      refine xv_iload_n hX 3 dc_CP_brokenAnywhere_48 rfl (rfl : _ = 49) ?_
      refine xv_aload hX 4 dc_CP_brokenAnywhere_49 rfl (rfl : _ = 51) ?_
      refine xv_geti hX fl_CP_115 rfl (xk_cert (by omega)).1 (xk_N (by omega)) (v := M (6 + 30 * (M 276 p)) 2) rfl dc_CP_brokenAnywhere_51 (rfl : _ = 54) ?_
      refine xv_icmp_lt hX (rfl : (T).toInt = _) (nI_toInt (by omega)) (tgt := 66) (pq := 57) dc_CP_brokenAnywhere_54 (by decide) rfl (fun c54 => ?_) (fun c54 => ?_)
      · skip
        refine xv_iconst hX (v := nI 2) dc_CP_brokenAnywhere_66 (by decide) (rfl : _ = 67) ?_
        refine xv_reti hX hR rfl dc_CP_brokenAnywhere_67 ?_
        exact ⟨rfl, 2, rfl, Or.inr ⟨pia.mp (by omega), Or.inl ⟨rfl, by omega⟩⟩⟩
      · skip
        refine xv_iload_n hX 3 dc_CP_brokenAnywhere_57 rfl (rfl : _ = 58) ?_
        refine xv_aload hX 4 dc_CP_brokenAnywhere_58 rfl (rfl : _ = 60) ?_
        refine xv_geti hX fl_CP_118 rfl (xk_cert (by omega)).1 (xk_N (by omega)) (v := M (6 + 30 * (M 276 p)) 3) rfl dc_CP_brokenAnywhere_60 (rfl : _ = 63) ?_
        refine xv_icmp_le hX (rfl : (T).toInt = _) (nI_toInt (by omega)) (tgt := 68) (pq := 66) dc_CP_brokenAnywhere_63 (by decide) rfl (fun c63 => ?_) (fun c63 => ?_)
        · skip
          refine xv_aload hX 4 dc_CP_brokenAnywhere_68 rfl (rfl : _ = 70) ?_
          refine xv_getr hX fl_CP_98 rfl (xk_cert (by omega)).1 (xk_N (by omega)) ((xk_cert (by omega)).2.1.1) dc_CP_brokenAnywhere_70 (rfl : _ = 73) ?_
          refine xv_aload_n hX 1 dc_CP_brokenAnywhere_73 rfl (rfl : _ = 74) ?_
          refine xv_getr hX fl_CP_102 rfl hh.1 (xk_N (by omega)) hh.2.2.1.1 dc_CP_brokenAnywhere_74 (rfl : _ = 77) ?_
          refine xv_calli hX (As := [.ref (Y.2.2.2 (h + 3))]) (rest := []) (ct_NM_isSameAs _ Y M ((6 + 30 * M 276 p) + 1) (h + 3) (xk_cert (by omega)).2.1.2 hh.2.2.1.2 hKX.n1.1 hKh.n3.1 hKX.n1.2 hKh.n3.2) ml_CP_121 li_NM_isSameAs (xk_cert (by omega)).2.1.2.1 (xk_N (by omega)) rfl rfl rfl (by decide) ⟨by decide, by decide⟩ ⟨Nat.le_refl _, Nat.le_refl _⟩ (Nat.le_of_ble_eq_true rfl) dc_CP_brokenAnywhere_77 (rfl : _ = 80) (fun r77 M77 p77 => ?_)
          obtain ⟨pMb, tb, prb, ptb, pib⟩ := p77
          rw [pMb, prb]
          refine xv_if_ne hX (nI_toInt (by omega)) (tgt := 85) (pq := 83) dc_CP_brokenAnywhere_80 (by decide) rfl (fun c80 => ?_) (fun c80 => ?_)
          · skip
            refine xv_iload hX 5 dc_CP_brokenAnywhere_85 rfl (rfl : _ = 87) ?_
            refine xv_if_ne hX (show (nI 1).toInt = 1 by decide) (tgt := 98) (pq := 90) dc_CP_brokenAnywhere_87 (by decide) rfl (fun c87 => ?_) (fun c87 => ?_)
            · skip
              refine xv_aload_n hX 0 dc_CP_brokenAnywhere_98 rfl (rfl : _ = 99) ?_
              refine xv_iload_n hX 2 dc_CP_brokenAnywhere_99 rfl (rfl : _ = 100) ?_
              refine xv_calli hX (As := [.int (nI p)]) (rest := []) (ct_CP_isWithinBoundsBefore _ Y M p hp hk8 hl6 hpa hK) ml_CP_128 li_CP_isWithinBoundsBefore rfl (by decide) rfl rfl rfl (by decide) ⟨by decide, by decide⟩ ⟨Nat.le_refl _, Nat.le_refl _⟩ (Nat.le_of_ble_eq_true rfl) dc_CP_brokenAnywhere_100 (rfl : _ = 103) (fun r100 M100 p100 => ?_)
              obtain ⟨pMd, td, prd, ptd, pid⟩ := p100
              rw [pMd, prd]
              refine xv_if_ne hX (nI_toInt (by omega)) (tgt := 108) (pq := 106) dc_CP_brokenAnywhere_103 (by decide) rfl (fun c103 => ?_) (fun c103 => ?_)
              · skip
                refine xv_aload hX 4 dc_CP_brokenAnywhere_108 rfl (rfl : _ = 110) ?_
                refine xv_calli hX (As := []) (rest := []) (ct_CT_hasUnknownCritical _ Y M (6 + 30 * M 276 p) (xk_cert (by omega)) hKX) ml_CP_131 li_CT_hasUnknownCritical (xk_cert (by omega)).1 (xk_N (by omega)) rfl rfl rfl (by decide) ⟨by decide, by decide⟩ ⟨Nat.le_refl _, Nat.le_refl _⟩ (Nat.le_of_ble_eq_true rfl) dc_CP_brokenAnywhere_110 (rfl : _ = 113) (fun r110 M110 p110 => ?_)
                obtain ⟨pMe, te, pre, pte, pie⟩ := p110
                rw [pMe, pre]
                refine xv_if_eq hX (nI_toInt (by omega)) (tgt := 120) (pq := 116) dc_CP_brokenAnywhere_113 (by decide) rfl (fun c113 => ?_) (fun c113 => ?_)
                · skip
                  refine xv_iconst hX (v := nI 0) dc_CP_brokenAnywhere_120 (by decide) (rfl : _ = 121) ?_
                  refine xv_reti hX hR rfl dc_CP_brokenAnywhere_121 ?_
                  refine ⟨rfl, 0, rfl, Or.inr ⟨pia.mp (by omega), Or.inr ⟨⟨by omega, by omega⟩, Or.inr ⟨pib.mp (by omega), Or.inr ⟨?_, ?_⟩⟩⟩⟩⟩
                  · first
                    | exact Or.inr (pid.mp (by omega))
                    | exact Or.inl ⟨by omega, pic.mp (by omega)⟩
                  · first
                    | exact Or.inl ⟨rfl, pie.mp (by omega)⟩
                    | exact Or.inr ⟨rfl, fun z => absurd (pie.mpr z) (by omega)⟩
                · skip
                  refine xv_iconst hX (v := nI 5) dc_CP_brokenAnywhere_116 (by decide) (rfl : _ = 117) ?_
                  refine xv_goto hX (pq := 121) dc_CP_brokenAnywhere_117 (by decide) ?_
                  refine xv_reti hX hR rfl dc_CP_brokenAnywhere_121 ?_
                  refine ⟨rfl, 5, rfl, Or.inr ⟨pia.mp (by omega), Or.inr ⟨⟨by omega, by omega⟩, Or.inr ⟨pib.mp (by omega), Or.inr ⟨?_, ?_⟩⟩⟩⟩⟩
                  · first
                    | exact Or.inr (pid.mp (by omega))
                    | exact Or.inl ⟨by omega, pic.mp (by omega)⟩
                  · first
                    | exact Or.inl ⟨rfl, pie.mp (by omega)⟩
                    | exact Or.inr ⟨rfl, fun z => absurd (pie.mpr z) (by omega)⟩
              · skip
                refine xv_iconst hX (v := nI 4) dc_CP_brokenAnywhere_106 (by decide) (rfl : _ = 107) ?_
                refine xv_reti hX hR rfl dc_CP_brokenAnywhere_107 ?_
                refine ⟨rfl, 4, rfl, Or.inr ⟨pia.mp (by omega), Or.inr ⟨⟨by omega, by omega⟩, Or.inr ⟨pib.mp (by omega), Or.inl ⟨rfl, fun z => ?_⟩⟩⟩⟩⟩
                rcases z with z | z
                · first
                  | exact absurd z.1 (by omega)
                  | exact absurd (pic.mpr z.2) (by omega)
                · exact absurd (pid.mpr z) (by omega)
            · skip
              exact absurd c87 (by decide)
          · skip
            refine xv_iconst hX (v := nI 3) dc_CP_brokenAnywhere_83 (by decide) (rfl : _ = 84) ?_
            refine xv_reti hX hR rfl dc_CP_brokenAnywhere_84 ?_
            exact ⟨rfl, 3, rfl, Or.inr ⟨pia.mp (by omega), Or.inr ⟨⟨by omega, by omega⟩, Or.inl ⟨rfl, fun z => absurd (pib.mpr z) (by omega)⟩⟩⟩⟩
        · skip
          refine xv_iconst hX (v := nI 2) dc_CP_brokenAnywhere_66 (by decide) (rfl : _ = 67) ?_
          refine xv_reti hX hR rfl dc_CP_brokenAnywhere_67 ?_
          exact ⟨rfl, 2, rfl, Or.inr ⟨pia.mp (by omega), Or.inl ⟨rfl, by omega⟩⟩⟩
    · skip
      refine xv_iconst hX (v := nI 1) dc_CP_brokenAnywhere_46 (by decide) (rfl : _ = 47) ?_
      refine xv_reti hX hR rfl dc_CP_brokenAnywhere_47 ?_
      exact ⟨rfl, 1, rfl, Or.inl ⟨rfl, fun z => absurd (pia.mpr z) (by omega)⟩⟩

set_option maxRecDepth 100000 in
set_option maxHeartbeats 4000000 in
theorem ct_CP_check (l : Launch) (Y : xw_Y) (M : xm_M) (i T u : Int32) (hk8 : M 0 3 ≤ 8) (hl6 : M 0 5 ≤ 6) (hpa : ∀ j, j < M 0 5 → M 276 j < M 0 3) (hK : ∀ a, a < M 0 3 → ct_K M (6 + 30 * a)) : xc_i l qm_CP_check 5 Y [.ref (Y.2.2.2 0), .int i, .int T, .int u] M (fun r M1 => M1 = M ∧ ((¬ ((0 ≤ i.toInt ∧ i.toInt < (M 0 3 : Nat)) ∧ M 0 5 ≠ 0 ∧ 0 ≤ u.toInt ∧ u.toInt ≤ 255) ∧ r = nI 4294967295) ∨ ∃ x a k, i = nI x ∧ x < M 0 3 ∧ M 0 5 ≠ 0 ∧ u = nI a ∧ a < 256 ∧ r = nI k ∧ ck_run M T.toInt a (M 0 5) 0 (6 + 30 * x) (M 0 5 : Nat) k)) := by
  refine xc_i.mk .int rfl (by decide) (Nat.le_of_ble_eq_true rfl) ?_
  intro X hXl hX hR
  subst hXl
  have hX : xv_ok X Y prog_1_method_16_code "CertificatePath" 10 (xc_rm 5) := hX
  show xv_V X Y 10 0 0 xw_lk xw_N M 0 [(0, .ref (Y.2.2.2 0)), (1, .int i), (2, .int T), (3, .int u)] []
  refine xv_aload_n hX 0 dc_CP_check_0 rfl (rfl : _ = 1) ?_
  refine xv_iload_n hX 1 dc_CP_check_1 rfl (rfl : _ = 2) ?_
  refine xv_calli hX (As := [.int i]) (rest := []) (ct_CP_isKept _ Y M i hk8) ml_CP_65 li_CP_isKept rfl (by decide) rfl rfl rfl (by decide) ⟨by decide, by decide⟩ ⟨Nat.le_refl _, Nat.le_refl _⟩ (Nat.le_of_ble_eq_true rfl) dc_CP_check_2 (rfl : _ = 5) (fun r2 M2 p2 => ?_)
  obtain ⟨pMa, ta, pra, pta, pia⟩ := p2
  rw [pMa, pra]
  refine xv_if_eq hX (nI_toInt (by omega)) (tgt := 26) (pq := 8) dc_CP_check_5 (by decide) rfl (fun c5 => ?_) (fun c5 => ?_)
  · skip
    refine xv_iconst hX (v := nI 4294967295) dc_CP_check_26 (by decide) (rfl : _ = 27) ?_
    refine xv_reti hX hR rfl dc_CP_check_27 ?_
    exact ⟨rfl, Or.inl ⟨fun z => by first | omega | (have := pia.mpr z.1; omega), rfl⟩⟩
  · skip
    refine xv_aload_n hX 0 dc_CP_check_8 rfl (rfl : _ = 9) ?_
    refine xv_geti hX fl_CP_38 rfl rfl (by decide) (v := M 0 5) rfl dc_CP_check_9 (rfl : _ = 12) ?_
    refine xv_if_eq hX (nI_toInt (by omega)) (tgt := 26) (pq := 15) dc_CP_check_12 (by decide) rfl (fun c12 => ?_) (fun c12 => ?_)
    · skip
      refine xv_iconst hX (v := nI 4294967295) dc_CP_check_26 (by decide) (rfl : _ = 27) ?_
      refine xv_reti hX hR rfl dc_CP_check_27 ?_
      exact ⟨rfl, Or.inl ⟨fun z => by first | omega | (have := pia.mpr z.1; omega), rfl⟩⟩
    · skip
      refine xv_iload_n hX 3 dc_CP_check_15 rfl (rfl : _ = 16) ?_
      refine xv_if_lt hX (rfl : (u).toInt = _) (tgt := 26) (pq := 19) dc_CP_check_16 (by decide) rfl (fun c16 => ?_) (fun c16 => ?_)
      · skip
        refine xv_iconst hX (v := nI 4294967295) dc_CP_check_26 (by decide) (rfl : _ = 27) ?_
        refine xv_reti hX hR rfl dc_CP_check_27 ?_
        exact ⟨rfl, Or.inl ⟨fun z => by first | omega | (have := pia.mpr z.1; omega), rfl⟩⟩
      · skip
        refine xv_iload_n hX 3 dc_CP_check_19 rfl (rfl : _ = 20) ?_
        refine xv_sipush hX (v := nI 255) dc_CP_check_20 (by decide) (rfl : _ = 23) ?_
        refine xv_icmp_le hX (rfl : (u).toInt = _) (show (nI 255).toInt = 255 by decide) (tgt := 28) (pq := 26) dc_CP_check_23 (by decide) rfl (fun c23 => ?_) (fun c23 => ?_)
        · skip
          have hka := pia.mp (by omega)
          obtain ⟨x, hx, rfl⟩ := xi_of (x := i) (by omega)
          have tx : (nI x).toInt = (x : Int) := nI_toInt hx
          obtain ⟨a, ha, rfl⟩ := xi_of (x := u) (by omega)
          have ta : (nI a).toInt = (a : Int) := nI_toInt ha
          refine xv_aload_n hX 0 dc_CP_check_28 rfl (rfl : _ = 29) ?_
          refine xv_getr hX fl_CP_25 rfl rfl (by decide) rfl dc_CP_check_29 (rfl : _ = 32) ?_
          refine xv_iload_n hX 1 dc_CP_check_32 rfl (rfl : _ = 33) ?_
          refine xv_aald hX rfl (C := xw_A2) rfl (by decide) (by omega) (by decide) (v := 6 + 30 * x) (xk_l5 (by omega)) dc_CP_check_33 (rfl : _ = 34) ?_
          refine xv_astore hX [1, 2, 3, 4, 0] dc_CP_check_34 (by decide) (L' := [(0, .ref (Y.2.2.2 0)), (1, .int (nI x)), (2, .int T), (3, .int (nI a)), (4, .ref (Y.2.2.2 (6 + 30 * x)))]) rfl (rfl : _ = 36) ?_
          refine xv_aload_n hX 0 dc_CP_check_36 rfl (rfl : _ = 37) ?_
          refine xv_geti hX fl_CP_38 rfl rfl (by decide) (v := M 0 5) rfl dc_CP_check_37 (rfl : _ = 40) ?_
          refine xv_istore hX [1, 2, 3, 4, 5, 0] dc_CP_check_40 (by decide) (L' := [(0, .ref (Y.2.2.2 0)), (1, .int (nI x)), (2, .int T), (3, .int (nI a)), (4, .ref (Y.2.2.2 (6 + 30 * x))), (5, .int (nI (M 0 5)))]) rfl (rfl : _ = 42) ?_
          refine xv_iconst hX (v := nI 0) dc_CP_check_42 (by decide) (rfl : _ = 43) ?_
          refine xv_istore hX [1, 2, 3, 4, 5, 6, 0] dc_CP_check_43 (by decide) (L' := [(0, .ref (Y.2.2.2 0)), (1, .int (nI x)), (2, .int T), (3, .int (nI a)), (4, .ref (Y.2.2.2 (6 + 30 * x))), (5, .int (nI (M 0 5))), (6, .int (nI 0))]) rfl (rfl : _ = 45) ?_
          have lp45 : ∀ (n : Nat) (h : Nat) (rest : Int32) (p : Nat) (hh : xk_ct h) (hKh : ct_K M h) (hp : p ≤ M 0 5) (hr : -(p : Int) ≤ rest.toInt) (hrun : ∀ k, ck_run M T.toInt a (M 0 5 - p) p h rest.toInt k → ck_run M T.toInt a (M 0 5) 0 (6 + 30 * x) (M 0 5 : Nat) k), M 0 5 - p < n → xv_V X Y 10 0 0 xw_lk xw_N M 45 [(0, .ref (Y.2.2.2 0)), (1, .int (nI x)), (2, .int T), (3, .int (nI a)), (4, .ref (Y.2.2.2 h)), (5, .int rest), (6, .int (nI p))] [] := by
            intro n45
            induction n45 with
            | zero => intro h rest p hh hKh hp hr hrun hm45; exact absurd hm45 (Nat.not_lt_zero _)
            | succ n45 ih45 =>
              intro h rest p hh hKh hp hr hrun hm45
              refine xv_iload hX 6 dc_CP_check_45 rfl (rfl : _ = 47) ?_
              refine xv_aload_n hX 0 dc_CP_check_47 rfl (rfl : _ = 48) ?_
              refine xv_geti hX fl_CP_38 rfl rfl (by decide) (v := M 0 5) rfl dc_CP_check_48 (rfl : _ = 51) ?_
              refine xv_icmp_ge hX (nI_toInt (by omega)) (nI_toInt (by omega)) (tgt := 158) (pq := 54) dc_CP_check_51 (by decide) rfl (fun c51 => ?_) (fun c51 => ?_)
              · skip
                refine xv_iconst hX (v := nI 0) dc_CP_check_158 (by decide) (rfl : _ = 159) ?_
                refine xv_reti hX hR rfl dc_CP_check_159 ?_
                refine ⟨rfl, Or.inr ⟨x, a, 0, rfl, by omega, by omega, rfl, by omega, rfl, hrun _ ?_⟩⟩
                rw [show M 0 5 - p = 0 by omega]
                exact rfl
              · skip
                have hpp := hpa p (by omega)
                have hKX := hK _ hpp
                refine xv_aload_n hX 0 dc_CP_check_54 rfl (rfl : _ = 55) ?_
                refine xv_getr hX fl_CP_25 rfl rfl (by decide) rfl dc_CP_check_55 (rfl : _ = 58) ?_
                refine xv_aload_n hX 0 dc_CP_check_58 rfl (rfl : _ = 59) ?_
                refine xv_getr hX fl_CP_34 rfl rfl (by decide) rfl dc_CP_check_59 (rfl : _ = 62) ?_
                refine xv_iload hX 6 dc_CP_check_62 rfl (rfl : _ = 64) ?_
                refine xv_iald hX rfl (by decide) (by omega) (by decide) (v := M 276 p) rfl dc_CP_check_64 (rfl : _ = 65) ?_
                refine xv_aald hX rfl (C := xw_A2) rfl (by decide) (by omega) (by decide) (v := 6 + 30 * (M 276 p)) (xk_l5 (by omega)) dc_CP_check_65 (rfl : _ = 66) ?_
                refine xv_astore hX [1, 2, 3, 4, 5, 6, 7, 0] dc_CP_check_66 (by decide) (L' := [(0, .ref (Y.2.2.2 0)), (1, .int (nI x)), (2, .int T), (3, .int (nI a)), (4, .ref (Y.2.2.2 h)), (5, .int rest), (6, .int (nI p)), (7, .ref (Y.2.2.2 (6 + 30 * (M 276 p))))]) rfl (rfl : _ = 68) ?_
                refine xv_iload hX 6 dc_CP_check_68 rfl (rfl : _ = 70) ?_
                refine xv_aload_n hX 0 dc_CP_check_70 rfl (rfl : _ = 71) ?_
                refine xv_geti hX fl_CP_38 rfl rfl (by decide) (v := M 0 5) rfl dc_CP_check_71 (rfl : _ = 74) ?_
                refine xv_iconst hX (v := nI 1) dc_CP_check_74 (by decide) (rfl : _ = 75) ?_
                refine xv_isub hX dc_CP_check_75 (pk_sub (by omega)) (rfl : _ = 76) ?_
                refine xv_icmp_ne hX (nI_toInt (by omega)) (nI_toInt (by omega)) (tgt := 83) (pq := 79) dc_CP_check_76 (by decide) rfl (fun c76 => ?_) (fun c76 => ?_)
                · skip
                  refine xv_iconst hX (v := nI 0) dc_CP_check_83 (by decide) (rfl : _ = 84) ?_
                  refine xv_istore hX [1, 2, 3, 4, 5, 6, 7, 8, 0] dc_CP_check_84 (by decide) (L' := [(0, .ref (Y.2.2.2 0)), (1, .int (nI x)), (2, .int T), (3, .int (nI a)), (4, .ref (Y.2.2.2 h)), (5, .int rest), (6, .int (nI p)), (7, .ref (Y.2.2.2 (6 + 30 * (M 276 p)))), (8, .int (nI 0))]) rfl (rfl : _ = 86) ?_
                  refine xv_aload_n hX 0 dc_CP_check_86 rfl (rfl : _ = 87) ?_
                  refine xv_aload hX 4 dc_CP_check_87 rfl (rfl : _ = 89) ?_
                  refine xv_iload hX 6 dc_CP_check_89 rfl (rfl : _ = 91) ?_
                  refine xv_iload_n hX 2 dc_CP_check_91 rfl (rfl : _ = 92) ?_
                  refine xv_calli hX (As := [.ref (Y.2.2.2 h), .int (nI p), .int T]) (rest := []) (ct_CP_brokenAnywhere _ Y M h p T hh hKh (by omega) hk8 hl6 hpa hK) ml_CP_85 li_CP_brokenAnywhere rfl (by decide) rfl rfl rfl (by decide) ⟨by decide, by decide⟩ ⟨Nat.le_refl _, Nat.le_refl _⟩ (Nat.le_of_ble_eq_true rfl) dc_CP_check_92 (rfl : _ = 95) (fun r92 M92 p92 => ?_)
                  obtain ⟨pM92, v, pr92, hv⟩ := p92
                  rw [pM92, pr92]
                  have hv5 := ck_any_lt hv
                  refine xv_istore hX [1, 2, 3, 4, 5, 6, 7, 8, 9, 0] dc_CP_check_95 (by decide) (L' := [(0, .ref (Y.2.2.2 0)), (1, .int (nI x)), (2, .int T), (3, .int (nI a)), (4, .ref (Y.2.2.2 h)), (5, .int rest), (6, .int (nI p)), (7, .ref (Y.2.2.2 (6 + 30 * (M 276 p)))), (8, .int (nI 0)), (9, .int (nI v))]) rfl (rfl : _ = 97) ?_
                  refine xv_iload hX 9 dc_CP_check_97 rfl (rfl : _ = 99) ?_
                  refine xv_if_ne hX (nI_toInt (by omega)) (tgt := 125) (pq := 102) dc_CP_check_99 (by decide) rfl (fun c99 => ?_) (fun c99 => ?_)
                  · skip
                    refine xv_iload hX 9 dc_CP_check_125 rfl (rfl : _ = 127) ?_
                    refine xv_if_eq hX (nI_toInt (by omega)) (tgt := 139) (pq := 130) dc_CP_check_127 (by decide) rfl (fun c127 => ?_) (fun c127 => ?_)
                    · skip
                      exact absurd c127 (by omega)
                    · skip
                      refine xv_bipush hX (v := nI 16) dc_CP_check_130 (by decide) (rfl : _ = 132) ?_
                      refine xv_iload hX 6 dc_CP_check_132 rfl (rfl : _ = 134) ?_
                      refine xv_imul hX dc_CP_check_134 (pk_mul 16 p) (rfl : _ = 135) ?_
                      refine xv_iload hX 9 dc_CP_check_135 rfl (rfl : _ = 137) ?_
                      refine xv_iadd hX dc_CP_check_137 (nI_add (16 * p) v) (rfl : _ = 138) ?_
                      refine xv_reti hX hR rfl dc_CP_check_138 ?_
                      refine ⟨rfl, Or.inr ⟨x, a, 16 * p + v, rfl, by omega, by omega, rfl, by omega, rfl, hrun _ ?_⟩⟩
                      rw [show M 0 5 - p = (M 0 5 - (p + 1)) + 1 by omega]
                      exact ⟨v, v, hv, Or.inl ⟨by omega, rfl⟩, Or.inl ⟨by omega, rfl⟩⟩
                  · skip
                    refine xv_iload hX 8 dc_CP_check_102 rfl (rfl : _ = 104) ?_
                    refine xv_if_eq hX (show (nI 0).toInt = 0 by decide) (tgt := 116) (pq := 107) dc_CP_check_104 (by decide) rfl (fun c104 => ?_) (fun c104 => ?_)
                    · skip
                      refine xv_aload hX 7 dc_CP_check_116 rfl (rfl : _ = 118) ?_
                      refine xv_iload hX 5 dc_CP_check_118 rfl (rfl : _ = 120) ?_
                      refine xv_calli hX (As := [.int rest]) (rest := []) (ct_CT_brokenAsHolder _ Y M (6 + 30 * M 276 p) (xk_cert (by omega)) hKX rest) ml_CP_92 li_CT_brokenAsHolder (xk_cert (by omega)).1 (xk_N (by omega)) rfl rfl rfl (by decide) ⟨by decide, by decide⟩ ⟨Nat.le_refl _, Nat.le_refl _⟩ (Nat.le_of_ble_eq_true rfl) dc_CP_check_120 (rfl : _ = 123) (fun r120 M120 p120 => ?_)
                      obtain ⟨pM120, w, pr120, hw⟩ := p120
                      rw [pM120, pr120]
                      have hw9 : w ≤ 9 := by omega
                      refine xv_istore hX [1, 2, 3, 4, 5, 6, 7, 8, 9, 0] dc_CP_check_123 (by decide) (L' := [(0, .ref (Y.2.2.2 0)), (1, .int (nI x)), (2, .int T), (3, .int (nI a)), (4, .ref (Y.2.2.2 h)), (5, .int rest), (6, .int (nI p)), (7, .ref (Y.2.2.2 (6 + 30 * (M 276 p)))), (8, .int (nI 0)), (9, .int (nI w))]) rfl (rfl : _ = 125) ?_
                      refine xv_iload hX 9 dc_CP_check_125 rfl (rfl : _ = 127) ?_
                      refine xv_if_eq hX (nI_toInt (by omega)) (tgt := 139) (pq := 130) dc_CP_check_127 (by decide) rfl (fun c127 => ?_) (fun c127 => ?_)
                      · skip
                        refine xv_aload hX 7 dc_CP_check_139 rfl (rfl : _ = 141) ?_
                        refine xv_iload hX 5 dc_CP_check_141 rfl (rfl : _ = 143) ?_
                        refine xv_calli hX (As := [.int rest]) (rest := []) (ct_CT_restBehind _ Y M (6 + 30 * M 276 p) (xk_cert (by omega)) hKX rest (by omega)) ml_CP_95 li_CT_restBehind (xk_cert (by omega)).1 (xk_N (by omega)) rfl rfl rfl (by decide) ⟨by decide, by decide⟩ ⟨Nat.le_refl _, Nat.le_refl _⟩ (Nat.le_of_ble_eq_true rfl) dc_CP_check_143 (rfl : _ = 146) (fun r143 M143 p143 => ?_)
                        obtain ⟨pM143, left, hl1, hl2⟩ := p143
                        rw [pM143]
                        obtain ⟨rest2, hr2⟩ : ∃ z, r143 = z := ⟨_, rfl⟩
                        rw [hr2] at hl2 ⊢
                        have hr3 : -((p : Int) + 1) ≤ rest2.toInt := by omega
                        refine xv_istore hX [1, 2, 3, 4, 5, 0, 6, 7, 8, 9] dc_CP_check_146 (by decide) (L' := [(0, .ref (Y.2.2.2 0)), (1, .int (nI x)), (2, .int T), (3, .int (nI a)), (4, .ref (Y.2.2.2 h)), (5, .int rest2), (6, .int (nI p)), (7, .ref (Y.2.2.2 (6 + 30 * (M 276 p)))), (8, .int (nI 0)), (9, .int (nI w))]) rfl (rfl : _ = 148) ?_
                        refine xv_aload hX 7 dc_CP_check_148 rfl (rfl : _ = 150) ?_
                        refine xv_astore hX [1, 2, 3, 4, 0, 5, 6, 7, 8, 9] dc_CP_check_150 (by decide) (L' := [(0, .ref (Y.2.2.2 0)), (1, .int (nI x)), (2, .int T), (3, .int (nI a)), (4, .ref (Y.2.2.2 (6 + 30 * (M 276 p)))), (5, .int rest2), (6, .int (nI p)), (7, .ref (Y.2.2.2 (6 + 30 * (M 276 p)))), (8, .int (nI 0)), (9, .int (nI w))]) rfl (rfl : _ = 152) ?_
                        refine xv_iinc hX 6 [1, 2, 3, 4, 5, 6, 0, 7, 8, 9] dc_CP_check_152 rfl (xi_inc p 1) (by decide) (L' := [(0, .ref (Y.2.2.2 0)), (1, .int (nI x)), (2, .int T), (3, .int (nI a)), (4, .ref (Y.2.2.2 (6 + 30 * (M 276 p)))), (5, .int rest2), (6, .int (nI (p + 1))), (7, .ref (Y.2.2.2 (6 + 30 * (M 276 p)))), (8, .int (nI 0)), (9, .int (nI w))]) rfl (rfl : _ = 155) ?_
                        refine xv_goto hX (pq := 45) dc_CP_check_155 (by decide) ?_
                        refine xv_sub (L' := [(0, .ref (Y.2.2.2 0)), (1, .int (nI x)), (2, .int T), (3, .int (nI a)), (4, .ref (Y.2.2.2 (6 + 30 * (M 276 p)))), (5, .int rest2), (6, .int (nI (p + 1)))]) [0, 1, 2, 3, 4, 5, 6] rfl ?_
                        exact ih45 (6 + 30 * M 276 p) rest2 (p + 1) (xk_cert (by omega)) hKX (by omega) (by omega) (fun k hk => hrun k (by rw [show M 0 5 - p = (M 0 5 - (p + 1)) + 1 by omega]; exact ⟨v, w, hv, by first | exact Or.inr ⟨by omega, Or.inl ⟨by omega, hw⟩⟩ | exact Or.inr ⟨by omega, Or.inr ⟨by omega, hw⟩⟩, Or.inr ⟨by omega, rest2.toInt, ⟨left, hl1, hl2⟩, hk⟩⟩)) (by omega)
                      · skip
                        refine xv_bipush hX (v := nI 16) dc_CP_check_130 (by decide) (rfl : _ = 132) ?_
                        refine xv_iload hX 6 dc_CP_check_132 rfl (rfl : _ = 134) ?_
                        refine xv_imul hX dc_CP_check_134 (pk_mul 16 p) (rfl : _ = 135) ?_
                        refine xv_iload hX 9 dc_CP_check_135 rfl (rfl : _ = 137) ?_
                        refine xv_iadd hX dc_CP_check_137 (nI_add (16 * p) w) (rfl : _ = 138) ?_
                        refine xv_reti hX hR rfl dc_CP_check_138 ?_
                        refine ⟨rfl, Or.inr ⟨x, a, 16 * p + w, rfl, by omega, by omega, rfl, by omega, rfl, hrun _ ?_⟩⟩
                        rw [show M 0 5 - p = (M 0 5 - (p + 1)) + 1 by omega]
                        exact ⟨v, w, hv, by first | exact Or.inr ⟨by omega, Or.inl ⟨by omega, hw⟩⟩ | exact Or.inr ⟨by omega, Or.inr ⟨by omega, hw⟩⟩, Or.inl ⟨by omega, rfl⟩⟩
                    · skip
                      exact absurd c104 (by decide)
                · skip
                  refine xv_iconst hX (v := nI 1) dc_CP_check_79 (by decide) (rfl : _ = 80) ?_
                  refine xv_goto hX (pq := 84) dc_CP_check_80 (by decide) ?_
                  refine xv_istore hX [1, 2, 3, 4, 5, 6, 7, 8, 0] dc_CP_check_84 (by decide) (L' := [(0, .ref (Y.2.2.2 0)), (1, .int (nI x)), (2, .int T), (3, .int (nI a)), (4, .ref (Y.2.2.2 h)), (5, .int rest), (6, .int (nI p)), (7, .ref (Y.2.2.2 (6 + 30 * (M 276 p)))), (8, .int (nI 1))]) rfl (rfl : _ = 86) ?_
                  refine xv_aload_n hX 0 dc_CP_check_86 rfl (rfl : _ = 87) ?_
                  refine xv_aload hX 4 dc_CP_check_87 rfl (rfl : _ = 89) ?_
                  refine xv_iload hX 6 dc_CP_check_89 rfl (rfl : _ = 91) ?_
                  refine xv_iload_n hX 2 dc_CP_check_91 rfl (rfl : _ = 92) ?_
                  refine xv_calli hX (As := [.ref (Y.2.2.2 h), .int (nI p), .int T]) (rest := []) (ct_CP_brokenAnywhere _ Y M h p T hh hKh (by omega) hk8 hl6 hpa hK) ml_CP_85 li_CP_brokenAnywhere rfl (by decide) rfl rfl rfl (by decide) ⟨by decide, by decide⟩ ⟨Nat.le_refl _, Nat.le_refl _⟩ (Nat.le_of_ble_eq_true rfl) dc_CP_check_92 (rfl : _ = 95) (fun r92 M92 p92 => ?_)
                  obtain ⟨pM92, v, pr92, hv⟩ := p92
                  rw [pM92, pr92]
                  have hv5 := ck_any_lt hv
                  refine xv_istore hX [1, 2, 3, 4, 5, 6, 7, 8, 9, 0] dc_CP_check_95 (by decide) (L' := [(0, .ref (Y.2.2.2 0)), (1, .int (nI x)), (2, .int T), (3, .int (nI a)), (4, .ref (Y.2.2.2 h)), (5, .int rest), (6, .int (nI p)), (7, .ref (Y.2.2.2 (6 + 30 * (M 276 p)))), (8, .int (nI 1)), (9, .int (nI v))]) rfl (rfl : _ = 97) ?_
                  refine xv_iload hX 9 dc_CP_check_97 rfl (rfl : _ = 99) ?_
                  refine xv_if_ne hX (nI_toInt (by omega)) (tgt := 125) (pq := 102) dc_CP_check_99 (by decide) rfl (fun c99 => ?_) (fun c99 => ?_)
                  · skip
                    refine xv_iload hX 9 dc_CP_check_125 rfl (rfl : _ = 127) ?_
                    refine xv_if_eq hX (nI_toInt (by omega)) (tgt := 139) (pq := 130) dc_CP_check_127 (by decide) rfl (fun c127 => ?_) (fun c127 => ?_)
                    · skip
                      exact absurd c127 (by omega)
                    · skip
                      refine xv_bipush hX (v := nI 16) dc_CP_check_130 (by decide) (rfl : _ = 132) ?_
                      refine xv_iload hX 6 dc_CP_check_132 rfl (rfl : _ = 134) ?_
                      refine xv_imul hX dc_CP_check_134 (pk_mul 16 p) (rfl : _ = 135) ?_
                      refine xv_iload hX 9 dc_CP_check_135 rfl (rfl : _ = 137) ?_
                      refine xv_iadd hX dc_CP_check_137 (nI_add (16 * p) v) (rfl : _ = 138) ?_
                      refine xv_reti hX hR rfl dc_CP_check_138 ?_
                      refine ⟨rfl, Or.inr ⟨x, a, 16 * p + v, rfl, by omega, by omega, rfl, by omega, rfl, hrun _ ?_⟩⟩
                      rw [show M 0 5 - p = (M 0 5 - (p + 1)) + 1 by omega]
                      exact ⟨v, v, hv, Or.inl ⟨by omega, rfl⟩, Or.inl ⟨by omega, rfl⟩⟩
                  · skip
                    refine xv_iload hX 8 dc_CP_check_102 rfl (rfl : _ = 104) ?_
                    refine xv_if_eq hX (show (nI 1).toInt = 1 by decide) (tgt := 116) (pq := 107) dc_CP_check_104 (by decide) rfl (fun c104 => ?_) (fun c104 => ?_)
                    · skip
                      exact absurd c104 (by decide)
                    · skip
                      refine xv_aload hX 7 dc_CP_check_107 rfl (rfl : _ = 109) ?_
                      refine xv_iload_n hX 3 dc_CP_check_109 rfl (rfl : _ = 110) ?_
                      refine xv_calli hX (As := [.int (nI a)]) (rest := []) (ct_CT_brokenAsLast _ Y M (6 + 30 * M 276 p) (xk_cert (by omega)) hKX a (by omega)) ml_CP_89 li_CT_brokenAsLast (xk_cert (by omega)).1 (xk_N (by omega)) rfl rfl rfl (by decide) ⟨by decide, by decide⟩ ⟨Nat.le_refl _, Nat.le_refl _⟩ (Nat.le_of_ble_eq_true rfl) dc_CP_check_110 (rfl : _ = 113) (fun r110 M110 p110 => ?_)
                      obtain ⟨pM110, w, pr110, hw⟩ := p110
                      rw [pM110, pr110]
                      have hw9 : w ≤ 9 := by omega
                      refine xv_goto hX (pq := 123) dc_CP_check_113 (by decide) ?_
                      refine xv_istore hX [1, 2, 3, 4, 5, 6, 7, 8, 9, 0] dc_CP_check_123 (by decide) (L' := [(0, .ref (Y.2.2.2 0)), (1, .int (nI x)), (2, .int T), (3, .int (nI a)), (4, .ref (Y.2.2.2 h)), (5, .int rest), (6, .int (nI p)), (7, .ref (Y.2.2.2 (6 + 30 * (M 276 p)))), (8, .int (nI 1)), (9, .int (nI w))]) rfl (rfl : _ = 125) ?_
                      refine xv_iload hX 9 dc_CP_check_125 rfl (rfl : _ = 127) ?_
                      refine xv_if_eq hX (nI_toInt (by omega)) (tgt := 139) (pq := 130) dc_CP_check_127 (by decide) rfl (fun c127 => ?_) (fun c127 => ?_)
                      · skip
                        refine xv_aload hX 7 dc_CP_check_139 rfl (rfl : _ = 141) ?_
                        refine xv_iload hX 5 dc_CP_check_141 rfl (rfl : _ = 143) ?_
                        refine xv_calli hX (As := [.int rest]) (rest := []) (ct_CT_restBehind _ Y M (6 + 30 * M 276 p) (xk_cert (by omega)) hKX rest (by omega)) ml_CP_95 li_CT_restBehind (xk_cert (by omega)).1 (xk_N (by omega)) rfl rfl rfl (by decide) ⟨by decide, by decide⟩ ⟨Nat.le_refl _, Nat.le_refl _⟩ (Nat.le_of_ble_eq_true rfl) dc_CP_check_143 (rfl : _ = 146) (fun r143 M143 p143 => ?_)
                        obtain ⟨pM143, left, hl1, hl2⟩ := p143
                        rw [pM143]
                        obtain ⟨rest2, hr2⟩ : ∃ z, r143 = z := ⟨_, rfl⟩
                        rw [hr2] at hl2 ⊢
                        have hr3 : -((p : Int) + 1) ≤ rest2.toInt := by omega
                        refine xv_istore hX [1, 2, 3, 4, 5, 0, 6, 7, 8, 9] dc_CP_check_146 (by decide) (L' := [(0, .ref (Y.2.2.2 0)), (1, .int (nI x)), (2, .int T), (3, .int (nI a)), (4, .ref (Y.2.2.2 h)), (5, .int rest2), (6, .int (nI p)), (7, .ref (Y.2.2.2 (6 + 30 * (M 276 p)))), (8, .int (nI 1)), (9, .int (nI w))]) rfl (rfl : _ = 148) ?_
                        refine xv_aload hX 7 dc_CP_check_148 rfl (rfl : _ = 150) ?_
                        refine xv_astore hX [1, 2, 3, 4, 0, 5, 6, 7, 8, 9] dc_CP_check_150 (by decide) (L' := [(0, .ref (Y.2.2.2 0)), (1, .int (nI x)), (2, .int T), (3, .int (nI a)), (4, .ref (Y.2.2.2 (6 + 30 * (M 276 p)))), (5, .int rest2), (6, .int (nI p)), (7, .ref (Y.2.2.2 (6 + 30 * (M 276 p)))), (8, .int (nI 1)), (9, .int (nI w))]) rfl (rfl : _ = 152) ?_
                        refine xv_iinc hX 6 [1, 2, 3, 4, 5, 6, 0, 7, 8, 9] dc_CP_check_152 rfl (xi_inc p 1) (by decide) (L' := [(0, .ref (Y.2.2.2 0)), (1, .int (nI x)), (2, .int T), (3, .int (nI a)), (4, .ref (Y.2.2.2 (6 + 30 * (M 276 p)))), (5, .int rest2), (6, .int (nI (p + 1))), (7, .ref (Y.2.2.2 (6 + 30 * (M 276 p)))), (8, .int (nI 1)), (9, .int (nI w))]) rfl (rfl : _ = 155) ?_
                        refine xv_goto hX (pq := 45) dc_CP_check_155 (by decide) ?_
                        refine xv_sub (L' := [(0, .ref (Y.2.2.2 0)), (1, .int (nI x)), (2, .int T), (3, .int (nI a)), (4, .ref (Y.2.2.2 (6 + 30 * (M 276 p)))), (5, .int rest2), (6, .int (nI (p + 1)))]) [0, 1, 2, 3, 4, 5, 6] rfl ?_
                        exact ih45 (6 + 30 * M 276 p) rest2 (p + 1) (xk_cert (by omega)) hKX (by omega) (by omega) (fun k hk => hrun k (by rw [show M 0 5 - p = (M 0 5 - (p + 1)) + 1 by omega]; exact ⟨v, w, hv, by first | exact Or.inr ⟨by omega, Or.inl ⟨by omega, hw⟩⟩ | exact Or.inr ⟨by omega, Or.inr ⟨by omega, hw⟩⟩, Or.inr ⟨by omega, rest2.toInt, ⟨left, hl1, hl2⟩, hk⟩⟩)) (by omega)
                      · skip
                        refine xv_bipush hX (v := nI 16) dc_CP_check_130 (by decide) (rfl : _ = 132) ?_
                        refine xv_iload hX 6 dc_CP_check_132 rfl (rfl : _ = 134) ?_
                        refine xv_imul hX dc_CP_check_134 (pk_mul 16 p) (rfl : _ = 135) ?_
                        refine xv_iload hX 9 dc_CP_check_135 rfl (rfl : _ = 137) ?_
                        refine xv_iadd hX dc_CP_check_137 (nI_add (16 * p) w) (rfl : _ = 138) ?_
                        refine xv_reti hX hR rfl dc_CP_check_138 ?_
                        refine ⟨rfl, Or.inr ⟨x, a, 16 * p + w, rfl, by omega, by omega, rfl, by omega, rfl, hrun _ ?_⟩⟩
                        rw [show M 0 5 - p = (M 0 5 - (p + 1)) + 1 by omega]
                        exact ⟨v, w, hv, by first | exact Or.inr ⟨by omega, Or.inl ⟨by omega, hw⟩⟩ | exact Or.inr ⟨by omega, Or.inr ⟨by omega, hw⟩⟩, Or.inl ⟨by omega, rfl⟩⟩
          refine xv_sub (L' := [(0, .ref (Y.2.2.2 0)), (1, .int (nI x)), (2, .int T), (3, .int (nI a)), (4, .ref (Y.2.2.2 (6 + 30 * x))), (5, .int (nI (M 0 5))), (6, .int (nI 0))]) [0, 1, 2, 3, 4, 5, 6] rfl ?_
          exact lp45 _ (6 + 30 * x) (nI (M 0 5)) 0 (xk_cert (by omega)) (hK _ (by omega)) (Nat.zero_le _) (by rw [nI_toInt (by omega)]; omega) (fun k hk => by rw [nI_toInt (by omega)] at hk; exact hk) (Nat.lt_succ_self _)
        · skip
          refine xv_iconst hX (v := nI 4294967295) dc_CP_check_26 (by decide) (rfl : _ = 27) ?_
          refine xv_reti hX hR rfl dc_CP_check_27 ?_
          exact ⟨rfl, Or.inl ⟨fun z => by first | omega | (have := pia.mpr z.1; omega), rfl⟩⟩
