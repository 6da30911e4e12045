/-! CertificatePath: accept, field, within -/
theorem ct_C_cg {b : Nat → Nat} {M M' : xm_M} {c : Nat} {C : ps_C} (h : ∀ q, c ≤ q → M' q = M q) (hC : ct_C b M c C) : ct_C b M' c C := by
  unfold ct_C ct_H ct_E nl_is ex_is nm_is at *
  have e : ∀ k, M' (c + k) = M (c + k) := fun k => h _ (by omega)
  have e0 : M' c = M c := h _ (by omega)
  simp only [Nat.add_assoc] at *
  simp only [e, e0]
  exact hC

set_option maxRecDepth 100000 in
set_option maxHeartbeats 4000000 in
theorem ct_CP_accept (l : Launch) (Y : xw_Y) (M : xm_M) (hk8 : M 0 3 ≤ 8) (h1 : M 2 1 ≤ 160) (h2 : ∀ j, j < 160 → M 3 j < 256) : xc_i l qm_CP_accept 6 Y [.ref (Y.2.2.2 0)] M (fun r M1 => (∀ q, q ≠ 0 → q ≠ 1 → q ≠ 4 → (q < (6 + 30 * M 0 3) ∨ (6 + 30 * M 0 3) + 30 ≤ q) → M1 q = M q) ∧ (∀ j, j ≠ 3 → M1 0 j = M 0 j) ∧ ((r = nI 4294967295 ∧ M1 0 3 = M 0 3 ∧ ps_cert (M 3) 0 (M 2 1) = none) ∨ (∃ C9, ps_cert (M 3) 0 (M 2 1) = some C9 ∧ ((r = nI 4294967294 ∧ M 0 3 = 8 ∧ M1 0 3 = 8) ∨ (M 0 3 < 8 ∧ r = nI (M 0 3) ∧ M1 0 3 = M 0 3 + 1 ∧ ct_C (M 3) M1 (6 + 30 * M 0 3) C9))))) := by
  refine xc_i.mk .int rfl (by decide) (Nat.le_of_ble_eq_true rfl) ?_
  intro X hXl hX hR
  subst hXl
  have hX : xv_ok X Y prog_1_method_8_code "CertificatePath" 1 (xc_rm 6) := hX
  show xv_V X Y 1 0 0 xw_lk xw_N M 0 [(0, .ref (Y.2.2.2 0))] []
  refine xv_aload_n hX 0 dc_CP_accept_0 rfl (rfl : _ = 1) ?_
  refine xv_getr hX fl_CP_25 rfl rfl (by decide) rfl dc_CP_accept_1 (rfl : _ = 4) ?_
  refine xv_aload_n hX 0 dc_CP_accept_4 rfl (rfl : _ = 5) ?_
  refine xv_geti hX fl_CP_30 rfl rfl (by decide) (v := M 0 3) rfl dc_CP_accept_5 (rfl : _ = 8) ?_
  refine xv_aald hX rfl (C := xw_A2) rfl (by decide) (by omega) (by decide) (v := 6 + 30 * (M 0 3)) (xk_l5 (by omega)) dc_CP_accept_8 (rfl : _ = 9) ?_
  refine xv_aload_n hX 0 dc_CP_accept_9 rfl (rfl : _ = 10) ?_
  refine xv_getr hX fl_CP_10 rfl rfl (by decide) rfl dc_CP_accept_10 (rfl : _ = 13) ?_
  refine xv_calli hX (As := [.ref (Y.2.2.2 1)]) (rest := []) (ct_CT_readFrom _ Y M (6 + 30 * M 0 3) (xk_cert (by omega)) h1 h2) ml_CP_61 li_CT_readFrom (xk_cert (by omega)).1 (xk_N (by omega)) rfl rfl rfl (by decide) ⟨by decide, by decide⟩ ⟨Nat.le_refl _, Nat.le_refl _⟩ (Nat.le_of_ble_eq_true rfl) dc_CP_accept_13 (rfl : _ = 16) (fun r13 M13 p13 => ?_)
  obtain ⟨i13, F13, t, pr, pt, pi1, pi0⟩ := p13
  rw [pr]
  have z13 : M13 0 3 = M 0 3 := by rw [F13 0 (by decide) (by decide) (by omega)]
  refine xv_if_ne hX (nI_toInt (by omega)) (tgt := 21) (pq := 19) dc_CP_accept_16 (by decide) rfl (fun c16 => ?_) (fun c16 => ?_)
  · skip
    refine xv_aload_n hX 0 dc_CP_accept_21 rfl (rfl : _ = 22) ?_
    refine xv_geti hX fl_CP_30 rfl rfl (by decide) (v := M13 0 3) rfl dc_CP_accept_22 (rfl : _ = 25) ?_
    refine xv_bipush hX (v := nI 8) dc_CP_accept_25 (by decide) (rfl : _ = 27) ?_
    refine xv_icmp_ne hX (nI_toInt (by omega)) (show (nI 8).toInt = 8 by decide) (tgt := 33) (pq := 30) dc_CP_accept_27 (by decide) rfl (fun c27 => ?_) (fun c27 => ?_)
    · skip
      refine xv_aload_n hX 0 dc_CP_accept_33 rfl (rfl : _ = 34) ?_
      refine xv_dup hX dc_CP_accept_34 rfl (rfl : _ = 35) ?_
      refine xv_geti hX fl_CP_30 rfl rfl (by decide) (v := M13 0 3) rfl dc_CP_accept_35 (rfl : _ = 38) ?_
      refine xv_iconst hX (v := nI 1) dc_CP_accept_38 (by decide) (rfl : _ = 39) ?_
      refine xv_iadd hX dc_CP_accept_39 (nI_add (M13 0 3) 1) (rfl : _ = 40) ?_
      refine xv_puti hX fl_CP_30 rfl rfl (by decide) dc_CP_accept_40 (rfl : _ = 43) ?_
      refine xv_aload_n hX 0 dc_CP_accept_43 rfl (rfl : _ = 44) ?_
      refine xv_geti hX fl_CP_30 rfl rfl (by decide) (v := M13 0 3 + 1) xm_eq dc_CP_accept_44 (rfl : _ = 47) ?_
      refine xv_iconst hX (v := nI 1) dc_CP_accept_47 (by decide) (rfl : _ = 48) ?_
      refine xv_isub hX dc_CP_accept_48 (pk_sub (by omega)) (rfl : _ = 49) ?_
      refine xv_reti hX hR rfl dc_CP_accept_49 ?_
      obtain ⟨C9, hC, hct⟩ := pi1 (by omega)
      have hx : ∀ q, q ≠ 0 → xm_set M13 0 3 (M13 0 3 + 1) q = M13 q := fun q a => xm_oth a
      refine ⟨fun q a0 a1 a2 a3 => by rw [hx q a0]; exact F13 q a1 a2 a3, fun j a => by rw [xm_nk a, F13 0 (by decide) (by decide) (by omega)], Or.inr ⟨C9, hC, Or.inr ⟨by omega, by rw [show M13 0 3 + 1 - 1 = M 0 3 by omega], by rw [xm_eq, z13], ?_⟩⟩⟩
      exact ct_C_cg (fun q a => hx q (by omega)) hct
    · skip
      refine xv_bipush hX (v := nI 4294967294) dc_CP_accept_30 (by decide) (rfl : _ = 32) ?_
      refine xv_reti hX hR rfl dc_CP_accept_32 ?_
      obtain ⟨C9, hC, -⟩ := pi1 (by omega)
      exact ⟨fun q a0 a1 a2 a3 => F13 q a1 a2 a3, fun j _ => by rw [F13 0 (by decide) (by decide) (by omega)], Or.inr ⟨C9, hC, Or.inl ⟨rfl, by omega, by omega⟩⟩⟩
  · skip
    refine xv_iconst hX (v := nI 4294967295) dc_CP_accept_19 (by decide) (rfl : _ = 20) ?_
    refine xv_reti hX hR rfl dc_CP_accept_20 ?_
    exact ⟨fun q a0 a1 a2 a3 => F13 q a1 a2 a3, fun j _ => by rw [F13 0 (by decide) (by decide) (by omega)], Or.inl ⟨rfl, z13, pi0 (by omega)⟩⟩

set_option maxRecDepth 100000 in
set_option maxHeartbeats 4000000 in
theorem ct_CT_fieldNumbered (l : Launch) (Y : xw_Y) (M : xm_M) (c : Nat) (k : Int32) (hc : xk_ct c) (h11 : M c 11 ≤ 1) : xc_i l qm_CT_fieldNumbered 0 Y [.ref (Y.2.2.2 c), .int k] M (fun r M1 => M1 = M ∧ ((∃ j : Nat, j < 15 ∧ k.toInt = (j : Int) ∧ r = nI (fl_v M c j)) ∨ (¬ (0 ≤ k.toInt ∧ k.toInt ≤ 14) ∧ r = nI 4294967295))) := by
  refine xc_i.mk .int rfl (by decide) (Nat.le_of_ble_eq_true rfl) ?_
  intro X hXl hX hR
  subst hXl
  have hX : xv_ok X Y prog_3_method_3_code "CertificatePath$Certificate" 2 (xc_rm 0) := hX
  show xv_V X Y 2 0 0 xw_lk xw_N M 0 [(0, .ref (Y.2.2.2 c)), (1, .int k)] []
  have hc6 : 6 ≤ c := hc.2.2.2.2.2.2.1
  have hc29 : c + 29 < 276 := hc.2.2.2.2.2.2.2
  refine xv_iload_n hX 1 dc_CT_fieldNumbered_0 rfl (rfl : _ = 1) ?_
  by_cases sw1_0 : (k).toInt = 0
  · skip
    refine xv_tsIn hX (rfl : (k).toInt = _) (tgt := 76) dc_CT_fieldNumbered_1 (by omega) (by omega) (by rw [sw1_0]; rfl) (by decide) ?_
    refine xv_aload_n hX 0 dc_CT_fieldNumbered_76 rfl (rfl : _ = 77) ?_
    refine xv_geti hX fl_CT_58 rfl hc.1 (xk_N (by omega)) (v := M c 0) rfl dc_CT_fieldNumbered_77 (rfl : _ = 80) ?_
    refine xv_reti hX hR rfl dc_CT_fieldNumbered_80 ?_
    exact ⟨rfl, Or.inl ⟨0, by decide, by omega, rfl⟩⟩
  by_cases sw1_1 : (k).toInt = 1
  · skip
    refine xv_tsIn hX (rfl : (k).toInt = _) (tgt := 81) dc_CT_fieldNumbered_1 (by omega) (by omega) (by rw [sw1_1]; rfl) (by decide) ?_
    refine xv_aload_n hX 0 dc_CT_fieldNumbered_81 rfl (rfl : _ = 82) ?_
    refine xv_geti hX fl_CT_61 rfl hc.1 (xk_N (by omega)) (v := M c 2) rfl dc_CT_fieldNumbered_82 (rfl : _ = 85) ?_
    refine xv_reti hX hR rfl dc_CT_fieldNumbered_85 ?_
    exact ⟨rfl, Or.inl ⟨1, by decide, by omega, rfl⟩⟩
  by_cases sw1_2 : (k).toInt = 2
  · skip
    refine xv_tsIn hX (rfl : (k).toInt = _) (tgt := 86) dc_CT_fieldNumbered_1 (by omega) (by omega) (by rw [sw1_2]; rfl) (by decide) ?_
    refine xv_aload_n hX 0 dc_CT_fieldNumbered_86 rfl (rfl : _ = 87) ?_
    refine xv_geti hX fl_CT_64 rfl hc.1 (xk_N (by omega)) (v := M c 3) rfl dc_CT_fieldNumbered_87 (rfl : _ = 90) ?_
    refine xv_reti hX hR rfl dc_CT_fieldNumbered_90 ?_
    exact ⟨rfl, Or.inl ⟨2, by decide, by omega, rfl⟩⟩
  by_cases sw1_3 : (k).toInt = 3
  · skip
    refine xv_tsIn hX (rfl : (k).toInt = _) (tgt := 91) dc_CT_fieldNumbered_1 (by omega) (by omega) (by rw [sw1_3]; rfl) (by decide) ?_
    refine xv_aload_n hX 0 dc_CT_fieldNumbered_91 rfl (rfl : _ = 92) ?_
    refine xv_geti hX fl_CT_67 rfl hc.1 (xk_N (by omega)) (v := M c 5) rfl dc_CT_fieldNumbered_92 (rfl : _ = 95) ?_
    refine xv_reti hX hR rfl dc_CT_fieldNumbered_95 ?_
    exact ⟨rfl, Or.inl ⟨3, by decide, by omega, rfl⟩⟩
  by_cases sw1_4 : (k).toInt = 4
  · skip
    refine xv_tsIn hX (rfl : (k).toInt = _) (tgt := 96) dc_CT_fieldNumbered_1 (by omega) (by omega) (by rw [sw1_4]; rfl) (by decide) ?_
    refine xv_aload_n hX 0 dc_CT_fieldNumbered_96 rfl (rfl : _ = 97) ?_
    refine xv_geti hX fl_CT_70 rfl hc.1 (xk_N (by omega)) (v := M c 6) rfl dc_CT_fieldNumbered_97 (rfl : _ = 100) ?_
    refine xv_reti hX hR rfl dc_CT_fieldNumbered_100 ?_
    exact ⟨rfl, Or.inl ⟨4, by decide, by omega, rfl⟩⟩
  by_cases sw1_5 : (k).toInt = 5
  · skip
    refine xv_tsIn hX (rfl : (k).toInt = _) (tgt := 101) dc_CT_fieldNumbered_1 (by omega) (by omega) (by rw [sw1_5]; rfl) (by decide) ?_
    refine xv_aload_n hX 0 dc_CT_fieldNumbered_101 rfl (rfl : _ = 102) ?_
    refine xv_geti hX fl_CT_73 rfl hc.1 (xk_N (by omega)) (v := M c 7) rfl dc_CT_fieldNumbered_102 (rfl : _ = 105) ?_
    refine xv_reti hX hR rfl dc_CT_fieldNumbered_105 ?_
    exact ⟨rfl, Or.inl ⟨5, by decide, by omega, rfl⟩⟩
  by_cases sw1_6 : (k).toInt = 6
  · skip
    refine xv_tsIn hX (rfl : (k).toInt = _) (tgt := 106) dc_CT_fieldNumbered_1 (by omega) (by omega) (by rw [sw1_6]; rfl) (by decide) ?_
    refine xv_aload_n hX 0 dc_CT_fieldNumbered_106 rfl (rfl : _ = 107) ?_
    refine xv_geti hX fl_CT_76 rfl hc.1 (xk_N (by omega)) (v := M c 8) rfl dc_CT_fieldNumbered_107 (rfl : _ = 110) ?_
    refine xv_reti hX hR rfl dc_CT_fieldNumbered_110 ?_
    exact ⟨rfl, Or.inl ⟨6, by decide, by omega, rfl⟩⟩
  by_cases sw1_7 : (k).toInt = 7
  · skip
    refine xv_tsIn hX (rfl : (k).toInt = _) (tgt := 111) dc_CT_fieldNumbered_1 (by omega) (by omega) (by rw [sw1_7]; rfl) (by decide) ?_
    refine xv_aload_n hX 0 dc_CT_fieldNumbered_111 rfl (rfl : _ = 112) ?_
    refine xv_geti hX fl_CT_45 rfl hc.1 (xk_N (by omega)) (v := M c 11) rfl dc_CT_fieldNumbered_112 (rfl : _ = 115) ?_
    refine xv_if_eq hX (nI_toInt (by omega)) (tgt := 122) (pq := 118) dc_CT_fieldNumbered_115 (by decide) rfl (fun c115 => ?_) (fun c115 => ?_)
    · skip
      refine xv_iconst hX (v := nI 0) dc_CT_fieldNumbered_122 (by decide) (rfl : _ = 123) ?_
      refine xv_reti hX hR rfl dc_CT_fieldNumbered_123 ?_
      exact ⟨rfl, Or.inl ⟨7, by decide, by omega, congrArg nI (if_pos (by omega)).symm⟩⟩
    · skip
      refine xv_iconst hX (v := nI 1) dc_CT_fieldNumbered_118 (by decide) (rfl : _ = 119) ?_
      refine xv_goto hX (pq := 123) dc_CT_fieldNumbered_119 (by decide) ?_
      refine xv_reti hX hR rfl dc_CT_fieldNumbered_123 ?_
      exact ⟨rfl, Or.inl ⟨7, by decide, by omega, congrArg nI (if_neg (by omega)).symm⟩⟩
  by_cases sw1_8 : (k).toInt = 8
  · skip
    refine xv_tsIn hX (rfl : (k).toInt = _) (tgt := 124) dc_CT_fieldNumbered_1 (by omega) (by omega) (by rw [sw1_8]; rfl) (by decide) ?_
    refine xv_aload_n hX 0 dc_CT_fieldNumbered_124 rfl (rfl : _ = 125) ?_
    refine xv_geti hX fl_CT_49 rfl hc.1 (xk_N (by omega)) (v := M c 12) rfl dc_CT_fieldNumbered_125 (rfl : _ = 128) ?_
    refine xv_reti hX hR rfl dc_CT_fieldNumbered_128 ?_
    exact ⟨rfl, Or.inl ⟨8, by decide, by omega, rfl⟩⟩
  by_cases sw1_9 : (k).toInt = 9
  · skip
    refine xv_tsIn hX (rfl : (k).toInt = _) (tgt := 129) dc_CT_fieldNumbered_1 (by omega) (by omega) (by rw [sw1_9]; rfl) (by decide) ?_
    refine xv_aload_n hX 0 dc_CT_fieldNumbered_129 rfl (rfl : _ = 130) ?_
    refine xv_geti hX fl_CT_52 rfl hc.1 (xk_N (by omega)) (v := M c 13) rfl dc_CT_fieldNumbered_130 (rfl : _ = 133) ?_
    refine xv_reti hX hR rfl dc_CT_fieldNumbered_133 ?_
    exact ⟨rfl, Or.inl ⟨9, by decide, by omega, rfl⟩⟩
  by_cases sw1_10 : (k).toInt = 10
  · skip
    refine xv_tsIn hX (rfl : (k).toInt = _) (tgt := 134) dc_CT_fieldNumbered_1 (by omega) (by omega) (by rw [sw1_10]; rfl) (by decide) ?_
    refine xv_aload_n hX 0 dc_CT_fieldNumbered_134 rfl (rfl : _ = 135) ?_
    refine xv_geti hX fl_CT_41 rfl hc.1 (xk_N (by omega)) (v := M c 10) rfl dc_CT_fieldNumbered_135 (rfl : _ = 138) ?_
    refine xv_reti hX hR rfl dc_CT_fieldNumbered_138 ?_
    exact ⟨rfl, Or.inl ⟨10, by decide, by omega, rfl⟩⟩
  by_cases sw1_11 : (k).toInt = 11
  · skip
    refine xv_tsIn hX (rfl : (k).toInt = _) (tgt := 139) dc_CT_fieldNumbered_1 (by omega) (by omega) (by rw [sw1_11]; rfl) (by decide) ?_
    refine xv_aload_n hX 0 dc_CT_fieldNumbered_139 rfl (rfl : _ = 140) ?_
    refine xv_getr hX fl_CT_31 rfl hc.1 (xk_N (by omega)) hc.2.2.2.2.1.1 dc_CT_fieldNumbered_140 (rfl : _ = 143) ?_
    refine xv_geti hX fl_CT_55 rfl hc.2.2.2.2.1.2.1 (xk_N (by have := hc.2.2.2.2.1.2.2.2.2.2.2; omega)) (v := M (c + 14) 1) rfl dc_CT_fieldNumbered_143 (rfl : _ = 146) ?_
    refine xv_reti hX hR rfl dc_CT_fieldNumbered_146 ?_
    exact ⟨rfl, Or.inl ⟨11, by decide, by omega, rfl⟩⟩
  by_cases sw1_12 : (k).toInt = 12
  · skip
    refine xv_tsIn hX (rfl : (k).toInt = _) (tgt := 147) dc_CT_fieldNumbered_1 (by omega) (by omega) (by rw [sw1_12]; rfl) (by decide) ?_
    refine xv_aload_n hX 0 dc_CT_fieldNumbered_147 rfl (rfl : _ = 148) ?_
    refine xv_getr hX fl_CT_35 rfl hc.1 (xk_N (by omega)) hc.2.2.2.2.2.1.1 dc_CT_fieldNumbered_148 (rfl : _ = 151) ?_
    refine xv_geti hX fl_CT_55 rfl hc.2.2.2.2.2.1.2.1 (xk_N (by have := hc.2.2.2.2.2.1.2.2.2.2.2.2; omega)) (v := M (c + 22) 1) rfl dc_CT_fieldNumbered_151 (rfl : _ = 154) ?_
    refine xv_reti hX hR rfl dc_CT_fieldNumbered_154 ?_
    exact ⟨rfl, Or.inl ⟨12, by decide, by omega, rfl⟩⟩
  by_cases sw1_13 : (k).toInt = 13
  · skip
    refine xv_tsIn hX (rfl : (k).toInt = _) (tgt := 155) dc_CT_fieldNumbered_1 (by omega) (by omega) (by rw [sw1_13]; rfl) (by decide) ?_
    refine xv_aload_n hX 0 dc_CT_fieldNumbered_155 rfl (rfl : _ = 156) ?_
    refine xv_getr hX fl_CT_12 rfl hc.1 (xk_N (by omega)) hc.2.1.1 dc_CT_fieldNumbered_156 (rfl : _ = 159) ?_
    refine xv_geti hX fl_CT_79 rfl hc.2.1.2.1 (xk_N (Nat.lt_of_succ_lt hc.2.1.2.2.2.2.2)) (v := M (c + 1) 1) rfl dc_CT_fieldNumbered_159 (rfl : _ = 162) ?_
    refine xv_reti hX hR rfl dc_CT_fieldNumbered_162 ?_
    exact ⟨rfl, Or.inl ⟨13, by decide, by omega, rfl⟩⟩
  by_cases sw1_14 : (k).toInt = 14
  · skip
    refine xv_tsIn hX (rfl : (k).toInt = _) (tgt := 163) dc_CT_fieldNumbered_1 (by omega) (by omega) (by rw [sw1_14]; rfl) (by decide) ?_
    refine xv_aload_n hX 0 dc_CT_fieldNumbered_163 rfl (rfl : _ = 164) ?_
    refine xv_getr hX fl_CT_18 rfl hc.1 (xk_N (by omega)) hc.2.2.1.1 dc_CT_fieldNumbered_164 (rfl : _ = 167) ?_
    refine xv_geti hX fl_CT_79 rfl hc.2.2.1.2.1 (xk_N (Nat.lt_of_succ_lt hc.2.2.1.2.2.2.2.2)) (v := M (c + 3) 1) rfl dc_CT_fieldNumbered_167 (rfl : _ = 170) ?_
    refine xv_reti hX hR rfl dc_CT_fieldNumbered_170 ?_
    exact ⟨rfl, Or.inl ⟨14, by decide, by omega, rfl⟩⟩
  refine xv_tsOut hX (rfl : (k).toInt = _) (tgt := 171) dc_CT_fieldNumbered_1 (by omega) (by decide) ?_
  refine xv_iconst hX (v := nI 4294967295) dc_CT_fieldNumbered_171 (by decide) (rfl : _ = 172) ?_
  refine xv_reti hX hR rfl dc_CT_fieldNumbered_172 ?_
  exact ⟨rfl, Or.inr ⟨by omega, rfl⟩⟩

set_option maxRecDepth 100000 in
set_option maxHeartbeats 4000000 in
theorem ct_CP_field (l : Launch) (Y : xw_Y) (M : xm_M) (i k : Int32) (hk8 : M 0 3 ≤ 8) (h11 : ∀ a, a < M 0 3 → M (6 + 30 * a) 11 ≤ 1) : xc_i l qm_CP_field 1 Y [.ref (Y.2.2.2 0), .int i, .int k] M (fun r M1 => M1 = M ∧ ((¬ (0 ≤ i.toInt ∧ i.toInt < (M 0 3 : Nat)) ∧ r = nI 4294967295) ∨ ∃ a, i = nI a ∧ a < M 0 3 ∧ ((∃ j : Nat, j < 15 ∧ k.toInt = (j : Int) ∧ r = nI (fl_v M (6 + 30 * a) j)) ∨ (¬ (0 ≤ k.toInt ∧ k.toInt ≤ 14) ∧ r = nI 4294967295)))) := by
  refine xc_i.mk .int rfl (by decide) (Nat.le_of_ble_eq_true rfl) ?_
  intro X hXl hX hR
  subst hXl
  have hX : xv_ok X Y prog_1_method_10_code "CertificatePath" 3 (xc_rm 1) := hX
  show xv_V X Y 3 0 0 xw_lk xw_N M 0 [(0, .ref (Y.2.2.2 0)), (1, .int i), (2, .int k)] []
  refine xv_aload_n hX 0 dc_CP_field_0 rfl (rfl : _ = 1) ?_
  refine xv_iload_n hX 1 dc_CP_field_1 rfl (rfl : _ = 2) ?_
  refine xv_calli hX (As := [.int i]) (rest := []) (ct_CP_isKept _ Y M i hk8) ml_CP_65 li_CP_isKept rfl (by decide) rfl rfl rfl (by decide) ⟨by decide, by decide⟩ ⟨Nat.le_refl _, Nat.le_refl _⟩ (Nat.le_of_ble_eq_true rfl) dc_CP_field_2 (rfl : _ = 5) (fun r2 M2 p2 => ?_)
  obtain ⟨pMa, ta, pra, pta, pia⟩ := p2
  rw [pMa, pra]
  refine xv_if_eq hX (nI_toInt (by omega)) (tgt := 21) (pq := 8) dc_CP_field_5 (by decide) rfl (fun c5 => ?_) (fun c5 => ?_)
  · skip
    refine xv_iconst hX (v := nI 4294967295) dc_CP_field_21 (by decide) (rfl : _ = 22) ?_
    refine xv_reti hX hR rfl dc_CP_field_22 ?_
    exact ⟨rfl, Or.inl ⟨fun z => by have := pia.mpr z; omega, rfl⟩⟩
  · skip
    have hka := pia.mp (by omega)
    obtain ⟨x, hx, rfl⟩ := xi_of (x := i) (by omega)
    have tx : (nI x).toInt = (x : Int) := nI_toInt hx
    refine xv_aload_n hX 0 dc_CP_field_8 rfl (rfl : _ = 9) ?_
    refine xv_getr hX fl_CP_25 rfl rfl (by decide) rfl dc_CP_field_9 (rfl : _ = 12) ?_
    refine xv_iload_n hX 1 dc_CP_field_12 rfl (rfl : _ = 13) ?_
    refine xv_aald hX rfl (C := xw_A2) rfl (by decide) (by omega) (by decide) (v := 6 + 30 * x) (xk_l5 (by omega)) dc_CP_field_13 (rfl : _ = 14) ?_
    refine xv_iload_n hX 2 dc_CP_field_14 rfl (rfl : _ = 15) ?_
    refine xv_calli hX (As := [.int k]) (rest := []) (ct_CT_fieldNumbered _ Y M (6 + 30 * x) k (xk_cert (by omega)) (h11 x (by omega))) ml_CP_68 li_CT_fieldNumbered (xk_cert (by omega)).1 (xk_N (by omega)) rfl rfl rfl (by decide) ⟨by decide, by decide⟩ ⟨Nat.le_refl _, Nat.le_refl _⟩ (Nat.le_of_ble_eq_true rfl) dc_CP_field_15 (rfl : _ = 18) (fun r15 M15 p15 => ?_)
    obtain ⟨pM15, p15⟩ := p15
    rw [pM15]
    refine xv_goto hX (pq := 22) dc_CP_field_18 (by decide) ?_
    refine xv_reti hX hR rfl dc_CP_field_22 ?_
    exact ⟨rfl, Or.inr ⟨x, rfl, by omega, p15⟩⟩

def nm_at (a b : Nat) : Nat := if b = 0 then 6 + 30 * a + 3 else 6 + 30 * a + 1
theorem nm_at_ok {a b : Nat} (ha : a < 9) : xk_nm (nm_at a b) := by
  unfold nm_at
  split
  · exact (xk_cert ha).2.2.1.2
  · exact (xk_cert ha).2.1.2

set_option maxRecDepth 100000 in
set_option maxHeartbeats 4000000 in
theorem ct_CP_nameOf (l : Launch) (Y : xw_Y) (M : xm_M) (a b : Nat) (ha : a < 9) (hb : b < 2) : xc_r l qm_CP_nameOf 0 Y [.ref (Y.2.2.2 0), .int (nI a), .int (nI b)] M (fun u => u.1 = M ∧ u.2 = if b = 0 then 6 + 30 * a + 3 else 6 + 30 * a + 1) := by
  refine xc_r.mk "CertificatePath$Name" rfl (by decide) (Nat.le_of_ble_eq_true rfl) ?_
  intro X hXl hX hR
  subst hXl
  have hX : xv_ok X Y prog_1_method_19_code "CertificatePath" 3 (xc_rm 0) := hX
  show xv_V X Y 3 0 0 xw_lk xw_N M 0 [(0, .ref (Y.2.2.2 0)), (1, .int (nI a)), (2, .int (nI b))] []
  refine xv_iload_n hX 2 dc_CP_nameOf_0 rfl (rfl : _ = 1) ?_
  refine xv_if_eq hX (nI_toInt (by omega)) (tgt := 16) (pq := 4) dc_CP_nameOf_1 (by decide) rfl (fun c1 => ?_) (fun c1 => ?_)
  · skip
    refine xv_aload_n hX 0 dc_CP_nameOf_16 rfl (rfl : _ = 17) ?_
    refine xv_getr hX fl_CP_25 rfl rfl (by decide) rfl dc_CP_nameOf_17 (rfl : _ = 20) ?_
    refine xv_iload_n hX 1 dc_CP_nameOf_20 rfl (rfl : _ = 21) ?_
    refine xv_aald hX rfl (C := xw_A2) rfl (by decide) (by omega) (by decide) (v := 6 + 30 * a) (xk_l5 (by omega)) dc_CP_nameOf_21 (rfl : _ = 22) ?_
    refine xv_getr hX fl_CP_102 rfl (xk_cert (by omega)).1 (xk_N (by omega)) ((xk_cert (by omega)).2.2.1.1) dc_CP_nameOf_22 (rfl : _ = 25) ?_
    refine xv_retr hX hR dc_CP_nameOf_25 ?_
    exact ⟨rfl, (if_pos (by omega)).symm⟩
  · skip
    refine xv_aload_n hX 0 dc_CP_nameOf_4 rfl (rfl : _ = 5) ?_
    refine xv_getr hX fl_CP_25 rfl rfl (by decide) rfl dc_CP_nameOf_5 (rfl : _ = 8) ?_
    refine xv_iload_n hX 1 dc_CP_nameOf_8 rfl (rfl : _ = 9) ?_
    refine xv_aald hX rfl (C := xw_A2) rfl (by decide) (by omega) (by decide) (v := 6 + 30 * a) (xk_l5 (by omega)) dc_CP_nameOf_9 (rfl : _ = 10) ?_
    refine xv_getr hX fl_CP_98 rfl (xk_cert (by omega)).1 (xk_N (by omega)) ((xk_cert (by omega)).2.1.1) dc_CP_nameOf_10 (rfl : _ = 13) ?_
    refine xv_goto hX (pq := 25) dc_CP_nameOf_13 (by decide) ?_
    refine xv_retr hX hR dc_CP_nameOf_25 ?_
    exact ⟨rfl, (if_neg (by omega)).symm⟩

set_option maxRecDepth 100000 in
set_option maxHeartbeats 4000000 in
theorem ct_CP_within (l : Launch) (Y : xw_Y) (M : xm_M) (i : Int32) (b1 : Nat) (j : Int32) (b2 : Nat) (hb1 : b1 < 2) (hb2 : b2 < 2) (hk8 : M 0 3 ≤ 8) (hok : ∀ a b, a < M 0 3 → nm_ok M (nm_at a b)) : xc_i l qm_CP_within 1 Y [.ref (Y.2.2.2 0), .int i, .int (nI b1), .int j, .int (nI b2)] M (fun r M1 => M1 = M ∧ ((¬ ((0 ≤ i.toInt ∧ i.toInt < (M 0 3 : Nat)) ∧ 0 ≤ j.toInt ∧ j.toInt < (M 0 3 : Nat)) ∧ r = nI 0) ∨ ∃ x y, i = nI x ∧ j = nI y ∧ x < M 0 3 ∧ y < M 0 3 ∧ ∃ t, r = nI t ∧ t < 2 ∧ (t = 1 ↔ nm_wi M (nm_at x b1) (nm_at y b2)))) := by
  refine xc_i.mk .boolean rfl (by decide) (Nat.le_of_ble_eq_true rfl) ?_
  intro X hXl hX hR
  subst hXl
  have hX : xv_ok X Y prog_1_method_11_code "CertificatePath" 5 (xc_rm 1) := hX
  show xv_V X Y 5 0 0 xw_lk xw_N M 0 [(0, .ref (Y.2.2.2 0)), (1, .int i), (2, .int (nI b1)), (3, .int j), (4, .int (nI b2))] []
  refine xv_aload_n hX 0 dc_CP_within_0 rfl (rfl : _ = 1) ?_
  refine xv_iload_n hX 1 dc_CP_within_1 rfl (rfl : _ = 2) ?_
  refine xv_calli hX (As := [.int i]) (rest := []) (ct_CP_isKept _ Y M i hk8) ml_CP_65 li_CP_isKept rfl (by decide) rfl rfl rfl (by decide) ⟨by decide, by decide⟩ ⟨Nat.le_refl _, Nat.le_refl _⟩ (Nat.le_of_ble_eq_true rfl) dc_CP_within_2 (rfl : _ = 5) (fun r2 M2 p2 => ?_)
  obtain ⟨pMa, ta, pra, pta, pia⟩ := p2
  rw [pMa, pra]
  refine xv_if_eq hX (nI_toInt (by omega)) (tgt := 16) (pq := 8) dc_CP_within_5 (by decide) rfl (fun c5 => ?_) (fun c5 => ?_)
  · skip
    refine xv_iconst hX (v := nI 0) dc_CP_within_16 (by decide) (rfl : _ = 17) ?_
    refine xv_reti hX hR (by decide) dc_CP_within_17 ?_
    exact ⟨rfl, Or.inl ⟨fun z => by first | (have := pia.mpr z.1; omega) | (have := pib.mpr z.2; omega), rfl⟩⟩
  · skip
    refine xv_aload_n hX 0 dc_CP_within_8 rfl (rfl : _ = 9) ?_
    refine xv_iload_n hX 3 dc_CP_within_9 rfl (rfl : _ = 10) ?_
    refine xv_calli hX (As := [.int j]) (rest := []) (ct_CP_isKept _ Y M j hk8) ml_CP_65 li_CP_isKept rfl (by decide) rfl rfl rfl (by decide) ⟨by decide, by decide⟩ ⟨Nat.le_refl _, Nat.le_refl _⟩ (Nat.le_of_ble_eq_true rfl) dc_CP_within_10 (rfl : _ = 13) (fun r10 M10 p10 => ?_)
    obtain ⟨pMb, tb, prb, ptb, pib⟩ := p10
    rw [pMb, prb]
    refine xv_if_ne hX (nI_toInt (by omega)) (tgt := 18) (pq := 16) dc_CP_within_13 (by decide) rfl (fun c13 => ?_) (fun c13 => ?_)
    · skip
      have hka := pia.mp (by omega)
      have hkb := pib.mp (by omega)
      obtain ⟨x, hx, rfl⟩ := xi_of (x := i) (by omega)
      have tx : (nI x).toInt = (x : Int) := nI_toInt hx
      obtain ⟨y, hy, rfl⟩ := xi_of (x := j) (by omega)
      have ty : (nI y).toInt = (y : Int) := nI_toInt hy
      refine xv_aload_n hX 0 dc_CP_within_18 rfl (rfl : _ = 19) ?_
      refine xv_iload_n hX 1 dc_CP_within_19 rfl (rfl : _ = 20) ?_
      refine xv_iload_n hX 2 dc_CP_within_20 rfl (rfl : _ = 21) ?_
      refine xv_callr hX (As := [.int (nI x), .int (nI b1)]) (rest := []) (ct_CP_nameOf _ Y M x b1 (by omega) hb1) ml_CP_71 li_CP_nameOf rfl (by decide) rfl rfl rfl (by decide) ⟨by decide, by decide⟩ ⟨Nat.le_refl _, Nat.le_refl _⟩ (Nat.le_of_ble_eq_true rfl) dc_CP_within_21 (rfl : _ = 24) (fun M21 r21 p21 => ?_)
      have q21 : r21 = nm_at x b1 := p21.2
      rw [show M21 = M from p21.1, q21]
      refine xv_aload_n hX 0 dc_CP_within_24 rfl (rfl : _ = 25) ?_
      refine xv_iload_n hX 3 dc_CP_within_25 rfl (rfl : _ = 26) ?_
      refine xv_iload hX 4 dc_CP_within_26 rfl (rfl : _ = 28) ?_
      refine xv_callr hX (As := [.int (nI y), .int (nI b2)]) (rest := [.ref (Y.2.2.2 (nm_at x b1))]) (ct_CP_nameOf _ Y M y b2 (by omega) hb2) ml_CP_71 li_CP_nameOf rfl (by decide) rfl rfl rfl (by decide) ⟨by decide, by decide⟩ ⟨Nat.le_refl _, Nat.le_refl _⟩ (Nat.le_of_ble_eq_true rfl) dc_CP_within_28 (rfl : _ = 31) (fun M28 r28 p28 => ?_)
      have q28 : r28 = nm_at y b2 := p28.2
      rw [show M28 = M from p28.1, q28]
      refine xv_calli hX (As := [.ref (Y.2.2.2 (nm_at y b2))]) (rest := []) (ct_NM_isWithin _ Y M (nm_at x b1) (nm_at y b2) (nm_at_ok (by omega)) (nm_at_ok (by omega)) (hok x b1 (by omega)).1 (hok y b2 (by omega)).1 (hok x b1 (by omega)).2 (hok y b2 (by omega)).2) ml_CP_75 li_NM_isWithin (nm_at_ok (by omega)).1 (xk_N (Nat.lt_of_succ_lt (nm_at_ok (by omega)).2.2.2.2)) rfl rfl rfl (by decide) ⟨by decide, by decide⟩ ⟨Nat.le_refl _, Nat.le_refl _⟩ (Nat.le_of_ble_eq_true rfl) dc_CP_within_31 (rfl : _ = 34) (fun r31 M31 p31 => ?_)
      obtain ⟨pM, t, pr, pt, pi⟩ := p31
      rw [pM, pr]
      refine xv_reti hX hR (xi_z (by omega)) dc_CP_within_34 ?_
      exact ⟨rfl, Or.inr ⟨x, y, rfl, rfl, by omega, by omega, t, rfl, pt, pi⟩⟩
    · skip
      refine xv_iconst hX (v := nI 0) dc_CP_within_16 (by decide) (rfl : _ = 17) ?_
      refine xv_reti hX hR (by decide) dc_CP_within_17 ?_
      exact ⟨rfl, Or.inl ⟨fun z => by first | (have := pia.mpr z.1; omega) | (have := pib.mpr z.2; omega), rfl⟩⟩
