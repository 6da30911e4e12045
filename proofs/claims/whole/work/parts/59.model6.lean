/-! the reference: key, bits -/
set_option maxRecDepth 100000 in
set_option maxHeartbeats 4000000 in
theorem ct_MD_key (ln : Launch) (Y : xw_Y) (M : xm_M) (l : Nat) (hI : md_I M) (hl : l ≤ 1440) : xc_v ln qm_MD_key 3 Y [.ref (Y.2.2.2 277), .int (nI l)] M (fun M1 => md_I M1 ∧ md_X [6, 7, 11, 12] M M1 ∧ mo_ok (mo_run (ps_two (M 278) 2 2147483647 1 1000) l (md_s M)) (md_s M1) (fun z => M1 277 11 = z.1 ∧ M1 277 12 = z.2)) := by
  refine xc_v.mk rfl (by decide) (Nat.le_of_ble_eq_true rfl) ?_
  intro X hXl hX hR
  subst hXl
  have hX : xv_ok X Y prog_9_method_20_code "CertificatePathModel" 3 (xc_rm 3) := hX
  show xv_V X Y 3 0 0 xw_lk xw_N M 0 [(0, .ref (Y.2.2.2 277)), (1, .int (nI l))] []
  obtain ⟨k6, k7, k8⟩ := id hI
  refine xv_aload_n hX 0 dc_MD_key_0 rfl (rfl : _ = 1) ?_
  refine xv_bipush hX (v := nI 48) dc_MD_key_1 (by decide) (rfl : _ = 3) ?_
  refine xv_iload_n hX 1 dc_MD_key_3 rfl (rfl : _ = 4) ?_
  refine xv_calli hX (As := [.int (nI 48), .int (nI l)]) (rest := []) (ct_MD_enter _ Y M 48 l hI hl (by decide)) ml_MD_45 li_MD_enter rfl (by decide) rfl rfl rfl (by decide) ⟨by decide, by decide⟩ ⟨Nat.le_refl _, Nat.le_refl _⟩ (Nat.le_of_ble_eq_true rfl) dc_MD_key_4 (rfl : _ = 7) (fun r4 M4 p4 => ?_)
  obtain ⟨i4, f4, h4⟩ := p4
  obtain ⟨e, z4, hel, hen⟩ := mo_enter h4
  rw [z4]
  have b4 : M4 278 = M 278 := f4.1 278 (by decide)
  refine xv_istore_n hX [1, 2, 0] dc_MD_key_7 (by decide) (L' := [(0, .ref (Y.2.2.2 277)), (1, .int (nI l)), (2, .int (nI e))]) rfl (rfl : _ = 8) ?_
  refine xv_aload_n hX 0 dc_MD_key_8 rfl (rfl : _ = 9) ?_
  refine xv_aload_n hX 0 dc_MD_key_9 rfl (rfl : _ = 10) ?_
  refine xv_iload_n hX 2 dc_MD_key_10 rfl (rfl : _ = 11) ?_
  refine xv_calli hX (As := [.int (nI e)]) (rest := [.ref (Y.2.2.2 277)]) (ct_MD_integer _ Y M4 e i4 (by omega)) ml_MD_70 li_MD_integer rfl (by decide) rfl rfl rfl (by decide) ⟨by decide, by decide⟩ ⟨Nat.le_refl _, Nat.le_refl _⟩ (Nat.le_of_ble_eq_true rfl) dc_MD_key_11 (rfl : _ = 14) (fun r11 M11 p11 => ?_)
  obtain ⟨i11, f11, m, z11, hm31, h11⟩ := p11
  rw [z11]
  rw [b4] at h11
  obtain ⟨iA, oA⟩ := md_put (M := M11) (k := 11) (v := m) (by decide) (by decide) i11
  refine xv_puti hX fl_MD_120 rfl rfl (by decide) dc_MD_key_14 (rfl : _ = 17) ?_
  refine xv_aload_n hX 0 dc_MD_key_17 rfl (rfl : _ = 18) ?_
  refine xv_aload_n hX 0 dc_MD_key_18 rfl (rfl : _ = 19) ?_
  refine xv_iload_n hX 2 dc_MD_key_19 rfl (rfl : _ = 20) ?_
  refine xv_calli hX (As := [.int (nI e)]) (rest := [.ref (Y.2.2.2 277)]) (ct_MD_integer _ Y (xm_set M11 277 11 m) e iA (by omega)) ml_MD_70 li_MD_integer rfl (by decide) rfl rfl rfl (by decide) ⟨by decide, by decide⟩ ⟨Nat.le_refl _, Nat.le_refl _⟩ (Nat.le_of_ble_eq_true rfl) dc_MD_key_20 (rfl : _ = 23) (fun r20 M20 p20 => ?_)
  obtain ⟨i20, f20, x, z20, hx31, h20⟩ := p20
  rw [z20]
  rw [xm_oth (by decide), f11.1 278 (by decide), b4] at h20
  obtain ⟨iB, oB⟩ := md_put (M := M20) (k := 12) (v := x) (by decide) (by decide) i20
  refine xv_puti hX fl_MD_123 rfl rfl (by decide) dc_MD_key_23 (rfl : _ = 26) ?_
  refine xv_aload_n hX 0 dc_MD_key_26 rfl (rfl : _ = 27) ?_
  refine xv_iload_n hX 2 dc_MD_key_27 rfl (rfl : _ = 28) ?_
  refine xv_callv hX (As := [.int (nI e)]) (rest := []) (ct_MD_leave _ Y (xm_set M20 277 12 x) e iB (by omega)) ml_MD_77 li_MD_leave rfl (by decide) rfl rfl rfl (by decide) ⟨by decide, by decide⟩ ⟨Nat.le_refl _, Nat.le_refl _⟩ (Nat.le_of_ble_eq_true rfl) dc_MD_key_28 (rfl : _ = 31) (fun M28 p28 => ?_)
  obtain ⟨i28, f28, h28⟩ := p28
  rw [oB] at h28
  have g11 : M28 277 11 = m := by rw [f28.2 11 (by decide) (by decide), xm_nk (by decide), f20.2 11 (by decide) (by decide), xm_eq]
  have g12 : M28 277 12 = x := by rw [f28.2 12 (by decide) (by decide), xm_eq]
  have k287 := i28.2.1
  refine xv_aload_n hX 0 dc_MD_key_31 rfl (rfl : _ = 32) ?_
  refine xv_aload_n hX 0 dc_MD_key_32 rfl (rfl : _ = 33) ?_
  refine xv_geti hX fl_MD_34 rfl rfl (by decide) (v := M28 277 7) rfl dc_MD_key_33 (rfl : _ = 36) ?_
  refine xv_if_ne hX (nI_toInt (by omega)) (tgt := 65) (pq := 39) dc_MD_key_36 (by decide) rfl (fun c36 => ?_) (fun c36 => ?_)
  · skip
    refine xv_iconst hX (v := nI 1) dc_MD_key_65 (by decide) (rfl : _ = 66) ?_
    refine xv_goto hX (pq := 70) dc_MD_key_66 (by decide) ?_
    refine xv_putz hX fl_MD_34 rfl rfl (by decide) (by decide) dc_MD_key_70 (rfl : _ = 73) ?_
    refine xv_retv hX hR dc_MD_key_73 ?_
    obtain ⟨a1, a2, a3⟩ := md_wr (M := M28) (v := 1) i28 (by decide)
    refine ⟨a1, (md_X.tt (f4.x.up (by decide)) (md_X.tt (f11.x.up (by decide)) (md_X.tt ((md_X.set M11 11 m).up (by decide)) (md_X.tt (f20.x.up (by decide)) (md_X.tt ((md_X.set M20 12 x).up (by decide)) (md_X.tt (f28.x.up (by decide)) (a2.x.up (by decide)))))))), (mo_two (m := m) (x := x) (s1 := md_s M28) (by rw [h28]; exact mo_in hen (mo_and h11 (by rw [← oA]; exact h20))) ?_).imp (fun z hz => ⟨?_, ?_⟩)⟩
    · rw [a3, md_ss M28]
      repeat' split
      all_goals first
        | rfl
        | (exfalso; omega)
    · rw [xm_nk (by decide), f28.2 11 (by decide) (by decide), xm_nk (by decide), f20.2 11 (by decide) (by decide), xm_eq]; exact hz.1.symm
    · rw [xm_nk (by decide), f28.2 12 (by decide) (by decide), xm_eq]; exact hz.2.symm
  · skip
    refine xv_aload_n hX 0 dc_MD_key_39 rfl (rfl : _ = 40) ?_
    refine xv_geti hX fl_MD_120 rfl rfl (by decide) (v := M28 277 11) rfl dc_MD_key_40 (rfl : _ = 43) ?_
    refine xv_iconst hX (v := nI 2) dc_MD_key_43 (by decide) (rfl : _ = 44) ?_
    refine xv_icmp_lt hX (nI_toInt (by omega)) (show (nI 2).toInt = 2 by decide) (tgt := 65) (pq := 47) dc_MD_key_44 (by decide) rfl (fun c44 => ?_) (fun c44 => ?_)
    · skip
      refine xv_iconst hX (v := nI 1) dc_MD_key_65 (by decide) (rfl : _ = 66) ?_
      refine xv_goto hX (pq := 70) dc_MD_key_66 (by decide) ?_
      refine xv_putz hX fl_MD_34 rfl rfl (by decide) (by decide) dc_MD_key_70 (rfl : _ = 73) ?_
      refine xv_retv hX hR dc_MD_key_73 ?_
      obtain ⟨a1, a2, a3⟩ := md_wr (M := M28) (v := 1) i28 (by decide)
      refine ⟨a1, (md_X.tt (f4.x.up (by decide)) (md_X.tt (f11.x.up (by decide)) (md_X.tt ((md_X.set M11 11 m).up (by decide)) (md_X.tt (f20.x.up (by decide)) (md_X.tt ((md_X.set M20 12 x).up (by decide)) (md_X.tt (f28.x.up (by decide)) (a2.x.up (by decide)))))))), (mo_two (m := m) (x := x) (s1 := md_s M28) (by rw [h28]; exact mo_in hen (mo_and h11 (by rw [← oA]; exact h20))) ?_).imp (fun z hz => ⟨?_, ?_⟩)⟩
      · rw [a3, md_ss M28]
        repeat' split
        all_goals first
          | rfl
          | (exfalso; omega)
      · rw [xm_nk (by decide), f28.2 11 (by decide) (by decide), xm_nk (by decide), f20.2 11 (by decide) (by decide), xm_eq]; exact hz.1.symm
      · rw [xm_nk (by decide), f28.2 12 (by decide) (by decide), xm_eq]; exact hz.2.symm
    · skip
      refine xv_aload_n hX 0 dc_MD_key_47 rfl (rfl : _ = 48) ?_
      refine xv_geti hX fl_MD_123 rfl rfl (by decide) (v := M28 277 12) rfl dc_MD_key_48 (rfl : _ = 51) ?_
      refine xv_iconst hX (v := nI 1) dc_MD_key_51 (by decide) (rfl : _ = 52) ?_
      refine xv_icmp_lt hX (nI_toInt (by omega)) (show (nI 1).toInt = 1 by decide) (tgt := 65) (pq := 55) dc_MD_key_52 (by decide) rfl (fun c52 => ?_) (fun c52 => ?_)
      · skip
        refine xv_iconst hX (v := nI 1) dc_MD_key_65 (by decide) (rfl : _ = 66) ?_
        refine xv_goto hX (pq := 70) dc_MD_key_66 (by decide) ?_
        refine xv_putz hX fl_MD_34 rfl rfl (by decide) (by decide) dc_MD_key_70 (rfl : _ = 73) ?_
        refine xv_retv hX hR dc_MD_key_73 ?_
        obtain ⟨a1, a2, a3⟩ := md_wr (M := M28) (v := 1) i28 (by decide)
        refine ⟨a1, (md_X.tt (f4.x.up (by decide)) (md_X.tt (f11.x.up (by decide)) (md_X.tt ((md_X.set M11 11 m).up (by decide)) (md_X.tt (f20.x.up (by decide)) (md_X.tt ((md_X.set M20 12 x).up (by decide)) (md_X.tt (f28.x.up (by decide)) (a2.x.up (by decide)))))))), (mo_two (m := m) (x := x) (s1 := md_s M28) (by rw [h28]; exact mo_in hen (mo_and h11 (by rw [← oA]; exact h20))) ?_).imp (fun z hz => ⟨?_, ?_⟩)⟩
        · rw [a3, md_ss M28]
          repeat' split
          all_goals first
            | rfl
            | (exfalso; omega)
        · rw [xm_nk (by decide), f28.2 11 (by decide) (by decide), xm_nk (by decide), f20.2 11 (by decide) (by decide), xm_eq]; exact hz.1.symm
        · rw [xm_nk (by decide), f28.2 12 (by decide) (by decide), xm_eq]; exact hz.2.symm
      · skip
        refine xv_aload_n hX 0 dc_MD_key_55 rfl (rfl : _ = 56) ?_
        refine xv_geti hX fl_MD_123 rfl rfl (by decide) (v := M28 277 12) rfl dc_MD_key_56 (rfl : _ = 59) ?_
        refine xv_sipush hX (v := nI 1000) dc_MD_key_59 (by decide) (rfl : _ = 62) ?_
        refine xv_icmp_le hX (nI_toInt (by omega)) (show (nI 1000).toInt = 1000 by decide) (tgt := 69) (pq := 65) dc_MD_key_62 (by decide) rfl (fun c62 => ?_) (fun c62 => ?_)
        · skip
          refine xv_iconst hX (v := nI 0) dc_MD_key_69 (by decide) (rfl : _ = 70) ?_
          refine xv_putz hX fl_MD_34 rfl rfl (by decide) (by decide) dc_MD_key_70 (rfl : _ = 73) ?_
          refine xv_retv hX hR dc_MD_key_73 ?_
          obtain ⟨a1, a2, a3⟩ := md_wr (M := M28) (v := 0) i28 (by decide)
          refine ⟨a1, (md_X.tt (f4.x.up (by decide)) (md_X.tt (f11.x.up (by decide)) (md_X.tt ((md_X.set M11 11 m).up (by decide)) (md_X.tt (f20.x.up (by decide)) (md_X.tt ((md_X.set M20 12 x).up (by decide)) (md_X.tt (f28.x.up (by decide)) (a2.x.up (by decide)))))))), (mo_two (m := m) (x := x) (s1 := md_s M28) (by rw [h28]; exact mo_in hen (mo_and h11 (by rw [← oA]; exact h20))) ?_).imp (fun z hz => ⟨?_, ?_⟩)⟩
          · rw [a3, md_ss M28]
            repeat' split
            all_goals first
              | rfl
              | (exfalso; omega)
          · rw [xm_nk (by decide), f28.2 11 (by decide) (by decide), xm_nk (by decide), f20.2 11 (by decide) (by decide), xm_eq]; exact hz.1.symm
          · rw [xm_nk (by decide), f28.2 12 (by decide) (by decide), xm_eq]; exact hz.2.symm
        · skip
          refine xv_iconst hX (v := nI 1) dc_MD_key_65 (by decide) (rfl : _ = 66) ?_
          refine xv_goto hX (pq := 70) dc_MD_key_66 (by decide) ?_
          refine xv_putz hX fl_MD_34 rfl rfl (by decide) (by decide) dc_MD_key_70 (rfl : _ = 73) ?_
          refine xv_retv hX hR dc_MD_key_73 ?_
          obtain ⟨a1, a2, a3⟩ := md_wr (M := M28) (v := 1) i28 (by decide)
          refine ⟨a1, (md_X.tt (f4.x.up (by decide)) (md_X.tt (f11.x.up (by decide)) (md_X.tt ((md_X.set M11 11 m).up (by decide)) (md_X.tt (f20.x.up (by decide)) (md_X.tt ((md_X.set M20 12 x).up (by decide)) (md_X.tt (f28.x.up (by decide)) (a2.x.up (by decide)))))))), (mo_two (m := m) (x := x) (s1 := md_s M28) (by rw [h28]; exact mo_in hen (mo_and h11 (by rw [← oA]; exact h20))) ?_).imp (fun z hz => ⟨?_, ?_⟩)⟩
          · rw [a3, md_ss M28]
            repeat' split
            all_goals first
              | rfl
              | (exfalso; omega)
          · rw [xm_nk (by decide), f28.2 11 (by decide) (by decide), xm_nk (by decide), f20.2 11 (by decide) (by decide), xm_eq]; exact hz.1.symm
          · rw [xm_nk (by decide), f28.2 12 (by decide) (by decide), xm_eq]; exact hz.2.symm

set_option maxRecDepth 100000 in
set_option maxHeartbeats 4000000 in
theorem ct_MD_usageBits (ln : Launch) (Y : xw_Y) (M : xm_M) (l : Nat) (hI : md_I M) (hl : l ≤ 1440) : xc_v ln qm_MD_usageBits 2 Y [.ref (Y.2.2.2 277), .int (nI l)] M (fun M1 => md_I M1 ∧ md_X [6, 7, 31] M M1 ∧ mo_ok (mo_run (ps_bits (M 278)) l (md_s M)) (md_s M1) (fun u => M1 277 31 = ps_mir u 8)) := by
  refine xc_v.mk rfl (by decide) (Nat.le_of_ble_eq_true rfl) ?_
  intro X hXl hX hR
  subst hXl
  have hX : xv_ok X Y prog_9_method_15_code "CertificatePathModel" 7 (xc_rm 2) := hX
  show xv_V X Y 7 0 0 xw_lk xw_N M 0 [(0, .ref (Y.2.2.2 277)), (1, .int (nI l))] []
  obtain ⟨k6, k7, k8⟩ := id hI
  refine xv_aload_n hX 0 dc_MD_usageBits_0 rfl (rfl : _ = 1) ?_
  refine xv_iconst hX (v := nI 3) dc_MD_usageBits_1 (by decide) (rfl : _ = 2) ?_
  refine xv_iload_n hX 1 dc_MD_usageBits_2 rfl (rfl : _ = 3) ?_
  refine xv_calli hX (As := [.int (nI 3), .int (nI l)]) (rest := []) (ct_MD_enter _ Y M 3 l hI hl (by decide)) ml_MD_45 li_MD_enter rfl (by decide) rfl rfl rfl (by decide) ⟨by decide, by decide⟩ ⟨Nat.le_refl _, Nat.le_refl _⟩ (Nat.le_of_ble_eq_true rfl) dc_MD_usageBits_3 (rfl : _ = 6) (fun r3 M3 p3 => ?_)
  obtain ⟨i3, f3, h3⟩ := p3
  have b3 : M3 278 = M 278 := f3.1 278 (by decide)
  rcases h3 with ⟨w3a, w3b, w3c⟩ | ⟨f, e, g3a, g3b, g3c⟩
  · skip
    rw [w3c]
    have w37 := md_w i3 w3a
    refine xv_istore_n hX [1, 2, 0] dc_MD_usageBits_6 (by decide) (L' := [(0, .ref (Y.2.2.2 277)), (1, .int (nI l)), (2, .int (nI l))]) rfl (rfl : _ = 7) ?_
    refine xv_iload_n hX 2 dc_MD_usageBits_7 rfl (rfl : _ = 8) ?_
    refine xv_aload_n hX 0 dc_MD_usageBits_8 rfl (rfl : _ = 9) ?_
    refine xv_geti hX fl_MD_38 rfl rfl (by decide) (v := M3 277 6) rfl dc_MD_usageBits_9 (rfl : _ = 12) ?_
    refine xv_isub hX dc_MD_usageBits_12 rfl (rfl : _ = 13) ?_
    refine xv_istore_n hX [1, 2, 3, 0] dc_MD_usageBits_13 (by decide) (L' := [(0, .ref (Y.2.2.2 277)), (1, .int (nI l)), (2, .int (nI l)), (3, .int (nI l - nI (M3 277 6)))]) rfl (rfl : _ = 14) ?_
    refine xv_aload_n hX 0 dc_MD_usageBits_14 rfl (rfl : _ = 15) ?_
    refine xv_iconst hX (v := nI 0) dc_MD_usageBits_15 (by decide) (rfl : _ = 16) ?_
    refine xv_puti hX fl_MD_57 rfl rfl (by decide) dc_MD_usageBits_16 (rfl : _ = 19) ?_
    refine xv_aload_n hX 0 dc_MD_usageBits_19 rfl (rfl : _ = 20) ?_
    refine xv_geti hX fl_MD_34 rfl rfl (by decide) (v := 1) ((xm_nk (by decide)).trans w37) dc_MD_usageBits_20 (rfl : _ = 23) ?_
    refine xv_if_ne hX (show (nI 1).toInt = 1 by decide) (tgt := 53) (pq := 26) dc_MD_usageBits_23 (by decide) rfl (fun c23 => ?_) (fun c23 => ?_)
    · skip
      refine xv_aload_n hX 0 dc_MD_usageBits_53 rfl (rfl : _ = 54) ?_
      refine xv_iconst hX (v := nI 1) dc_MD_usageBits_54 (by decide) (rfl : _ = 55) ?_
      refine xv_putz hX fl_MD_34 rfl rfl (by decide) (by decide) dc_MD_usageBits_55 (rfl : _ = 58) ?_
      refine xv_retv hX hR dc_MD_usageBits_58 ?_
      rw [mo_bt0 w3b]
      obtain ⟨iU, oU⟩ := md_put (M := M3) (k := 31) (v := 0) (by decide) (by decide) i3
      obtain ⟨a1, a2, a3⟩ := md_wr (M := (xm_set M3 277 31 0)) (v := 1) iU (by decide)
      exact ⟨a1, (md_X.tt (f3.x.up (by decide)) (md_X.tt ((md_X.set M3 31 0).up (by decide)) (a2.x.up (by decide)))), Or.inl ⟨a3.trans (if_neg (by decide)), rfl⟩⟩
    · skip
      exact absurd c23 (by decide)
  · skip
    rw [g3c]
    obtain ⟨g37, g36⟩ := md_g g3b
    obtain ⟨g3fe, g3el, -⟩ := mo_hd_some g3a
    refine xv_istore_n hX [1, 2, 0] dc_MD_usageBits_6 (by decide) (L' := [(0, .ref (Y.2.2.2 277)), (1, .int (nI l)), (2, .int (nI e))]) rfl (rfl : _ = 7) ?_
    refine xv_iload_n hX 2 dc_MD_usageBits_7 rfl (rfl : _ = 8) ?_
    refine xv_aload_n hX 0 dc_MD_usageBits_8 rfl (rfl : _ = 9) ?_
    refine xv_geti hX fl_MD_38 rfl rfl (by decide) (v := f) g36 dc_MD_usageBits_9 (rfl : _ = 12) ?_
    refine xv_isub hX dc_MD_usageBits_12 (pk_sub (by omega)) (rfl : _ = 13) ?_
    refine xv_istore_n hX [1, 2, 3, 0] dc_MD_usageBits_13 (by decide) (L' := [(0, .ref (Y.2.2.2 277)), (1, .int (nI l)), (2, .int (nI e)), (3, .int (nI (e - f)))]) rfl (rfl : _ = 14) ?_
    refine xv_aload_n hX 0 dc_MD_usageBits_14 rfl (rfl : _ = 15) ?_
    refine xv_iconst hX (v := nI 0) dc_MD_usageBits_15 (by decide) (rfl : _ = 16) ?_
    refine xv_puti hX fl_MD_57 rfl rfl (by decide) dc_MD_usageBits_16 (rfl : _ = 19) ?_
    refine xv_aload_n hX 0 dc_MD_usageBits_19 rfl (rfl : _ = 20) ?_
    refine xv_geti hX fl_MD_34 rfl rfl (by decide) (v := 0) ((xm_nk (by decide)).trans g37) dc_MD_usageBits_20 (rfl : _ = 23) ?_
    refine xv_if_ne hX (show (nI 0).toInt = 0 by decide) (tgt := 53) (pq := 26) dc_MD_usageBits_23 (by decide) rfl (fun c23 => ?_) (fun c23 => ?_)
    · skip
      exact absurd c23 (by decide)
    · skip
      refine xv_iload_n hX 3 dc_MD_usageBits_26 rfl (rfl : _ = 27) ?_
      refine xv_iconst hX (v := nI 1) dc_MD_usageBits_27 (by decide) (rfl : _ = 28) ?_
      refine xv_icmp_lt hX (nI_toInt (by omega)) (show (nI 1).toInt = 1 by decide) (tgt := 53) (pq := 31) dc_MD_usageBits_28 (by decide) rfl (fun c28 => ?_) (fun c28 => ?_)
      · skip
        refine xv_aload_n hX 0 dc_MD_usageBits_53 rfl (rfl : _ = 54) ?_
        refine xv_iconst hX (v := nI 1) dc_MD_usageBits_54 (by decide) (rfl : _ = 55) ?_
        refine xv_putz hX fl_MD_34 rfl rfl (by decide) (by decide) dc_MD_usageBits_55 (rfl : _ = 58) ?_
        refine xv_retv hX hR dc_MD_usageBits_58 ?_
        have hJ := mo_bt1 g3a
        rw [show mo_run (ps_bits (M 278)) l (md_s M) = none by rw [hJ]; (repeat' split) <;> first | rfl | (exfalso; omega)]
        obtain ⟨iU, oU⟩ := md_put (M := M3) (k := 31) (v := 0) (by decide) (by decide) i3
        obtain ⟨a1, a2, a3⟩ := md_wr (M := (xm_set M3 277 31 0)) (v := 1) iU (by decide)
        exact ⟨a1, (md_X.tt (f3.x.up (by decide)) (md_X.tt ((md_X.set M3 31 0).up (by decide)) (a2.x.up (by decide)))), Or.inl ⟨a3.trans (if_neg (by decide)), rfl⟩⟩
      · skip
        refine xv_iload_n hX 3 dc_MD_usageBits_31 rfl (rfl : _ = 32) ?_
        refine xv_iconst hX (v := nI 2) dc_MD_usageBits_32 (by decide) (rfl : _ = 33) ?_
        refine xv_icmp_gt hX (nI_toInt (by omega)) (show (nI 2).toInt = 2 by decide) (tgt := 53) (pq := 36) dc_MD_usageBits_33 (by decide) rfl (fun c33 => ?_) (fun c33 => ?_)
        · skip
          refine xv_aload_n hX 0 dc_MD_usageBits_53 rfl (rfl : _ = 54) ?_
          refine xv_iconst hX (v := nI 1) dc_MD_usageBits_54 (by decide) (rfl : _ = 55) ?_
          refine xv_putz hX fl_MD_34 rfl rfl (by decide) (by decide) dc_MD_usageBits_55 (rfl : _ = 58) ?_
          refine xv_retv hX hR dc_MD_usageBits_58 ?_
          have hJ := mo_bt1 g3a
          rw [show mo_run (ps_bits (M 278)) l (md_s M) = none by rw [hJ]; (repeat' split) <;> first | rfl | (exfalso; omega)]
          obtain ⟨iU, oU⟩ := md_put (M := M3) (k := 31) (v := 0) (by decide) (by decide) i3
          obtain ⟨a1, a2, a3⟩ := md_wr (M := (xm_set M3 277 31 0)) (v := 1) iU (by decide)
          exact ⟨a1, (md_X.tt (f3.x.up (by decide)) (md_X.tt ((md_X.set M3 31 0).up (by decide)) (a2.x.up (by decide)))), Or.inl ⟨a3.trans (if_neg (by decide)), rfl⟩⟩
        · skip
          refine xv_iload_n hX 3 dc_MD_usageBits_36 rfl (rfl : _ = 37) ?_
          refine xv_iconst hX (v := nI 1) dc_MD_usageBits_37 (by decide) (rfl : _ = 38) ?_
          refine xv_icmp_ne hX (nI_toInt (by omega)) (show (nI 1).toInt = 1 by decide) (tgt := 59) (pq := 41) dc_MD_usageBits_38 (by decide) rfl (fun c38 => ?_) (fun c38 => ?_)
          · skip
            refine xv_iload_n hX 3 dc_MD_usageBits_59 rfl (rfl : _ = 60) ?_
            refine xv_iconst hX (v := nI 2) dc_MD_usageBits_60 (by decide) (rfl : _ = 61) ?_
            refine xv_icmp_ne hX (nI_toInt (by omega)) (show (nI 2).toInt = 2 by decide) (tgt := 172) (pq := 64) dc_MD_usageBits_61 (by decide) rfl (fun c61 => ?_) (fun c61 => ?_)
            · skip
              refine xv_aload_n hX 0 dc_MD_usageBits_172 rfl (rfl : _ = 173) ?_
              refine xv_iload_n hX 2 dc_MD_usageBits_173 rfl (rfl : _ = 174) ?_
              refine xv_puti hX fl_MD_38 rfl rfl (by decide) dc_MD_usageBits_174 (rfl : _ = 177) ?_
              refine xv_retv hX hR dc_MD_usageBits_177 ?_
              have hJ := mo_bt1 g3a
              rw [if_pos (by omega), if_pos (by omega)] at hJ
              obtain ⟨iU, oU⟩ := md_put (M := M3) (k := 31) (v := 0) (by decide) (by decide) i3
              obtain ⟨a1, a2, a3⟩ := md_done (M := (xm_set M3 277 31 0)) (M' := (xm_set (xm_set M3 277 31 0) 277 6 e)) (v := e) (w := 0) xm_eq ((xm_nk (by decide)).trans ((xm_nk (by decide)).trans g37)) (fun q a => by rw [xm_oth a]) (fun j a b => by rw [xm_nk a]) iU (by omega) (by omega)
              refine ⟨a1, (md_X.tt (f3.x.up (by decide)) (md_X.tt ((md_X.set M3 31 0).up (by decide)) (a2.x.up (by decide)))), ?_⟩
              rw [a3, if_pos rfl, hJ]
              exact Or.inr ⟨0, e, rfl, rfl, by rw [xm_nk (by decide), xm_eq]; rfl⟩
            · skip
              refine xv_aload_n hX 0 dc_MD_usageBits_64 rfl (rfl : _ = 65) ?_
              have hd1 : M3 278 (f + 1) = M 278 (f + 1) := by rw [b3]
              have hd0 : M3 278 f = M 278 f := by rw [b3]
              have hb1 := k8 (f + 1) (by omega)
              have hb0 := k8 f (by omega)
              obtain ⟨u, hu⟩ : ∃ u, M 278 (f + 1) = u := ⟨_, rfl⟩
              rw [hu] at hd1 hb1
              refine xv_getr hX fl_MD_7 rfl rfl (by decide) rfl dc_MD_usageBits_65 (rfl : _ = 68) ?_
              refine xv_aload_n hX 0 dc_MD_usageBits_68 rfl (rfl : _ = 69) ?_
              refine xv_geti hX fl_MD_38 rfl rfl (by decide) (v := f) ((xm_nk (by decide)).trans g36) dc_MD_usageBits_69 (rfl : _ = 72) ?_
              refine xv_iconst hX (v := nI 1) dc_MD_usageBits_72 (by decide) (rfl : _ = 73) ?_
              refine xv_iadd hX dc_MD_usageBits_73 (nI_add f 1) (rfl : _ = 74) ?_
              refine xv_iald hX rfl (by decide) (by omega) (by decide) (v := u) ((xm_np (by decide)).trans hd1) dc_MD_usageBits_74 (rfl : _ = 75) ?_
              refine xv_istore hX [1, 2, 3, 4, 0] dc_MD_usageBits_75 (by decide) (L' := [(0, .ref (Y.2.2.2 277)), (1, .int (nI l)), (2, .int (nI e)), (3, .int (nI (e - f))), (4, .int (nI u))]) rfl (rfl : _ = 77) ?_
              refine xv_iconst hX (v := nI 0) dc_MD_usageBits_77 (by decide) (rfl : _ = 78) ?_
              refine xv_istore hX [1, 2, 3, 4, 5, 0] dc_MD_usageBits_78 (by decide) (L' := [(0, .ref (Y.2.2.2 277)), (1, .int (nI l)), (2, .int (nI e)), (3, .int (nI (e - f))), (4, .int (nI u)), (5, .int (nI 0))]) rfl (rfl : _ = 80) ?_
              have lp80 : ∀ (fu80 : Nat) (t : Nat) (ht : t ≤ 8) (htz : ps_tz u (8 - t) t = ps_tz u 8 0), 8 - t < fu80 → xv_V X Y 7 0 0 xw_lk xw_N (xm_set M3 277 31 0) 80 [(0, .ref (Y.2.2.2 277)), (1, .int (nI l)), (2, .int (nI e)), (3, .int (nI (e - f))), (4, .int (nI u)), (5, .int (nI t))] [] := by
                intro n80
                induction n80 with
                | zero => intro t ht htz hm80; exact absurd hm80 (Nat.not_lt_zero _)
                | succ n80 ih80 =>
                  intro t ht htz hm80
                  refine xv_iload hX 5 dc_MD_usageBits_80 rfl (rfl : _ = 82) ?_
                  refine xv_bipush hX (v := nI 8) dc_MD_usageBits_82 (by decide) (rfl : _ = 84) ?_
                  refine xv_icmp_ge hX (nI_toInt (by omega)) (show (nI 8).toInt = 8 by decide) (tgt := 106) (pq := 87) dc_MD_usageBits_84 (by decide) rfl (fun c84 => ?_) (fun c84 => ?_)
                  · skip
                    have hbz : ps_tz u 8 0 = t := by rw [← htz, show 8 - t = 0 by omega]; rfl
                    refine xv_aload_n hX 0 dc_MD_usageBits_106 rfl (rfl : _ = 107) ?_
                    refine xv_iload hX 4 dc_MD_usageBits_107 rfl (rfl : _ = 109) ?_
                    refine xv_if_eq hX (nI_toInt (by omega)) (tgt := 126) (pq := 112) dc_MD_usageBits_109 (by decide) rfl (fun c109 => ?_) (fun c109 => ?_)
                    · skip
                      refine xv_iconst hX (v := nI 1) dc_MD_usageBits_126 (by decide) (rfl : _ = 127) ?_
                      refine xv_goto hX (pq := 131) dc_MD_usageBits_127 (by decide) ?_
                      refine xv_putz hX fl_MD_34 rfl rfl (by decide) (by decide) dc_MD_usageBits_131 (rfl : _ = 134) ?_
                      refine xv_iconst hX (v := nI 0) dc_MD_usageBits_134 (by decide) (rfl : _ = 135) ?_
                      refine xv_istore hX [1, 2, 3, 4, 5, 6, 0] dc_MD_usageBits_135 (by decide) (L' := [(0, .ref (Y.2.2.2 277)), (1, .int (nI l)), (2, .int (nI e)), (3, .int (nI (e - f))), (4, .int (nI u)), (5, .int (nI t)), (6, .int (nI 0))]) rfl (rfl : _ = 137) ?_
                      have lp137 : ∀ (fu137 : Nat) (Mt : xm_M) (k : Nat) (hIt : md_I Mt) (hk : k ≤ 8) (ht31 : Mt 277 31 = us_sum u k) (hW : (Mt 277 7 = 0 ∧ (u ≠ 0 ∧ M 278 f = ps_tz u 8 0)) ∨ (Mt 277 7 = 1 ∧ ¬ (u ≠ 0 ∧ M 278 f = ps_tz u 8 0))) (hFt : md_X [6, 7, 31] M Mt), 8 - k < fu137 → xv_V X Y 7 0 0 xw_lk xw_N Mt 137 [(0, .ref (Y.2.2.2 277)), (1, .int (nI l)), (2, .int (nI e)), (3, .int (nI (e - f))), (4, .int (nI u)), (6, .int (nI k))] [] := by
                        intro n137
                        induction n137 with
                        | zero => intro Mt k hIt hk ht31 hW hFt hm137; exact absurd hm137 (Nat.not_lt_zero _)
                        | succ n137 ih137 =>
                          intro Mt k hIt hk ht31 hW hFt hm137
                          refine xv_iload hX 5 dc_MD_usageBits_137 rfl (rfl : _ = 139) ?_
                          refine xv_bipush hX (v := nI 8) dc_MD_usageBits_139 (by decide) (rfl : _ = 141) ?_
                          refine xv_icmp_ge hX (nI_toInt (by omega)) (show (nI 8).toInt = 8 by decide) (tgt := 172) (pq := 144) dc_MD_usageBits_141 (by decide) rfl (fun c141 => ?_) (fun c141 => ?_)
                          · skip
                            refine xv_aload_n hX 0 dc_MD_usageBits_172 rfl (rfl : _ = 173) ?_
                            refine xv_iload_n hX 2 dc_MD_usageBits_173 rfl (rfl : _ = 174) ?_
                            refine xv_puti hX fl_MD_38 rfl rfl (by decide) dc_MD_usageBits_174 (rfl : _ = 177) ?_
                            refine xv_retv hX hR dc_MD_usageBits_177 ?_
                            have hJ := mo_bt1 g3a
                            rw [if_neg (by omega), if_pos (by omega), hu] at hJ
                            have hk8 : k = 8 := by omega
                            obtain ⟨a1, a2, a3⟩ := md_done (M := Mt) (M' := (xm_set Mt 277 6 e)) (v := e) (w := Mt 277 7) xm_eq (xm_nk (by decide)) (fun q a => by simp only [xm_oth a]) (fun j a b => by simp only [xm_nk a]) hIt (by omega) (by omega)
                            refine ⟨a1, hFt.tt (a2.x.up (by decide)), ?_⟩
                            rw [a3]
                            rcases hW with ⟨h7, hg⟩ | ⟨h7, hg⟩
                            · rw [if_pos hg] at hJ
                              rw [hJ, if_pos h7]
                              exact Or.inr ⟨u, e, rfl, rfl, by rw [xm_nk (by decide), ht31, hk8]; exact us_mir u hb1⟩
                            · rw [if_neg hg] at hJ
                              rw [hJ, if_neg (by omega)]
                              exact Or.inl ⟨rfl, rfl⟩
                          · skip
                            refine xv_aload_n hX 0 dc_MD_usageBits_144 rfl (rfl : _ = 145) ?_
                            refine xv_aload_n hX 0 dc_MD_usageBits_145 rfl (rfl : _ = 146) ?_
                            refine xv_geti hX fl_MD_57 rfl rfl (by decide) (v := Mt 277 31) rfl dc_MD_usageBits_146 (rfl : _ = 149) ?_
                            refine xv_iload hX 4 dc_MD_usageBits_149 rfl (rfl : _ = 151) ?_
                            refine xv_bipush hX (v := nI 7) dc_MD_usageBits_151 (by decide) (rfl : _ = 153) ?_
                            refine xv_iload hX 5 dc_MD_usageBits_153 rfl (rfl : _ = 155) ?_
                            refine xv_isub hX dc_MD_usageBits_155 (pk_sub (by omega)) (rfl : _ = 156) ?_
                            refine xv_ishr hX dc_MD_usageBits_156 (us_shr u hb1 (7 - k) (by omega)) (rfl : _ = 157) ?_
                            refine xv_iconst hX (v := nI 2) dc_MD_usageBits_157 (by decide) (rfl : _ = 158) ?_
                            refine xv_irem hX dc_MD_usageBits_158 (by decide) (pk_rem (by have := Nat.div_le_self u (2 ^ (7 - k)); omega) (by decide) (by decide)) (rfl : _ = 159) ?_
                            refine xv_iload hX 5 dc_MD_usageBits_159 rfl (rfl : _ = 161) ?_
                            refine xv_ishl hX dc_MD_usageBits_161 (us_shl _ (Nat.mod_lt _ (by decide)) k (by omega)) (rfl : _ = 162) ?_
                            refine xv_iadd hX dc_MD_usageBits_162 (nI_add (Mt 277 31) (u / 2 ^ (7 - k) % 2 * 2 ^ k)) (rfl : _ = 163) ?_
                            refine xv_puti hX fl_MD_57 rfl rfl (by decide) dc_MD_usageBits_163 (rfl : _ = 166) ?_
                            refine xv_iinc hX 5 [1, 2, 3, 4, 5, 0] dc_MD_usageBits_166 rfl (xi_inc k 1) (by decide) (L' := [(0, .ref (Y.2.2.2 277)), (1, .int (nI l)), (2, .int (nI e)), (3, .int (nI (e - f))), (4, .int (nI u)), (6, .int (nI (k + 1)))]) rfl (rfl : _ = 169) ?_
                            refine xv_goto hX (pq := 137) dc_MD_usageBits_169 (by decide) ?_
                            refine xv_sub (L' := [(0, .ref (Y.2.2.2 277)), (1, .int (nI l)), (2, .int (nI e)), (3, .int (nI (e - f))), (4, .int (nI u)), (6, .int (nI (k + 1)))]) [0, 1, 2, 3, 4, 5] rfl ?_
                            exact ih137 (xm_set Mt 277 31 (Mt 277 31 + (u / 2 ^ (7 - k) % 2 * 2 ^ k))) (k + 1) (md_put (M := Mt) (by decide) (by decide) hIt).1 (by omega) (by rw [xm_eq, ht31]; rfl) (by rw [xm_nk (by decide)]; exact hW) (hFt.tt ((md_X.set Mt 31 _).up (by decide))) (by omega)
                      refine xv_sub (L' := [(0, .ref (Y.2.2.2 277)), (1, .int (nI l)), (2, .int (nI e)), (3, .int (nI (e - f))), (4, .int (nI u)), (6, .int (nI 0))]) [0, 1, 2, 3, 4, 6] rfl ?_
                      exact lp137 _ (xm_set (xm_set M3 277 31 0) 277 7 1) 0 (md_wr (M := (xm_set M3 277 31 0)) (v := 1) (md_put (M := M3) (k := 31) (v := 0) (by decide) (by decide) i3).1 (by decide)).1 (by decide) (by rw [xm_nk (by decide), xm_eq]; rfl) (Or.inr ⟨xm_eq, by rw [hbz]; omega⟩) (md_X.tt (f3.x.up (by decide)) (md_X.tt ((md_X.set M3 31 0).up (by decide)) ((md_X.set (xm_set M3 277 31 0) 7 1).up (by decide)))) (Nat.lt_succ_self _)
                    · skip
                      refine xv_aload_n hX 0 dc_MD_usageBits_112 rfl (rfl : _ = 113) ?_
                      refine xv_getr hX fl_MD_7 rfl rfl (by decide) rfl dc_MD_usageBits_113 (rfl : _ = 116) ?_
                      refine xv_aload_n hX 0 dc_MD_usageBits_116 rfl (rfl : _ = 117) ?_
                      refine xv_geti hX fl_MD_38 rfl rfl (by decide) (v := f) ((xm_nk (by decide)).trans g36) dc_MD_usageBits_117 (rfl : _ = 120) ?_
                      refine xv_iald hX rfl (by decide) (by omega) (by decide) (v := M 278 f) ((xm_np (by decide)).trans hd0) dc_MD_usageBits_120 (rfl : _ = 121) ?_
                      refine xv_iload hX 5 dc_MD_usageBits_121 rfl (rfl : _ = 123) ?_
                      refine xv_icmp_eq hX (nI_toInt (by omega)) (nI_toInt (by omega)) (tgt := 130) (pq := 126) dc_MD_usageBits_123 (by decide) rfl (fun c123 => ?_) (fun c123 => ?_)
                      · skip
                        refine xv_iconst hX (v := nI 0) dc_MD_usageBits_130 (by decide) (rfl : _ = 131) ?_
                        refine xv_putz hX fl_MD_34 rfl rfl (by decide) (by decide) dc_MD_usageBits_131 (rfl : _ = 134) ?_
                        refine xv_iconst hX (v := nI 0) dc_MD_usageBits_134 (by decide) (rfl : _ = 135) ?_
                        refine xv_istore hX [1, 2, 3, 4, 5, 6, 0] dc_MD_usageBits_135 (by decide) (L' := [(0, .ref (Y.2.2.2 277)), (1, .int (nI l)), (2, .int (nI e)), (3, .int (nI (e - f))), (4, .int (nI u)), (5, .int (nI t)), (6, .int (nI 0))]) rfl (rfl : _ = 137) ?_
                        have lp137 : ∀ (fu137 : Nat) (Mt : xm_M) (k : Nat) (hIt : md_I Mt) (hk : k ≤ 8) (ht31 : Mt 277 31 = us_sum u k) (hW : (Mt 277 7 = 0 ∧ (u ≠ 0 ∧ M 278 f = ps_tz u 8 0)) ∨ (Mt 277 7 = 1 ∧ ¬ (u ≠ 0 ∧ M 278 f = ps_tz u 8 0))) (hFt : md_X [6, 7, 31] M Mt), 8 - k < fu137 → xv_V X Y 7 0 0 xw_lk xw_N Mt 137 [(0, .ref (Y.2.2.2 277)), (1, .int (nI l)), (2, .int (nI e)), (3, .int (nI (e - f))), (4, .int (nI u)), (6, .int (nI k))] [] := by
                          intro n137
                          induction n137 with
                          | zero => intro Mt k hIt hk ht31 hW hFt hm137; exact absurd hm137 (Nat.not_lt_zero _)
                          | succ n137 ih137 =>
                            intro Mt k hIt hk ht31 hW hFt hm137
                            refine xv_iload hX 5 dc_MD_usageBits_137 rfl (rfl : _ = 139) ?_
                            refine xv_bipush hX (v := nI 8) dc_MD_usageBits_139 (by decide) (rfl : _ = 141) ?_
                            refine xv_icmp_ge hX (nI_toInt (by omega)) (show (nI 8).toInt = 8 by decide) (tgt := 172) (pq := 144) dc_MD_usageBits_141 (by decide) rfl (fun c141 => ?_) (fun c141 => ?_)
                            · skip
                              refine xv_aload_n hX 0 dc_MD_usageBits_172 rfl (rfl : _ = 173) ?_
                              refine xv_iload_n hX 2 dc_MD_usageBits_173 rfl (rfl : _ = 174) ?_
                              refine xv_puti hX fl_MD_38 rfl rfl (by decide) dc_MD_usageBits_174 (rfl : _ = 177) ?_
                              refine xv_retv hX hR dc_MD_usageBits_177 ?_
                              have hJ := mo_bt1 g3a
                              rw [if_neg (by omega), if_pos (by omega), hu] at hJ
                              have hk8 : k = 8 := by omega
                              obtain ⟨a1, a2, a3⟩ := md_done (M := Mt) (M' := (xm_set Mt 277 6 e)) (v := e) (w := Mt 277 7) xm_eq (xm_nk (by decide)) (fun q a => by simp only [xm_oth a]) (fun j a b => by simp only [xm_nk a]) hIt (by omega) (by omega)
                              refine ⟨a1, hFt.tt (a2.x.up (by decide)), ?_⟩
                              rw [a3]
                              rcases hW with ⟨h7, hg⟩ | ⟨h7, hg⟩
                              · rw [if_pos hg] at hJ
                                rw [hJ, if_pos h7]
                                exact Or.inr ⟨u, e, rfl, rfl, by rw [xm_nk (by decide), ht31, hk8]; exact us_mir u hb1⟩
                              · rw [if_neg hg] at hJ
                                rw [hJ, if_neg (by omega)]
                                exact Or.inl ⟨rfl, rfl⟩
                            · skip
                              refine xv_aload_n hX 0 dc_MD_usageBits_144 rfl (rfl : _ = 145) ?_
                              refine xv_aload_n hX 0 dc_MD_usageBits_145 rfl (rfl : _ = 146) ?_
                              refine xv_geti hX fl_MD_57 rfl rfl (by decide) (v := Mt 277 31) rfl dc_MD_usageBits_146 (rfl : _ = 149) ?_
                              refine xv_iload hX 4 dc_MD_usageBits_149 rfl (rfl : _ = 151) ?_
                              refine xv_bipush hX (v := nI 7) dc_MD_usageBits_151 (by decide) (rfl : _ = 153) ?_
                              refine xv_iload hX 5 dc_MD_usageBits_153 rfl (rfl : _ = 155) ?_
                              refine xv_isub hX dc_MD_usageBits_155 (pk_sub (by omega)) (rfl : _ = 156) ?_
                              refine xv_ishr hX dc_MD_usageBits_156 (us_shr u hb1 (7 - k) (by omega)) (rfl : _ = 157) ?_
                              refine xv_iconst hX (v := nI 2) dc_MD_usageBits_157 (by decide) (rfl : _ = 158) ?_
                              refine xv_irem hX dc_MD_usageBits_158 (by decide) (pk_rem (by have := Nat.div_le_self u (2 ^ (7 - k)); omega) (by decide) (by decide)) (rfl : _ = 159) ?_
                              refine xv_iload hX 5 dc_MD_usageBits_159 rfl (rfl : _ = 161) ?_
                              refine xv_ishl hX dc_MD_usageBits_161 (us_shl _ (Nat.mod_lt _ (by decide)) k (by omega)) (rfl : _ = 162) ?_
                              refine xv_iadd hX dc_MD_usageBits_162 (nI_add (Mt 277 31) (u / 2 ^ (7 - k) % 2 * 2 ^ k)) (rfl : _ = 163) ?_
                              refine xv_puti hX fl_MD_57 rfl rfl (by decide) dc_MD_usageBits_163 (rfl : _ = 166) ?_
                              refine xv_iinc hX 5 [1, 2, 3, 4, 5, 0] dc_MD_usageBits_166 rfl (xi_inc k 1) (by decide) (L' := [(0, .ref (Y.2.2.2 277)), (1, .int (nI l)), (2, .int (nI e)), (3, .int (nI (e - f))), (4, .int (nI u)), (6, .int (nI (k + 1)))]) rfl (rfl : _ = 169) ?_
                              refine xv_goto hX (pq := 137) dc_MD_usageBits_169 (by decide) ?_
                              refine xv_sub (L' := [(0, .ref (Y.2.2.2 277)), (1, .int (nI l)), (2, .int (nI e)), (3, .int (nI (e - f))), (4, .int (nI u)), (6, .int (nI (k + 1)))]) [0, 1, 2, 3, 4, 5] rfl ?_
                              exact ih137 (xm_set Mt 277 31 (Mt 277 31 + (u / 2 ^ (7 - k) % 2 * 2 ^ k))) (k + 1) (md_put (M := Mt) (by decide) (by decide) hIt).1 (by omega) (by rw [xm_eq, ht31]; rfl) (by rw [xm_nk (by decide)]; exact hW) (hFt.tt ((md_X.set Mt 31 _).up (by decide))) (by omega)
                        refine xv_sub (L' := [(0, .ref (Y.2.2.2 277)), (1, .int (nI l)), (2, .int (nI e)), (3, .int (nI (e - f))), (4, .int (nI u)), (6, .int (nI 0))]) [0, 1, 2, 3, 4, 6] rfl ?_
                        exact lp137 _ (xm_set (xm_set M3 277 31 0) 277 7 0) 0 (md_wr (M := (xm_set M3 277 31 0)) (v := 0) (md_put (M := M3) (k := 31) (v := 0) (by decide) (by decide) i3).1 (by decide)).1 (by decide) (by rw [xm_nk (by decide), xm_eq]; rfl) (Or.inl ⟨xm_eq, by omega, by rw [hbz]; omega⟩) (md_X.tt (f3.x.up (by decide)) (md_X.tt ((md_X.set M3 31 0).up (by decide)) ((md_X.set (xm_set M3 277 31 0) 7 0).up (by decide)))) (Nat.lt_succ_self _)
                      · skip
                        refine xv_iconst hX (v := nI 1) dc_MD_usageBits_126 (by decide) (rfl : _ = 127) ?_
                        refine xv_goto hX (pq := 131) dc_MD_usageBits_127 (by decide) ?_
                        refine xv_putz hX fl_MD_34 rfl rfl (by decide) (by decide) dc_MD_usageBits_131 (rfl : _ = 134) ?_
                        refine xv_iconst hX (v := nI 0) dc_MD_usageBits_134 (by decide) (rfl : _ = 135) ?_
                        refine xv_istore hX [1, 2, 3, 4, 5, 6, 0] dc_MD_usageBits_135 (by decide) (L' := [(0, .ref (Y.2.2.2 277)), (1, .int (nI l)), (2, .int (nI e)), (3, .int (nI (e - f))), (4, .int (nI u)), (5, .int (nI t)), (6, .int (nI 0))]) rfl (rfl : _ = 137) ?_
                        have lp137 : ∀ (fu137 : Nat) (Mt : xm_M) (k : Nat) (hIt : md_I Mt) (hk : k ≤ 8) (ht31 : Mt 277 31 = us_sum u k) (hW : (Mt 277 7 = 0 ∧ (u ≠ 0 ∧ M 278 f = ps_tz u 8 0)) ∨ (Mt 277 7 = 1 ∧ ¬ (u ≠ 0 ∧ M 278 f = ps_tz u 8 0))) (hFt : md_X [6, 7, 31] M Mt), 8 - k < fu137 → xv_V X Y 7 0 0 xw_lk xw_N Mt 137 [(0, .ref (Y.2.2.2 277)), (1, .int (nI l)), (2, .int (nI e)), (3, .int (nI (e - f))), (4, .int (nI u)), (6, .int (nI k))] [] := by
                          intro n137
                          induction n137 with
                          | zero => intro Mt k hIt hk ht31 hW hFt hm137; exact absurd hm137 (Nat.not_lt_zero _)
                          | succ n137 ih137 =>
                            intro Mt k hIt hk ht31 hW hFt hm137
                            refine xv_iload hX 5 dc_MD_usageBits_137 rfl (rfl : _ = 139) ?_
                            refine xv_bipush hX (v := nI 8) dc_MD_usageBits_139 (by decide) (rfl : _ = 141) ?_
                            refine xv_icmp_ge hX (nI_toInt (by omega)) (show (nI 8).toInt = 8 by decide) (tgt := 172) (pq := 144) dc_MD_usageBits_141 (by decide) rfl (fun c141 => ?_) (fun c141 => ?_)
                            · skip
                              refine xv_aload_n hX 0 dc_MD_usageBits_172 rfl (rfl : _ = 173) ?_
                              refine xv_iload_n hX 2 dc_MD_usageBits_173 rfl (rfl : _ = 174) ?_
                              refine xv_puti hX fl_MD_38 rfl rfl (by decide) dc_MD_usageBits_174 (rfl : _ = 177) ?_
                              refine xv_retv hX hR dc_MD_usageBits_177 ?_
                              have hJ := mo_bt1 g3a
                              rw [if_neg (by omega), if_pos (by omega), hu] at hJ
                              have hk8 : k = 8 := by omega
                              obtain ⟨a1, a2, a3⟩ := md_done (M := Mt) (M' := (xm_set Mt 277 6 e)) (v := e) (w := Mt 277 7) xm_eq (xm_nk (by decide)) (fun q a => by simp only [xm_oth a]) (fun j a b => by simp only [xm_nk a]) hIt (by omega) (by omega)
                              refine ⟨a1, hFt.tt (a2.x.up (by decide)), ?_⟩
                              rw [a3]
                              rcases hW with ⟨h7, hg⟩ | ⟨h7, hg⟩
                              · rw [if_pos hg] at hJ
                                rw [hJ, if_pos h7]
                                exact Or.inr ⟨u, e, rfl, rfl, by rw [xm_nk (by decide), ht31, hk8]; exact us_mir u hb1⟩
                              · rw [if_neg hg] at hJ
                                rw [hJ, if_neg (by omega)]
                                exact Or.inl ⟨rfl, rfl⟩
                            · skip
                              refine xv_aload_n hX 0 dc_MD_usageBits_144 rfl (rfl : _ = 145) ?_
                              refine xv_aload_n hX 0 dc_MD_usageBits_145 rfl (rfl : _ = 146) ?_
                              refine xv_geti hX fl_MD_57 rfl rfl (by decide) (v := Mt 277 31) rfl dc_MD_usageBits_146 (rfl : _ = 149) ?_
                              refine xv_iload hX 4 dc_MD_usageBits_149 rfl (rfl : _ = 151) ?_
                              refine xv_bipush hX (v := nI 7) dc_MD_usageBits_151 (by decide) (rfl : _ = 153) ?_
                              refine xv_iload hX 5 dc_MD_usageBits_153 rfl (rfl : _ = 155) ?_
                              refine xv_isub hX dc_MD_usageBits_155 (pk_sub (by omega)) (rfl : _ = 156) ?_
                              refine xv_ishr hX dc_MD_usageBits_156 (us_shr u hb1 (7 - k) (by omega)) (rfl : _ = 157) ?_
                              refine xv_iconst hX (v := nI 2) dc_MD_usageBits_157 (by decide) (rfl : _ = 158) ?_
                              refine xv_irem hX dc_MD_usageBits_158 (by decide) (pk_rem (by have := Nat.div_le_self u (2 ^ (7 - k)); omega) (by decide) (by decide)) (rfl : _ = 159) ?_
                              refine xv_iload hX 5 dc_MD_usageBits_159 rfl (rfl : _ = 161) ?_
                              refine xv_ishl hX dc_MD_usageBits_161 (us_shl _ (Nat.mod_lt _ (by decide)) k (by omega)) (rfl : _ = 162) ?_
                              refine xv_iadd hX dc_MD_usageBits_162 (nI_add (Mt 277 31) (u / 2 ^ (7 - k) % 2 * 2 ^ k)) (rfl : _ = 163) ?_
                              refine xv_puti hX fl_MD_57 rfl rfl (by decide) dc_MD_usageBits_163 (rfl : _ = 166) ?_
                              refine xv_iinc hX 5 [1, 2, 3, 4, 5, 0] dc_MD_usageBits_166 rfl (xi_inc k 1) (by decide) (L' := [(0, .ref (Y.2.2.2 277)), (1, .int (nI l)), (2, .int (nI e)), (3, .int (nI (e - f))), (4, .int (nI u)), (6, .int (nI (k + 1)))]) rfl (rfl : _ = 169) ?_
                              refine xv_goto hX (pq := 137) dc_MD_usageBits_169 (by decide) ?_
                              refine xv_sub (L' := [(0, .ref (Y.2.2.2 277)), (1, .int (nI l)), (2, .int (nI e)), (3, .int (nI (e - f))), (4, .int (nI u)), (6, .int (nI (k + 1)))]) [0, 1, 2, 3, 4, 5] rfl ?_
                              exact ih137 (xm_set Mt 277 31 (Mt 277 31 + (u / 2 ^ (7 - k) % 2 * 2 ^ k))) (k + 1) (md_put (M := Mt) (by decide) (by decide) hIt).1 (by omega) (by rw [xm_eq, ht31]; rfl) (by rw [xm_nk (by decide)]; exact hW) (hFt.tt ((md_X.set Mt 31 _).up (by decide))) (by omega)
                        refine xv_sub (L' := [(0, .ref (Y.2.2.2 277)), (1, .int (nI l)), (2, .int (nI e)), (3, .int (nI (e - f))), (4, .int (nI u)), (6, .int (nI 0))]) [0, 1, 2, 3, 4, 6] rfl ?_
                        exact lp137 _ (xm_set (xm_set M3 277 31 0) 277 7 1) 0 (md_wr (M := (xm_set M3 277 31 0)) (v := 1) (md_put (M := M3) (k := 31) (v := 0) (by decide) (by decide) i3).1 (by decide)).1 (by decide) (by rw [xm_nk (by decide), xm_eq]; rfl) (Or.inr ⟨xm_eq, by rw [hbz]; omega⟩) (md_X.tt (f3.x.up (by decide)) (md_X.tt ((md_X.set M3 31 0).up (by decide)) ((md_X.set (xm_set M3 277 31 0) 7 1).up (by decide)))) (Nat.lt_succ_self _)
                  · skip
                    refine xv_iload hX 4 dc_MD_usageBits_87 rfl (rfl : _ = 89) ?_
                    refine xv_iload hX 5 dc_MD_usageBits_89 rfl (rfl : _ = 91) ?_
                    refine xv_ishr hX dc_MD_usageBits_91 (us_shr u hb1 t (by omega)) (rfl : _ = 92) ?_
                    refine xv_iconst hX (v := nI 2) dc_MD_usageBits_92 (by decide) (rfl : _ = 93) ?_
                    refine xv_irem hX dc_MD_usageBits_93 (by decide) (pk_rem (by have := Nat.div_le_self u (2 ^ t); omega) (by decide) (by decide)) (rfl : _ = 94) ?_
                    refine xv_if_ne hX (nI_toInt (by omega)) (tgt := 106) (pq := 97) dc_MD_usageBits_94 (by decide) rfl (fun c94 => ?_) (fun c94 => ?_)
                    · skip
                      have hbz : ps_tz u 8 0 = t := by rw [← htz, show 8 - t = (8 - (t + 1)) + 1 by omega]; exact if_neg (by omega)
                      refine xv_aload_n hX 0 dc_MD_usageBits_106 rfl (rfl : _ = 107) ?_
                      refine xv_iload hX 4 dc_MD_usageBits_107 rfl (rfl : _ = 109) ?_
                      refine xv_if_eq hX (nI_toInt (by omega)) (tgt := 126) (pq := 112) dc_MD_usageBits_109 (by decide) rfl (fun c109 => ?_) (fun c109 => ?_)
                      · skip
                        refine xv_iconst hX (v := nI 1) dc_MD_usageBits_126 (by decide) (rfl : _ = 127) ?_
                        refine xv_goto hX (pq := 131) dc_MD_usageBits_127 (by decide) ?_
                        refine xv_putz hX fl_MD_34 rfl rfl (by decide) (by decide) dc_MD_usageBits_131 (rfl : _ = 134) ?_
                        refine xv_iconst hX (v := nI 0) dc_MD_usageBits_134 (by decide) (rfl : _ = 135) ?_
                        refine xv_istore hX [1, 2, 3, 4, 5, 6, 0] dc_MD_usageBits_135 (by decide) (L' := [(0, .ref (Y.2.2.2 277)), (1, .int (nI l)), (2, .int (nI e)), (3, .int (nI (e - f))), (4, .int (nI u)), (5, .int (nI t)), (6, .int (nI 0))]) rfl (rfl : _ = 137) ?_
                        have lp137 : ∀ (fu137 : Nat) (Mt : xm_M) (k : Nat) (hIt : md_I Mt) (hk : k ≤ 8) (ht31 : Mt 277 31 = us_sum u k) (hW : (Mt 277 7 = 0 ∧ (u ≠ 0 ∧ M 278 f = ps_tz u 8 0)) ∨ (Mt 277 7 = 1 ∧ ¬ (u ≠ 0 ∧ M 278 f = ps_tz u 8 0))) (hFt : md_X [6, 7, 31] M Mt), 8 - k < fu137 → xv_V X Y 7 0 0 xw_lk xw_N Mt 137 [(0, .ref (Y.2.2.2 277)), (1, .int (nI l)), (2, .int (nI e)), (3, .int (nI (e - f))), (4, .int (nI u)), (6, .int (nI k))] [] := by
                          intro n137
                          induction n137 with
                          | zero => intro Mt k hIt hk ht31 hW hFt hm137; exact absurd hm137 (Nat.not_lt_zero _)
                          | succ n137 ih137 =>
                            intro Mt k hIt hk ht31 hW hFt hm137
                            refine xv_iload hX 5 dc_MD_usageBits_137 rfl (rfl : _ = 139) ?_
                            refine xv_bipush hX (v := nI 8) dc_MD_usageBits_139 (by decide) (rfl : _ = 141) ?_
                            refine xv_icmp_ge hX (nI_toInt (by omega)) (show (nI 8).toInt = 8 by decide) (tgt := 172) (pq := 144) dc_MD_usageBits_141 (by decide) rfl (fun c141 => ?_) (fun c141 => ?_)
                            · skip
                              refine xv_aload_n hX 0 dc_MD_usageBits_172 rfl (rfl : _ = 173) ?_
                              refine xv_iload_n hX 2 dc_MD_usageBits_173 rfl (rfl : _ = 174) ?_
                              refine xv_puti hX fl_MD_38 rfl rfl (by decide) dc_MD_usageBits_174 (rfl : _ = 177) ?_
                              refine xv_retv hX hR dc_MD_usageBits_177 ?_
                              have hJ := mo_bt1 g3a
                              rw [if_neg (by omega), if_pos (by omega), hu] at hJ
                              have hk8 : k = 8 := by omega
                              obtain ⟨a1, a2, a3⟩ := md_done (M := Mt) (M' := (xm_set Mt 277 6 e)) (v := e) (w := Mt 277 7) xm_eq (xm_nk (by decide)) (fun q a => by simp only [xm_oth a]) (fun j a b => by simp only [xm_nk a]) hIt (by omega) (by omega)
                              refine ⟨a1, hFt.tt (a2.x.up (by decide)), ?_⟩
                              rw [a3]
                              rcases hW with ⟨h7, hg⟩ | ⟨h7, hg⟩
                              · rw [if_pos hg] at hJ
                                rw [hJ, if_pos h7]
                                exact Or.inr ⟨u, e, rfl, rfl, by rw [xm_nk (by decide), ht31, hk8]; exact us_mir u hb1⟩
                              · rw [if_neg hg] at hJ
                                rw [hJ, if_neg (by omega)]
                                exact Or.inl ⟨rfl, rfl⟩
                            · skip
                              refine xv_aload_n hX 0 dc_MD_usageBits_144 rfl (rfl : _ = 145) ?_
                              refine xv_aload_n hX 0 dc_MD_usageBits_145 rfl (rfl : _ = 146) ?_
                              refine xv_geti hX fl_MD_57 rfl rfl (by decide) (v := Mt 277 31) rfl dc_MD_usageBits_146 (rfl : _ = 149) ?_
                              refine xv_iload hX 4 dc_MD_usageBits_149 rfl (rfl : _ = 151) ?_
                              refine xv_bipush hX (v := nI 7) dc_MD_usageBits_151 (by decide) (rfl : _ = 153) ?_
                              refine xv_iload hX 5 dc_MD_usageBits_153 rfl (rfl : _ = 155) ?_
                              refine xv_isub hX dc_MD_usageBits_155 (pk_sub (by omega)) (rfl : _ = 156) ?_
                              refine xv_ishr hX dc_MD_usageBits_156 (us_shr u hb1 (7 - k) (by omega)) (rfl : _ = 157) ?_
                              refine xv_iconst hX (v := nI 2) dc_MD_usageBits_157 (by decide) (rfl : _ = 158) ?_
                              refine xv_irem hX dc_MD_usageBits_158 (by decide) (pk_rem (by have := Nat.div_le_self u (2 ^ (7 - k)); omega) (by decide) (by decide)) (rfl : _ = 159) ?_
                              refine xv_iload hX 5 dc_MD_usageBits_159 rfl (rfl : _ = 161) ?_
                              refine xv_ishl hX dc_MD_usageBits_161 (us_shl _ (Nat.mod_lt _ (by decide)) k (by omega)) (rfl : _ = 162) ?_
                              refine xv_iadd hX dc_MD_usageBits_162 (nI_add (Mt 277 31) (u / 2 ^ (7 - k) % 2 * 2 ^ k)) (rfl : _ = 163) ?_
                              refine xv_puti hX fl_MD_57 rfl rfl (by decide) dc_MD_usageBits_163 (rfl : _ = 166) ?_
                              refine xv_iinc hX 5 [1, 2, 3, 4, 5, 0] dc_MD_usageBits_166 rfl (xi_inc k 1) (by decide) (L' := [(0, .ref (Y.2.2.2 277)), (1, .int (nI l)), (2, .int (nI e)), (3, .int (nI (e - f))), (4, .int (nI u)), (6, .int (nI (k + 1)))]) rfl (rfl : _ = 169) ?_
                              refine xv_goto hX (pq := 137) dc_MD_usageBits_169 (by decide) ?_
                              refine xv_sub (L' := [(0, .ref (Y.2.2.2 277)), (1, .int (nI l)), (2, .int (nI e)), (3, .int (nI (e - f))), (4, .int (nI u)), (6, .int (nI (k + 1)))]) [0, 1, 2, 3, 4, 5] rfl ?_
                              exact ih137 (xm_set Mt 277 31 (Mt 277 31 + (u / 2 ^ (7 - k) % 2 * 2 ^ k))) (k + 1) (md_put (M := Mt) (by decide) (by decide) hIt).1 (by omega) (by rw [xm_eq, ht31]; rfl) (by rw [xm_nk (by decide)]; exact hW) (hFt.tt ((md_X.set Mt 31 _).up (by decide))) (by omega)
                        refine xv_sub (L' := [(0, .ref (Y.2.2.2 277)), (1, .int (nI l)), (2, .int (nI e)), (3, .int (nI (e - f))), (4, .int (nI u)), (6, .int (nI 0))]) [0, 1, 2, 3, 4, 6] rfl ?_
                        exact lp137 _ (xm_set (xm_set M3 277 31 0) 277 7 1) 0 (md_wr (M := (xm_set M3 277 31 0)) (v := 1) (md_put (M := M3) (k := 31) (v := 0) (by decide) (by decide) i3).1 (by decide)).1 (by decide) (by rw [xm_nk (by decide), xm_eq]; rfl) (Or.inr ⟨xm_eq, by rw [hbz]; omega⟩) (md_X.tt (f3.x.up (by decide)) (md_X.tt ((md_X.set M3 31 0).up (by decide)) ((md_X.set (xm_set M3 277 31 0) 7 1).up (by decide)))) (Nat.lt_succ_self _)
                      · skip
                        refine xv_aload_n hX 0 dc_MD_usageBits_112 rfl (rfl : _ = 113) ?_
                        refine xv_getr hX fl_MD_7 rfl rfl (by decide) rfl dc_MD_usageBits_113 (rfl : _ = 116) ?_
                        refine xv_aload_n hX 0 dc_MD_usageBits_116 rfl (rfl : _ = 117) ?_
                        refine xv_geti hX fl_MD_38 rfl rfl (by decide) (v := f) ((xm_nk (by decide)).trans g36) dc_MD_usageBits_117 (rfl : _ = 120) ?_
                        refine xv_iald hX rfl (by decide) (by omega) (by decide) (v := M 278 f) ((xm_np (by decide)).trans hd0) dc_MD_usageBits_120 (rfl : _ = 121) ?_
                        refine xv_iload hX 5 dc_MD_usageBits_121 rfl (rfl : _ = 123) ?_
                        refine xv_icmp_eq hX (nI_toInt (by omega)) (nI_toInt (by omega)) (tgt := 130) (pq := 126) dc_MD_usageBits_123 (by decide) rfl (fun c123 => ?_) (fun c123 => ?_)
                        · skip
                          refine xv_iconst hX (v := nI 0) dc_MD_usageBits_130 (by decide) (rfl : _ = 131) ?_
                          refine xv_putz hX fl_MD_34 rfl rfl (by decide) (by decide) dc_MD_usageBits_131 (rfl : _ = 134) ?_
                          refine xv_iconst hX (v := nI 0) dc_MD_usageBits_134 (by decide) (rfl : _ = 135) ?_
                          refine xv_istore hX [1, 2, 3, 4, 5, 6, 0] dc_MD_usageBits_135 (by decide) (L' := [(0, .ref (Y.2.2.2 277)), (1, .int (nI l)), (2, .int (nI e)), (3, .int (nI (e - f))), (4, .int (nI u)), (5, .int (nI t)), (6, .int (nI 0))]) rfl (rfl : _ = 137) ?_
                          have lp137 : ∀ (fu137 : Nat) (Mt : xm_M) (k : Nat) (hIt : md_I Mt) (hk : k ≤ 8) (ht31 : Mt 277 31 = us_sum u k) (hW : (Mt 277 7 = 0 ∧ (u ≠ 0 ∧ M 278 f = ps_tz u 8 0)) ∨ (Mt 277 7 = 1 ∧ ¬ (u ≠ 0 ∧ M 278 f = ps_tz u 8 0))) (hFt : md_X [6, 7, 31] M Mt), 8 - k < fu137 → xv_V X Y 7 0 0 xw_lk xw_N Mt 137 [(0, .ref (Y.2.2.2 277)), (1, .int (nI l)), (2, .int (nI e)), (3, .int (nI (e - f))), (4, .int (nI u)), (6, .int (nI k))] [] := by
                            intro n137
                            induction n137 with
                            | zero => intro Mt k hIt hk ht31 hW hFt hm137; exact absurd hm137 (Nat.not_lt_zero _)
                            | succ n137 ih137 =>
                              intro Mt k hIt hk ht31 hW hFt hm137
                              refine xv_iload hX 5 dc_MD_usageBits_137 rfl (rfl : _ = 139) ?_
                              refine xv_bipush hX (v := nI 8) dc_MD_usageBits_139 (by decide) (rfl : _ = 141) ?_
                              refine xv_icmp_ge hX (nI_toInt (by omega)) (show (nI 8).toInt = 8 by decide) (tgt := 172) (pq := 144) dc_MD_usageBits_141 (by decide) rfl (fun c141 => ?_) (fun c141 => ?_)
                              · skip
                                refine xv_aload_n hX 0 dc_MD_usageBits_172 rfl (rfl : _ = 173) ?_
                                refine xv_iload_n hX 2 dc_MD_usageBits_173 rfl (rfl : _ = 174) ?_
                                refine xv_puti hX fl_MD_38 rfl rfl (by decide) dc_MD_usageBits_174 (rfl : _ = 177) ?_
                                refine xv_retv hX hR dc_MD_usageBits_177 ?_
                                have hJ := mo_bt1 g3a
                                rw [if_neg (by omega), if_pos (by omega), hu] at hJ
                                have hk8 : k = 8 := by omega
                                obtain ⟨a1, a2, a3⟩ := md_done (M := Mt) (M' := (xm_set Mt 277 6 e)) (v := e) (w := Mt 277 7) xm_eq (xm_nk (by decide)) (fun q a => by simp only [xm_oth a]) (fun j a b => by simp only [xm_nk a]) hIt (by omega) (by omega)
                                refine ⟨a1, hFt.tt (a2.x.up (by decide)), ?_⟩
                                rw [a3]
                                rcases hW with ⟨h7, hg⟩ | ⟨h7, hg⟩
                                · rw [if_pos hg] at hJ
                                  rw [hJ, if_pos h7]
                                  exact Or.inr ⟨u, e, rfl, rfl, by rw [xm_nk (by decide), ht31, hk8]; exact us_mir u hb1⟩
                                · rw [if_neg hg] at hJ
                                  rw [hJ, if_neg (by omega)]
                                  exact Or.inl ⟨rfl, rfl⟩
                              · skip
                                refine xv_aload_n hX 0 dc_MD_usageBits_144 rfl (rfl : _ = 145) ?_
                                refine xv_aload_n hX 0 dc_MD_usageBits_145 rfl (rfl : _ = 146) ?_
                                refine xv_geti hX fl_MD_57 rfl rfl (by decide) (v := Mt 277 31) rfl dc_MD_usageBits_146 (rfl : _ = 149) ?_
                                refine xv_iload hX 4 dc_MD_usageBits_149 rfl (rfl : _ = 151) ?_
                                refine xv_bipush hX (v := nI 7) dc_MD_usageBits_151 (by decide) (rfl : _ = 153) ?_
                                refine xv_iload hX 5 dc_MD_usageBits_153 rfl (rfl : _ = 155) ?_
                                refine xv_isub hX dc_MD_usageBits_155 (pk_sub (by omega)) (rfl : _ = 156) ?_
                                refine xv_ishr hX dc_MD_usageBits_156 (us_shr u hb1 (7 - k) (by omega)) (rfl : _ = 157) ?_
                                refine xv_iconst hX (v := nI 2) dc_MD_usageBits_157 (by decide) (rfl : _ = 158) ?_
                                refine xv_irem hX dc_MD_usageBits_158 (by decide) (pk_rem (by have := Nat.div_le_self u (2 ^ (7 - k)); omega) (by decide) (by decide)) (rfl : _ = 159) ?_
                                refine xv_iload hX 5 dc_MD_usageBits_159 rfl (rfl : _ = 161) ?_
                                refine xv_ishl hX dc_MD_usageBits_161 (us_shl _ (Nat.mod_lt _ (by decide)) k (by omega)) (rfl : _ = 162) ?_
                                refine xv_iadd hX dc_MD_usageBits_162 (nI_add (Mt 277 31) (u / 2 ^ (7 - k) % 2 * 2 ^ k)) (rfl : _ = 163) ?_
                                refine xv_puti hX fl_MD_57 rfl rfl (by decide) dc_MD_usageBits_163 (rfl : _ = 166) ?_
                                refine xv_iinc hX 5 [1, 2, 3, 4, 5, 0] dc_MD_usageBits_166 rfl (xi_inc k 1) (by decide) (L' := [(0, .ref (Y.2.2.2 277)), (1, .int (nI l)), (2, .int (nI e)), (3, .int (nI (e - f))), (4, .int (nI u)), (6, .int (nI (k + 1)))]) rfl (rfl : _ = 169) ?_
                                refine xv_goto hX (pq := 137) dc_MD_usageBits_169 (by decide) ?_
                                refine xv_sub (L' := [(0, .ref (Y.2.2.2 277)), (1, .int (nI l)), (2, .int (nI e)), (3, .int (nI (e - f))), (4, .int (nI u)), (6, .int (nI (k + 1)))]) [0, 1, 2, 3, 4, 5] rfl ?_
                                exact ih137 (xm_set Mt 277 31 (Mt 277 31 + (u / 2 ^ (7 - k) % 2 * 2 ^ k))) (k + 1) (md_put (M := Mt) (by decide) (by decide) hIt).1 (by omega) (by rw [xm_eq, ht31]; rfl) (by rw [xm_nk (by decide)]; exact hW) (hFt.tt ((md_X.set Mt 31 _).up (by decide))) (by omega)
                          refine xv_sub (L' := [(0, .ref (Y.2.2.2 277)), (1, .int (nI l)), (2, .int (nI e)), (3, .int (nI (e - f))), (4, .int (nI u)), (6, .int (nI 0))]) [0, 1, 2, 3, 4, 6] rfl ?_
                          exact lp137 _ (xm_set (xm_set M3 277 31 0) 277 7 0) 0 (md_wr (M := (xm_set M3 277 31 0)) (v := 0) (md_put (M := M3) (k := 31) (v := 0) (by decide) (by decide) i3).1 (by decide)).1 (by decide) (by rw [xm_nk (by decide), xm_eq]; rfl) (Or.inl ⟨xm_eq, by omega, by rw [hbz]; omega⟩) (md_X.tt (f3.x.up (by decide)) (md_X.tt ((md_X.set M3 31 0).up (by decide)) ((md_X.set (xm_set M3 277 31 0) 7 0).up (by decide)))) (Nat.lt_succ_self _)
                        · skip
                          refine xv_iconst hX (v := nI 1) dc_MD_usageBits_126 (by decide) (rfl : _ = 127) ?_
                          refine xv_goto hX (pq := 131) dc_MD_usageBits_127 (by decide) ?_
                          refine xv_putz hX fl_MD_34 rfl rfl (by decide) (by decide) dc_MD_usageBits_131 (rfl : _ = 134) ?_
                          refine xv_iconst hX (v := nI 0) dc_MD_usageBits_134 (by decide) (rfl : _ = 135) ?_
                          refine xv_istore hX [1, 2, 3, 4, 5, 6, 0] dc_MD_usageBits_135 (by decide) (L' := [(0, .ref (Y.2.2.2 277)), (1, .int (nI l)), (2, .int (nI e)), (3, .int (nI (e - f))), (4, .int (nI u)), (5, .int (nI t)), (6, .int (nI 0))]) rfl (rfl : _ = 137) ?_
                          have lp137 : ∀ (fu137 : Nat) (Mt : xm_M) (k : Nat) (hIt : md_I Mt) (hk : k ≤ 8) (ht31 : Mt 277 31 = us_sum u k) (hW : (Mt 277 7 = 0 ∧ (u ≠ 0 ∧ M 278 f = ps_tz u 8 0)) ∨ (Mt 277 7 = 1 ∧ ¬ (u ≠ 0 ∧ M 278 f = ps_tz u 8 0))) (hFt : md_X [6, 7, 31] M Mt), 8 - k < fu137 → xv_V X Y 7 0 0 xw_lk xw_N Mt 137 [(0, .ref (Y.2.2.2 277)), (1, .int (nI l)), (2, .int (nI e)), (3, .int (nI (e - f))), (4, .int (nI u)), (6, .int (nI k))] [] := by
                            intro n137
                            induction n137 with
                            | zero => intro Mt k hIt hk ht31 hW hFt hm137; exact absurd hm137 (Nat.not_lt_zero _)
                            | succ n137 ih137 =>
                              intro Mt k hIt hk ht31 hW hFt hm137
                              refine xv_iload hX 5 dc_MD_usageBits_137 rfl (rfl : _ = 139) ?_
                              refine xv_bipush hX (v := nI 8) dc_MD_usageBits_139 (by decide) (rfl : _ = 141) ?_
                              refine xv_icmp_ge hX (nI_toInt (by omega)) (show (nI 8).toInt = 8 by decide) (tgt := 172) (pq := 144) dc_MD_usageBits_141 (by decide) rfl (fun c141 => ?_) (fun c141 => ?_)
                              · skip
                                refine xv_aload_n hX 0 dc_MD_usageBits_172 rfl (rfl : _ = 173) ?_
                                refine xv_iload_n hX 2 dc_MD_usageBits_173 rfl (rfl : _ = 174) ?_
                                refine xv_puti hX fl_MD_38 rfl rfl (by decide) dc_MD_usageBits_174 (rfl : _ = 177) ?_
                                refine xv_retv hX hR dc_MD_usageBits_177 ?_
                                have hJ := mo_bt1 g3a
                                rw [if_neg (by omega), if_pos (by omega), hu] at hJ
                                have hk8 : k = 8 := by omega
                                obtain ⟨a1, a2, a3⟩ := md_done (M := Mt) (M' := (xm_set Mt 277 6 e)) (v := e) (w := Mt 277 7) xm_eq (xm_nk (by decide)) (fun q a => by simp only [xm_oth a]) (fun j a b => by simp only [xm_nk a]) hIt (by omega) (by omega)
                                refine ⟨a1, hFt.tt (a2.x.up (by decide)), ?_⟩
                                rw [a3]
                                rcases hW with ⟨h7, hg⟩ | ⟨h7, hg⟩
                                · rw [if_pos hg] at hJ
                                  rw [hJ, if_pos h7]
                                  exact Or.inr ⟨u, e, rfl, rfl, by rw [xm_nk (by decide), ht31, hk8]; exact us_mir u hb1⟩
                                · rw [if_neg hg] at hJ
                                  rw [hJ, if_neg (by omega)]
                                  exact Or.inl ⟨rfl, rfl⟩
                              · skip
                                refine xv_aload_n hX 0 dc_MD_usageBits_144 rfl (rfl : _ = 145) ?_
                                refine xv_aload_n hX 0 dc_MD_usageBits_145 rfl (rfl : _ = 146) ?_
                                refine xv_geti hX fl_MD_57 rfl rfl (by decide) (v := Mt 277 31) rfl dc_MD_usageBits_146 (rfl : _ = 149) ?_
                                refine xv_iload hX 4 dc_MD_usageBits_149 rfl (rfl : _ = 151) ?_
                                refine xv_bipush hX (v := nI 7) dc_MD_usageBits_151 (by decide) (rfl : _ = 153) ?_
                                refine xv_iload hX 5 dc_MD_usageBits_153 rfl (rfl : _ = 155) ?_
                                refine xv_isub hX dc_MD_usageBits_155 (pk_sub (by omega)) (rfl : _ = 156) ?_
                                refine xv_ishr hX dc_MD_usageBits_156 (us_shr u hb1 (7 - k) (by omega)) (rfl : _ = 157) ?_
                                refine xv_iconst hX (v := nI 2) dc_MD_usageBits_157 (by decide) (rfl : _ = 158) ?_
                                refine xv_irem hX dc_MD_usageBits_158 (by decide) (pk_rem (by have := Nat.div_le_self u (2 ^ (7 - k)); omega) (by decide) (by decide)) (rfl : _ = 159) ?_
                                refine xv_iload hX 5 dc_MD_usageBits_159 rfl (rfl : _ = 161) ?_
                                refine xv_ishl hX dc_MD_usageBits_161 (us_shl _ (Nat.mod_lt _ (by decide)) k (by omega)) (rfl : _ = 162) ?_
                                refine xv_iadd hX dc_MD_usageBits_162 (nI_add (Mt 277 31) (u / 2 ^ (7 - k) % 2 * 2 ^ k)) (rfl : _ = 163) ?_
                                refine xv_puti hX fl_MD_57 rfl rfl (by decide) dc_MD_usageBits_163 (rfl : _ = 166) ?_
                                refine xv_iinc hX 5 [1, 2, 3, 4, 5, 0] dc_MD_usageBits_166 rfl (xi_inc k 1) (by decide) (L' := [(0, .ref (Y.2.2.2 277)), (1, .int (nI l)), (2, .int (nI e)), (3, .int (nI (e - f))), (4, .int (nI u)), (6, .int (nI (k + 1)))]) rfl (rfl : _ = 169) ?_
                                refine xv_goto hX (pq := 137) dc_MD_usageBits_169 (by decide) ?_
                                refine xv_sub (L' := [(0, .ref (Y.2.2.2 277)), (1, .int (nI l)), (2, .int (nI e)), (3, .int (nI (e - f))), (4, .int (nI u)), (6, .int (nI (k + 1)))]) [0, 1, 2, 3, 4, 5] rfl ?_
                                exact ih137 (xm_set Mt 277 31 (Mt 277 31 + (u / 2 ^ (7 - k) % 2 * 2 ^ k))) (k + 1) (md_put (M := Mt) (by decide) (by decide) hIt).1 (by omega) (by rw [xm_eq, ht31]; rfl) (by rw [xm_nk (by decide)]; exact hW) (hFt.tt ((md_X.set Mt 31 _).up (by decide))) (by omega)
                          refine xv_sub (L' := [(0, .ref (Y.2.2.2 277)), (1, .int (nI l)), (2, .int (nI e)), (3, .int (nI (e - f))), (4, .int (nI u)), (6, .int (nI 0))]) [0, 1, 2, 3, 4, 6] rfl ?_
                          exact lp137 _ (xm_set (xm_set M3 277 31 0) 277 7 1) 0 (md_wr (M := (xm_set M3 277 31 0)) (v := 1) (md_put (M := M3) (k := 31) (v := 0) (by decide) (by decide) i3).1 (by decide)).1 (by decide) (by rw [xm_nk (by decide), xm_eq]; rfl) (Or.inr ⟨xm_eq, by rw [hbz]; omega⟩) (md_X.tt (f3.x.up (by decide)) (md_X.tt ((md_X.set M3 31 0).up (by decide)) ((md_X.set (xm_set M3 277 31 0) 7 1).up (by decide)))) (Nat.lt_succ_self _)
                    · skip
                      refine xv_iload hX 5 dc_MD_usageBits_97 rfl (rfl : _ = 99) ?_
                      refine xv_iconst hX (v := nI 1) dc_MD_usageBits_99 (by decide) (rfl : _ = 100) ?_
                      refine xv_iadd hX dc_MD_usageBits_100 (nI_add t 1) (rfl : _ = 101) ?_
                      refine xv_istore hX [1, 2, 3, 4, 5, 0] dc_MD_usageBits_101 (by decide) (L' := [(0, .ref (Y.2.2.2 277)), (1, .int (nI l)), (2, .int (nI e)), (3, .int (nI (e - f))), (4, .int (nI u)), (5, .int (nI (t + 1)))]) rfl (rfl : _ = 103) ?_
                      refine xv_goto hX (pq := 80) dc_MD_usageBits_103 (by decide) ?_
                      refine xv_sub (L' := [(0, .ref (Y.2.2.2 277)), (1, .int (nI l)), (2, .int (nI e)), (3, .int (nI (e - f))), (4, .int (nI u)), (5, .int (nI (t + 1)))]) [0, 1, 2, 3, 4, 5] rfl ?_
                      exact ih80 (t + 1) (by omega) (by rw [← htz, show 8 - t = (8 - (t + 1)) + 1 by omega]; exact (if_pos (by omega)).symm) (by omega)
              refine xv_sub (L' := [(0, .ref (Y.2.2.2 277)), (1, .int (nI l)), (2, .int (nI e)), (3, .int (nI (e - f))), (4, .int (nI u)), (5, .int (nI 0))]) [0, 1, 2, 3, 4, 5] rfl ?_
              exact lp80 _ 0 (by decide) rfl (Nat.lt_succ_self _)
          · skip
            refine xv_aload_n hX 0 dc_MD_usageBits_41 rfl (rfl : _ = 42) ?_
            have hd0 : M3 278 f = M 278 f := by rw [b3]
            have hb0 := k8 f (by omega)
            refine xv_getr hX fl_MD_7 rfl rfl (by decide) rfl dc_MD_usageBits_42 (rfl : _ = 45) ?_
            refine xv_aload_n hX 0 dc_MD_usageBits_45 rfl (rfl : _ = 46) ?_
            refine xv_geti hX fl_MD_38 rfl rfl (by decide) (v := f) ((xm_nk (by decide)).trans g36) dc_MD_usageBits_46 (rfl : _ = 49) ?_
            refine xv_iald hX rfl (by decide) (by omega) (by decide) (v := M 278 f) ((xm_np (by decide)).trans hd0) dc_MD_usageBits_49 (rfl : _ = 50) ?_
            refine xv_if_eq hX (nI_toInt (by omega)) (tgt := 59) (pq := 53) dc_MD_usageBits_50 (by decide) rfl (fun c50 => ?_) (fun c50 => ?_)
            · skip
              refine xv_iload_n hX 3 dc_MD_usageBits_59 rfl (rfl : _ = 60) ?_
              refine xv_iconst hX (v := nI 2) dc_MD_usageBits_60 (by decide) (rfl : _ = 61) ?_
              refine xv_icmp_ne hX (nI_toInt (by omega)) (show (nI 2).toInt = 2 by decide) (tgt := 172) (pq := 64) dc_MD_usageBits_61 (by decide) rfl (fun c61 => ?_) (fun c61 => ?_)
              · skip
                refine xv_aload_n hX 0 dc_MD_usageBits_172 rfl (rfl : _ = 173) ?_
                refine xv_iload_n hX 2 dc_MD_usageBits_173 rfl (rfl : _ = 174) ?_
                refine xv_puti hX fl_MD_38 rfl rfl (by decide) dc_MD_usageBits_174 (rfl : _ = 177) ?_
                refine xv_retv hX hR dc_MD_usageBits_177 ?_
                have hJ := mo_bt1 g3a
                rw [if_pos (by omega), if_pos (by omega)] at hJ
                obtain ⟨iU, oU⟩ := md_put (M := M3) (k := 31) (v := 0) (by decide) (by decide) i3
                obtain ⟨a1, a2, a3⟩ := md_done (M := (xm_set M3 277 31 0)) (M' := (xm_set (xm_set M3 277 31 0) 277 6 e)) (v := e) (w := 0) xm_eq ((xm_nk (by decide)).trans ((xm_nk (by decide)).trans g37)) (fun q a => by rw [xm_oth a]) (fun j a b => by rw [xm_nk a]) iU (by omega) (by omega)
                refine ⟨a1, (md_X.tt (f3.x.up (by decide)) (md_X.tt ((md_X.set M3 31 0).up (by decide)) (a2.x.up (by decide)))), ?_⟩
                rw [a3, if_pos rfl, hJ]
                exact Or.inr ⟨0, e, rfl, rfl, by rw [xm_nk (by decide), xm_eq]; rfl⟩
              · skip
                refine xv_aload_n hX 0 dc_MD_usageBits_64 rfl (rfl : _ = 65) ?_
                have hd1 : M3 278 (f + 1) = M 278 (f + 1) := by rw [b3]
                have hd0 : M3 278 f = M 278 f := by rw [b3]
                have hb1 := k8 (f + 1) (by omega)
                have hb0 := k8 f (by omega)
                obtain ⟨u, hu⟩ : ∃ u, M 278 (f + 1) = u := ⟨_, rfl⟩
                rw [hu] at hd1 hb1
                refine xv_getr hX fl_MD_7 rfl rfl (by decide) rfl dc_MD_usageBits_65 (rfl : _ = 68) ?_
                refine xv_aload_n hX 0 dc_MD_usageBits_68 rfl (rfl : _ = 69) ?_
                refine xv_geti hX fl_MD_38 rfl rfl (by decide) (v := f) ((xm_nk (by decide)).trans g36) dc_MD_usageBits_69 (rfl : _ = 72) ?_
                refine xv_iconst hX (v := nI 1) dc_MD_usageBits_72 (by decide) (rfl : _ = 73) ?_
                refine xv_iadd hX dc_MD_usageBits_73 (nI_add f 1) (rfl : _ = 74) ?_
                refine xv_iald hX rfl (by decide) (by omega) (by decide) (v := u) ((xm_np (by decide)).trans hd1) dc_MD_usageBits_74 (rfl : _ = 75) ?_
                refine xv_istore hX [1, 2, 3, 4, 0] dc_MD_usageBits_75 (by decide) (L' := [(0, .ref (Y.2.2.2 277)), (1, .int (nI l)), (2, .int (nI e)), (3, .int (nI (e - f))), (4, .int (nI u))]) rfl (rfl : _ = 77) ?_
                refine xv_iconst hX (v := nI 0) dc_MD_usageBits_77 (by decide) (rfl : _ = 78) ?_
                refine xv_istore hX [1, 2, 3, 4, 5, 0] dc_MD_usageBits_78 (by decide) (L' := [(0, .ref (Y.2.2.2 277)), (1, .int (nI l)), (2, .int (nI e)), (3, .int (nI (e - f))), (4, .int (nI u)), (5, .int (nI 0))]) rfl (rfl : _ = 80) ?_
                have lp80 : ∀ (fu80 : Nat) (t : Nat) (ht : t ≤ 8) (htz : ps_tz u (8 - t) t = ps_tz u 8 0), 8 - t < fu80 → xv_V X Y 7 0 0 xw_lk xw_N (xm_set M3 277 31 0) 80 [(0, .ref (Y.2.2.2 277)), (1, .int (nI l)), (2, .int (nI e)), (3, .int (nI (e - f))), (4, .int (nI u)), (5, .int (nI t))] [] := by
                  intro n80
                  induction n80 with
                  | zero => intro t ht htz hm80; exact absurd hm80 (Nat.not_lt_zero _)
                  | succ n80 ih80 =>
                    intro t ht htz hm80
                    refine xv_iload hX 5 dc_MD_usageBits_80 rfl (rfl : _ = 82) ?_
                    refine xv_bipush hX (v := nI 8) dc_MD_usageBits_82 (by decide) (rfl : _ = 84) ?_
                    refine xv_icmp_ge hX (nI_toInt (by omega)) (show (nI 8).toInt = 8 by decide) (tgt := 106) (pq := 87) dc_MD_usageBits_84 (by decide) rfl (fun c84 => ?_) (fun c84 => ?_)
                    · skip
                      have hbz : ps_tz u 8 0 = t := by rw [← htz, show 8 - t = 0 by omega]; rfl
                      refine xv_aload_n hX 0 dc_MD_usageBits_106 rfl (rfl : _ = 107) ?_
                      refine xv_iload hX 4 dc_MD_usageBits_107 rfl (rfl : _ = 109) ?_
                      refine xv_if_eq hX (nI_toInt (by omega)) (tgt := 126) (pq := 112) dc_MD_usageBits_109 (by decide) rfl (fun c109 => ?_) (fun c109 => ?_)
                      · skip
                        refine xv_iconst hX (v := nI 1) dc_MD_usageBits_126 (by decide) (rfl : _ = 127) ?_
                        refine xv_goto hX (pq := 131) dc_MD_usageBits_127 (by decide) ?_
                        refine xv_putz hX fl_MD_34 rfl rfl (by decide) (by decide) dc_MD_usageBits_131 (rfl : _ = 134) ?_
                        refine xv_iconst hX (v := nI 0) dc_MD_usageBits_134 (by decide) (rfl : _ = 135) ?_
                        refine xv_istore hX [1, 2, 3, 4, 5, 6, 0] dc_MD_usageBits_135 (by decide) (L' := [(0, .ref (Y.2.2.2 277)), (1, .int (nI l)), (2, .int (nI e)), (3, .int (nI (e - f))), (4, .int (nI u)), (5, .int (nI t)), (6, .int (nI 0))]) rfl (rfl : _ = 137) ?_
                        have lp137 : ∀ (fu137 : Nat) (Mt : xm_M) (k : Nat) (hIt : md_I Mt) (hk : k ≤ 8) (ht31 : Mt 277 31 = us_sum u k) (hW : (Mt 277 7 = 0 ∧ (u ≠ 0 ∧ M 278 f = ps_tz u 8 0)) ∨ (Mt 277 7 = 1 ∧ ¬ (u ≠ 0 ∧ M 278 f = ps_tz u 8 0))) (hFt : md_X [6, 7, 31] M Mt), 8 - k < fu137 → xv_V X Y 7 0 0 xw_lk xw_N Mt 137 [(0, .ref (Y.2.2.2 277)), (1, .int (nI l)), (2, .int (nI e)), (3, .int (nI (e - f))), (4, .int (nI u)), (6, .int (nI k))] [] := by
                          intro n137
                          induction n137 with
                          | zero => intro Mt k hIt hk ht31 hW hFt hm137; exact absurd hm137 (Nat.not_lt_zero _)
                          | succ n137 ih137 =>
                            intro Mt k hIt hk ht31 hW hFt hm137
                            refine xv_iload hX 5 dc_MD_usageBits_137 rfl (rfl : _ = 139) ?_
                            refine xv_bipush hX (v := nI 8) dc_MD_usageBits_139 (by decide) (rfl : _ = 141) ?_
                            refine xv_icmp_ge hX (nI_toInt (by omega)) (show (nI 8).toInt = 8 by decide) (tgt := 172) (pq := 144) dc_MD_usageBits_141 (by decide) rfl (fun c141 => ?_) (fun c141 => ?_)
                            · skip
                              refine xv_aload_n hX 0 dc_MD_usageBits_172 rfl (rfl : _ = 173) ?_
                              refine xv_iload_n hX 2 dc_MD_usageBits_173 rfl (rfl : _ = 174) ?_
                              refine xv_puti hX fl_MD_38 rfl rfl (by decide) dc_MD_usageBits_174 (rfl : _ = 177) ?_
                              refine xv_retv hX hR dc_MD_usageBits_177 ?_
                              have hJ := mo_bt1 g3a
                              rw [if_neg (by omega), if_pos (by omega), hu] at hJ
                              have hk8 : k = 8 := by omega
                              obtain ⟨a1, a2, a3⟩ := md_done (M := Mt) (M' := (xm_set Mt 277 6 e)) (v := e) (w := Mt 277 7) xm_eq (xm_nk (by decide)) (fun q a => by simp only [xm_oth a]) (fun j a b => by simp only [xm_nk a]) hIt (by omega) (by omega)
                              refine ⟨a1, hFt.tt (a2.x.up (by decide)), ?_⟩
                              rw [a3]
                              rcases hW with ⟨h7, hg⟩ | ⟨h7, hg⟩
                              · rw [if_pos hg] at hJ
                                rw [hJ, if_pos h7]
                                exact Or.inr ⟨u, e, rfl, rfl, by rw [xm_nk (by decide), ht31, hk8]; exact us_mir u hb1⟩
                              · rw [if_neg hg] at hJ
                                rw [hJ, if_neg (by omega)]
                                exact Or.inl ⟨rfl, rfl⟩
                            · skip
                              refine xv_aload_n hX 0 dc_MD_usageBits_144 rfl (rfl : _ = 145) ?_
                              refine xv_aload_n hX 0 dc_MD_usageBits_145 rfl (rfl : _ = 146) ?_
                              refine xv_geti hX fl_MD_57 rfl rfl (by decide) (v := Mt 277 31) rfl dc_MD_usageBits_146 (rfl : _ = 149) ?_
                              refine xv_iload hX 4 dc_MD_usageBits_149 rfl (rfl : _ = 151) ?_
                              refine xv_bipush hX (v := nI 7) dc_MD_usageBits_151 (by decide) (rfl : _ = 153) ?_
                              refine xv_iload hX 5 dc_MD_usageBits_153 rfl (rfl : _ = 155) ?_
                              refine xv_isub hX dc_MD_usageBits_155 (pk_sub (by omega)) (rfl : _ = 156) ?_
                              refine xv_ishr hX dc_MD_usageBits_156 (us_shr u hb1 (7 - k) (by omega)) (rfl : _ = 157) ?_
                              refine xv_iconst hX (v := nI 2) dc_MD_usageBits_157 (by decide) (rfl : _ = 158) ?_
                              refine xv_irem hX dc_MD_usageBits_158 (by decide) (pk_rem (by have := Nat.div_le_self u (2 ^ (7 - k)); omega) (by decide) (by decide)) (rfl : _ = 159) ?_
                              refine xv_iload hX 5 dc_MD_usageBits_159 rfl (rfl : _ = 161) ?_
                              refine xv_ishl hX dc_MD_usageBits_161 (us_shl _ (Nat.mod_lt _ (by decide)) k (by omega)) (rfl : _ = 162) ?_
                              refine xv_iadd hX dc_MD_usageBits_162 (nI_add (Mt 277 31) (u / 2 ^ (7 - k) % 2 * 2 ^ k)) (rfl : _ = 163) ?_
                              refine xv_puti hX fl_MD_57 rfl rfl (by decide) dc_MD_usageBits_163 (rfl : _ = 166) ?_
                              refine xv_iinc hX 5 [1, 2, 3, 4, 5, 0] dc_MD_usageBits_166 rfl (xi_inc k 1) (by decide) (L' := [(0, .ref (Y.2.2.2 277)), (1, .int (nI l)), (2, .int (nI e)), (3, .int (nI (e - f))), (4, .int (nI u)), (6, .int (nI (k + 1)))]) rfl (rfl : _ = 169) ?_
                              refine xv_goto hX (pq := 137) dc_MD_usageBits_169 (by decide) ?_
                              refine xv_sub (L' := [(0, .ref (Y.2.2.2 277)), (1, .int (nI l)), (2, .int (nI e)), (3, .int (nI (e - f))), (4, .int (nI u)), (6, .int (nI (k + 1)))]) [0, 1, 2, 3, 4, 5] rfl ?_
                              exact ih137 (xm_set Mt 277 31 (Mt 277 31 + (u / 2 ^ (7 - k) % 2 * 2 ^ k))) (k + 1) (md_put (M := Mt) (by decide) (by decide) hIt).1 (by omega) (by rw [xm_eq, ht31]; rfl) (by rw [xm_nk (by decide)]; exact hW) (hFt.tt ((md_X.set Mt 31 _).up (by decide))) (by omega)
                        refine xv_sub (L' := [(0, .ref (Y.2.2.2 277)), (1, .int (nI l)), (2, .int (nI e)), (3, .int (nI (e - f))), (4, .int (nI u)), (6, .int (nI 0))]) [0, 1, 2, 3, 4, 6] rfl ?_
                        exact lp137 _ (xm_set (xm_set M3 277 31 0) 277 7 1) 0 (md_wr (M := (xm_set M3 277 31 0)) (v := 1) (md_put (M := M3) (k := 31) (v := 0) (by decide) (by decide) i3).1 (by decide)).1 (by decide) (by rw [xm_nk (by decide), xm_eq]; rfl) (Or.inr ⟨xm_eq, by rw [hbz]; omega⟩) (md_X.tt (f3.x.up (by decide)) (md_X.tt ((md_X.set M3 31 0).up (by decide)) ((md_X.set (xm_set M3 277 31 0) 7 1).up (by decide)))) (Nat.lt_succ_self _)
                      · skip
                        refine xv_aload_n hX 0 dc_MD_usageBits_112 rfl (rfl : _ = 113) ?_
                        refine xv_getr hX fl_MD_7 rfl rfl (by decide) rfl dc_MD_usageBits_113 (rfl : _ = 116) ?_
                        refine xv_aload_n hX 0 dc_MD_usageBits_116 rfl (rfl : _ = 117) ?_
                        refine xv_geti hX fl_MD_38 rfl rfl (by decide) (v := f) ((xm_nk (by decide)).trans g36) dc_MD_usageBits_117 (rfl : _ = 120) ?_
                        refine xv_iald hX rfl (by decide) (by omega) (by decide) (v := M 278 f) ((xm_np (by decide)).trans hd0) dc_MD_usageBits_120 (rfl : _ = 121) ?_
                        refine xv_iload hX 5 dc_MD_usageBits_121 rfl (rfl : _ = 123) ?_
                        refine xv_icmp_eq hX (nI_toInt (by omega)) (nI_toInt (by omega)) (tgt := 130) (pq := 126) dc_MD_usageBits_123 (by decide) rfl (fun c123 => ?_) (fun c123 => ?_)
                        · skip
                          refine xv_iconst hX (v := nI 0) dc_MD_usageBits_130 (by decide) (rfl : _ = 131) ?_
                          refine xv_putz hX fl_MD_34 rfl rfl (by decide) (by decide) dc_MD_usageBits_131 (rfl : _ = 134) ?_
                          refine xv_iconst hX (v := nI 0) dc_MD_usageBits_134 (by decide) (rfl : _ = 135) ?_
                          refine xv_istore hX [1, 2, 3, 4, 5, 6, 0] dc_MD_usageBits_135 (by decide) (L' := [(0, .ref (Y.2.2.2 277)), (1, .int (nI l)), (2, .int (nI e)), (3, .int (nI (e - f))), (4, .int (nI u)), (5, .int (nI t)), (6, .int (nI 0))]) rfl (rfl : _ = 137) ?_
                          have lp137 : ∀ (fu137 : Nat) (Mt : xm_M) (k : Nat) (hIt : md_I Mt) (hk : k ≤ 8) (ht31 : Mt 277 31 = us_sum u k) (hW : (Mt 277 7 = 0 ∧ (u ≠ 0 ∧ M 278 f = ps_tz u 8 0)) ∨ (Mt 277 7 = 1 ∧ ¬ (u ≠ 0 ∧ M 278 f = ps_tz u 8 0))) (hFt : md_X [6, 7, 31] M Mt), 8 - k < fu137 → xv_V X Y 7 0 0 xw_lk xw_N Mt 137 [(0, .ref (Y.2.2.2 277)), (1, .int (nI l)), (2, .int (nI e)), (3, .int (nI (e - f))), (4, .int (nI u)), (6, .int (nI k))] [] := by
                            intro n137
                            induction n137 with
                            | zero => intro Mt k hIt hk ht31 hW hFt hm137; exact absurd hm137 (Nat.not_lt_zero _)
                            | succ n137 ih137 =>
                              intro Mt k hIt hk ht31 hW hFt hm137
                              refine xv_iload hX 5 dc_MD_usageBits_137 rfl (rfl : _ = 139) ?_
                              refine xv_bipush hX (v := nI 8) dc_MD_usageBits_139 (by decide) (rfl : _ = 141) ?_
                              refine xv_icmp_ge hX (nI_toInt (by omega)) (show (nI 8).toInt = 8 by decide) (tgt := 172) (pq := 144) dc_MD_usageBits_141 (by decide) rfl (fun c141 => ?_) (fun c141 => ?_)
                              · skip
                                refine xv_aload_n hX 0 dc_MD_usageBits_172 rfl (rfl : _ = 173) ?_
                                refine xv_iload_n hX 2 dc_MD_usageBits_173 rfl (rfl : _ = 174) ?_
                                refine xv_puti hX fl_MD_38 rfl rfl (by decide) dc_MD_usageBits_174 (rfl : _ = 177) ?_
                                refine xv_retv hX hR dc_MD_usageBits_177 ?_
                                have hJ := mo_bt1 g3a
                                rw [if_neg (by omega), if_pos (by omega), hu] at hJ
                                have hk8 : k = 8 := by omega
                                obtain ⟨a1, a2, a3⟩ := md_done (M := Mt) (M' := (xm_set Mt 277 6 e)) (v := e) (w := Mt 277 7) xm_eq (xm_nk (by decide)) (fun q a => by simp only [xm_oth a]) (fun j a b => by simp only [xm_nk a]) hIt (by omega) (by omega)
                                refine ⟨a1, hFt.tt (a2.x.up (by decide)), ?_⟩
                                rw [a3]
                                rcases hW with ⟨h7, hg⟩ | ⟨h7, hg⟩
                                · rw [if_pos hg] at hJ
                                  rw [hJ, if_pos h7]
                                  exact Or.inr ⟨u, e, rfl, rfl, by rw [xm_nk (by decide), ht31, hk8]; exact us_mir u hb1⟩
                                · rw [if_neg hg] at hJ
                                  rw [hJ, if_neg (by omega)]
                                  exact Or.inl ⟨rfl, rfl⟩
                              · skip
                                refine xv_aload_n hX 0 dc_MD_usageBits_144 rfl (rfl : _ = 145) ?_
                                refine xv_aload_n hX 0 dc_MD_usageBits_145 rfl (rfl : _ = 146) ?_
                                refine xv_geti hX fl_MD_57 rfl rfl (by decide) (v := Mt 277 31) rfl dc_MD_usageBits_146 (rfl : _ = 149) ?_
                                refine xv_iload hX 4 dc_MD_usageBits_149 rfl (rfl : _ = 151) ?_
                                refine xv_bipush hX (v := nI 7) dc_MD_usageBits_151 (by decide) (rfl : _ = 153) ?_
                                refine xv_iload hX 5 dc_MD_usageBits_153 rfl (rfl : _ = 155) ?_
                                refine xv_isub hX dc_MD_usageBits_155 (pk_sub (by omega)) (rfl : _ = 156) ?_
                                refine xv_ishr hX dc_MD_usageBits_156 (us_shr u hb1 (7 - k) (by omega)) (rfl : _ = 157) ?_
                                refine xv_iconst hX (v := nI 2) dc_MD_usageBits_157 (by decide) (rfl : _ = 158) ?_
                                refine xv_irem hX dc_MD_usageBits_158 (by decide) (pk_rem (by have := Nat.div_le_self u (2 ^ (7 - k)); omega) (by decide) (by decide)) (rfl : _ = 159) ?_
                                refine xv_iload hX 5 dc_MD_usageBits_159 rfl (rfl : _ = 161) ?_
                                refine xv_ishl hX dc_MD_usageBits_161 (us_shl _ (Nat.mod_lt _ (by decide)) k (by omega)) (rfl : _ = 162) ?_
                                refine xv_iadd hX dc_MD_usageBits_162 (nI_add (Mt 277 31) (u / 2 ^ (7 - k) % 2 * 2 ^ k)) (rfl : _ = 163) ?_
                                refine xv_puti hX fl_MD_57 rfl rfl (by decide) dc_MD_usageBits_163 (rfl : _ = 166) ?_
                                refine xv_iinc hX 5 [1, 2, 3, 4, 5, 0] dc_MD_usageBits_166 rfl (xi_inc k 1) (by decide) (L' := [(0, .ref (Y.2.2.2 277)), (1, .int (nI l)), (2, .int (nI e)), (3, .int (nI (e - f))), (4, .int (nI u)), (6, .int (nI (k + 1)))]) rfl (rfl : _ = 169) ?_
                                refine xv_goto hX (pq := 137) dc_MD_usageBits_169 (by decide) ?_
                                refine xv_sub (L' := [(0, .ref (Y.2.2.2 277)), (1, .int (nI l)), (2, .int (nI e)), (3, .int (nI (e - f))), (4, .int (nI u)), (6, .int (nI (k + 1)))]) [0, 1, 2, 3, 4, 5] rfl ?_
                                exact ih137 (xm_set Mt 277 31 (Mt 277 31 + (u / 2 ^ (7 - k) % 2 * 2 ^ k))) (k + 1) (md_put (M := Mt) (by decide) (by decide) hIt).1 (by omega) (by rw [xm_eq, ht31]; rfl) (by rw [xm_nk (by decide)]; exact hW) (hFt.tt ((md_X.set Mt 31 _).up (by decide))) (by omega)
                          refine xv_sub (L' := [(0, .ref (Y.2.2.2 277)), (1, .int (nI l)), (2, .int (nI e)), (3, .int (nI (e - f))), (4, .int (nI u)), (6, .int (nI 0))]) [0, 1, 2, 3, 4, 6] rfl ?_
                          exact lp137 _ (xm_set (xm_set M3 277 31 0) 277 7 0) 0 (md_wr (M := (xm_set M3 277 31 0)) (v := 0) (md_put (M := M3) (k := 31) (v := 0) (by decide) (by decide) i3).1 (by decide)).1 (by decide) (by rw [xm_nk (by decide), xm_eq]; rfl) (Or.inl ⟨xm_eq, by omega, by rw [hbz]; omega⟩) (md_X.tt (f3.x.up (by decide)) (md_X.tt ((md_X.set M3 31 0).up (by decide)) ((md_X.set (xm_set M3 277 31 0) 7 0).up (by decide)))) (Nat.lt_succ_self _)
                        · skip
                          refine xv_iconst hX (v := nI 1) dc_MD_usageBits_126 (by decide) (rfl : _ = 127) ?_
                          refine xv_goto hX (pq := 131) dc_MD_usageBits_127 (by decide) ?_
                          refine xv_putz hX fl_MD_34 rfl rfl (by decide) (by decide) dc_MD_usageBits_131 (rfl : _ = 134) ?_
                          refine xv_iconst hX (v := nI 0) dc_MD_usageBits_134 (by decide) (rfl : _ = 135) ?_
                          refine xv_istore hX [1, 2, 3, 4, 5, 6, 0] dc_MD_usageBits_135 (by decide) (L' := [(0, .ref (Y.2.2.2 277)), (1, .int (nI l)), (2, .int (nI e)), (3, .int (nI (e - f))), (4, .int (nI u)), (5, .int (nI t)), (6, .int (nI 0))]) rfl (rfl : _ = 137) ?_
                          have lp137 : ∀ (fu137 : Nat) (Mt : xm_M) (k : Nat) (hIt : md_I Mt) (hk : k ≤ 8) (ht31 : Mt 277 31 = us_sum u k) (hW : (Mt 277 7 = 0 ∧ (u ≠ 0 ∧ M 278 f = ps_tz u 8 0)) ∨ (Mt 277 7 = 1 ∧ ¬ (u ≠ 0 ∧ M 278 f = ps_tz u 8 0))) (hFt : md_X [6, 7, 31] M Mt), 8 - k < fu137 → xv_V X Y 7 0 0 xw_lk xw_N Mt 137 [(0, .ref (Y.2.2.2 277)), (1, .int (nI l)), (2, .int (nI e)), (3, .int (nI (e - f))), (4, .int (nI u)), (6, .int (nI k))] [] := by
                            intro n137
                            induction n137 with
                            | zero => intro Mt k hIt hk ht31 hW hFt hm137; exact absurd hm137 (Nat.not_lt_zero _)
                            | succ n137 ih137 =>
                              intro Mt k hIt hk ht31 hW hFt hm137
                              refine xv_iload hX 5 dc_MD_usageBits_137 rfl (rfl : _ = 139) ?_
                              refine xv_bipush hX (v := nI 8) dc_MD_usageBits_139 (by decide) (rfl : _ = 141) ?_
                              refine xv_icmp_ge hX (nI_toInt (by omega)) (show (nI 8).toInt = 8 by decide) (tgt := 172) (pq := 144) dc_MD_usageBits_141 (by decide) rfl (fun c141 => ?_) (fun c141 => ?_)
                              · skip
                                refine xv_aload_n hX 0 dc_MD_usageBits_172 rfl (rfl : _ = 173) ?_
                                refine xv_iload_n hX 2 dc_MD_usageBits_173 rfl (rfl : _ = 174) ?_
                                refine xv_puti hX fl_MD_38 rfl rfl (by decide) dc_MD_usageBits_174 (rfl : _ = 177) ?_
                                refine xv_retv hX hR dc_MD_usageBits_177 ?_
                                have hJ := mo_bt1 g3a
                                rw [if_neg (by omega), if_pos (by omega), hu] at hJ
                                have hk8 : k = 8 := by omega
                                obtain ⟨a1, a2, a3⟩ := md_done (M := Mt) (M' := (xm_set Mt 277 6 e)) (v := e) (w := Mt 277 7) xm_eq (xm_nk (by decide)) (fun q a => by simp only [xm_oth a]) (fun j a b => by simp only [xm_nk a]) hIt (by omega) (by omega)
                                refine ⟨a1, hFt.tt (a2.x.up (by decide)), ?_⟩
                                rw [a3]
                                rcases hW with ⟨h7, hg⟩ | ⟨h7, hg⟩
                                · rw [if_pos hg] at hJ
                                  rw [hJ, if_pos h7]
                                  exact Or.inr ⟨u, e, rfl, rfl, by rw [xm_nk (by decide), ht31, hk8]; exact us_mir u hb1⟩
                                · rw [if_neg hg] at hJ
                                  rw [hJ, if_neg (by omega)]
                                  exact Or.inl ⟨rfl, rfl⟩
                              · skip
                                refine xv_aload_n hX 0 dc_MD_usageBits_144 rfl (rfl : _ = 145) ?_
                                refine xv_aload_n hX 0 dc_MD_usageBits_145 rfl (rfl : _ = 146) ?_
                                refine xv_geti hX fl_MD_57 rfl rfl (by decide) (v := Mt 277 31) rfl dc_MD_usageBits_146 (rfl : _ = 149) ?_
                                refine xv_iload hX 4 dc_MD_usageBits_149 rfl (rfl : _ = 151) ?_
                                refine xv_bipush hX (v := nI 7) dc_MD_usageBits_151 (by decide) (rfl : _ = 153) ?_
                                refine xv_iload hX 5 dc_MD_usageBits_153 rfl (rfl : _ = 155) ?_
                                refine xv_isub hX dc_MD_usageBits_155 (pk_sub (by omega)) (rfl : _ = 156) ?_
                                refine xv_ishr hX dc_MD_usageBits_156 (us_shr u hb1 (7 - k) (by omega)) (rfl : _ = 157) ?_
                                refine xv_iconst hX (v := nI 2) dc_MD_usageBits_157 (by decide) (rfl : _ = 158) ?_
                                refine xv_irem hX dc_MD_usageBits_158 (by decide) (pk_rem (by have := Nat.div_le_self u (2 ^ (7 - k)); omega) (by decide) (by decide)) (rfl : _ = 159) ?_
                                refine xv_iload hX 5 dc_MD_usageBits_159 rfl (rfl : _ = 161) ?_
                                refine xv_ishl hX dc_MD_usageBits_161 (us_shl _ (Nat.mod_lt _ (by decide)) k (by omega)) (rfl : _ = 162) ?_
                                refine xv_iadd hX dc_MD_usageBits_162 (nI_add (Mt 277 31) (u / 2 ^ (7 - k) % 2 * 2 ^ k)) (rfl : _ = 163) ?_
                                refine xv_puti hX fl_MD_57 rfl rfl (by decide) dc_MD_usageBits_163 (rfl : _ = 166) ?_
                                refine xv_iinc hX 5 [1, 2, 3, 4, 5, 0] dc_MD_usageBits_166 rfl (xi_inc k 1) (by decide) (L' := [(0, .ref (Y.2.2.2 277)), (1, .int (nI l)), (2, .int (nI e)), (3, .int (nI (e - f))), (4, .int (nI u)), (6, .int (nI (k + 1)))]) rfl (rfl : _ = 169) ?_
                                refine xv_goto hX (pq := 137) dc_MD_usageBits_169 (by decide) ?_
                                refine xv_sub (L' := [(0, .ref (Y.2.2.2 277)), (1, .int (nI l)), (2, .int (nI e)), (3, .int (nI (e - f))), (4, .int (nI u)), (6, .int (nI (k + 1)))]) [0, 1, 2, 3, 4, 5] rfl ?_
                                exact ih137 (xm_set Mt 277 31 (Mt 277 31 + (u / 2 ^ (7 - k) % 2 * 2 ^ k))) (k + 1) (md_put (M := Mt) (by decide) (by decide) hIt).1 (by omega) (by rw [xm_eq, ht31]; rfl) (by rw [xm_nk (by decide)]; exact hW) (hFt.tt ((md_X.set Mt 31 _).up (by decide))) (by omega)
                          refine xv_sub (L' := [(0, .ref (Y.2.2.2 277)), (1, .int (nI l)), (2, .int (nI e)), (3, .int (nI (e - f))), (4, .int (nI u)), (6, .int (nI 0))]) [0, 1, 2, 3, 4, 6] rfl ?_
                          exact lp137 _ (xm_set (xm_set M3 277 31 0) 277 7 1) 0 (md_wr (M := (xm_set M3 277 31 0)) (v := 1) (md_put (M := M3) (k := 31) (v := 0) (by decide) (by decide) i3).1 (by decide)).1 (by decide) (by rw [xm_nk (by decide), xm_eq]; rfl) (Or.inr ⟨xm_eq, by rw [hbz]; omega⟩) (md_X.tt (f3.x.up (by decide)) (md_X.tt ((md_X.set M3 31 0).up (by decide)) ((md_X.set (xm_set M3 277 31 0) 7 1).up (by decide)))) (Nat.lt_succ_self _)
                    · skip
                      refine xv_iload hX 4 dc_MD_usageBits_87 rfl (rfl : _ = 89) ?_
                      refine xv_iload hX 5 dc_MD_usageBits_89 rfl (rfl : _ = 91) ?_
                      refine xv_ishr hX dc_MD_usageBits_91 (us_shr u hb1 t (by omega)) (rfl : _ = 92) ?_
                      refine xv_iconst hX (v := nI 2) dc_MD_usageBits_92 (by decide) (rfl : _ = 93) ?_
                      refine xv_irem hX dc_MD_usageBits_93 (by decide) (pk_rem (by have := Nat.div_le_self u (2 ^ t); omega) (by decide) (by decide)) (rfl : _ = 94) ?_
                      refine xv_if_ne hX (nI_toInt (by omega)) (tgt := 106) (pq := 97) dc_MD_usageBits_94 (by decide) rfl (fun c94 => ?_) (fun c94 => ?_)
                      · skip
                        have hbz : ps_tz u 8 0 = t := by rw [← htz, show 8 - t = (8 - (t + 1)) + 1 by omega]; exact if_neg (by omega)
                        refine xv_aload_n hX 0 dc_MD_usageBits_106 rfl (rfl : _ = 107) ?_
                        refine xv_iload hX 4 dc_MD_usageBits_107 rfl (rfl : _ = 109) ?_
                        refine xv_if_eq hX (nI_toInt (by omega)) (tgt := 126) (pq := 112) dc_MD_usageBits_109 (by decide) rfl (fun c109 => ?_) (fun c109 => ?_)
                        · skip
                          refine xv_iconst hX (v := nI 1) dc_MD_usageBits_126 (by decide) (rfl : _ = 127) ?_
                          refine xv_goto hX (pq := 131) dc_MD_usageBits_127 (by decide) ?_
                          refine xv_putz hX fl_MD_34 rfl rfl (by decide) (by decide) dc_MD_usageBits_131 (rfl : _ = 134) ?_
                          refine xv_iconst hX (v := nI 0) dc_MD_usageBits_134 (by decide) (rfl : _ = 135) ?_
                          refine xv_istore hX [1, 2, 3, 4, 5, 6, 0] dc_MD_usageBits_135 (by decide) (L' := [(0, .ref (Y.2.2.2 277)), (1, .int (nI l)), (2, .int (nI e)), (3, .int (nI (e - f))), (4, .int (nI u)), (5, .int (nI t)), (6, .int (nI 0))]) rfl (rfl : _ = 137) ?_
                          have lp137 : ∀ (fu137 : Nat) (Mt : xm_M) (k : Nat) (hIt : md_I Mt) (hk : k ≤ 8) (ht31 : Mt 277 31 = us_sum u k) (hW : (Mt 277 7 = 0 ∧ (u ≠ 0 ∧ M 278 f = ps_tz u 8 0)) ∨ (Mt 277 7 = 1 ∧ ¬ (u ≠ 0 ∧ M 278 f = ps_tz u 8 0))) (hFt : md_X [6, 7, 31] M Mt), 8 - k < fu137 → xv_V X Y 7 0 0 xw_lk xw_N Mt 137 [(0, .ref (Y.2.2.2 277)), (1, .int (nI l)), (2, .int (nI e)), (3, .int (nI (e - f))), (4, .int (nI u)), (6, .int (nI k))] [] := by
                            intro n137
                            induction n137 with
                            | zero => intro Mt k hIt hk ht31 hW hFt hm137; exact absurd hm137 (Nat.not_lt_zero _)
                            | succ n137 ih137 =>
                              intro Mt k hIt hk ht31 hW hFt hm137
                              refine xv_iload hX 5 dc_MD_usageBits_137 rfl (rfl : _ = 139) ?_
                              refine xv_bipush hX (v := nI 8) dc_MD_usageBits_139 (by decide) (rfl : _ = 141) ?_
                              refine xv_icmp_ge hX (nI_toInt (by omega)) (show (nI 8).toInt = 8 by decide) (tgt := 172) (pq := 144) dc_MD_usageBits_141 (by decide) rfl (fun c141 => ?_) (fun c141 => ?_)
                              · skip
                                refine xv_aload_n hX 0 dc_MD_usageBits_172 rfl (rfl : _ = 173) ?_
                                refine xv_iload_n hX 2 dc_MD_usageBits_173 rfl (rfl : _ = 174) ?_
                                refine xv_puti hX fl_MD_38 rfl rfl (by decide) dc_MD_usageBits_174 (rfl : _ = 177) ?_
                                refine xv_retv hX hR dc_MD_usageBits_177 ?_
                                have hJ := mo_bt1 g3a
                                rw [if_neg (by omega), if_pos (by omega), hu] at hJ
                                have hk8 : k = 8 := by omega
                                obtain ⟨a1, a2, a3⟩ := md_done (M := Mt) (M' := (xm_set Mt 277 6 e)) (v := e) (w := Mt 277 7) xm_eq (xm_nk (by decide)) (fun q a => by simp only [xm_oth a]) (fun j a b => by simp only [xm_nk a]) hIt (by omega) (by omega)
                                refine ⟨a1, hFt.tt (a2.x.up (by decide)), ?_⟩
                                rw [a3]
                                rcases hW with ⟨h7, hg⟩ | ⟨h7, hg⟩
                                · rw [if_pos hg] at hJ
                                  rw [hJ, if_pos h7]
                                  exact Or.inr ⟨u, e, rfl, rfl, by rw [xm_nk (by decide), ht31, hk8]; exact us_mir u hb1⟩
                                · rw [if_neg hg] at hJ
                                  rw [hJ, if_neg (by omega)]
                                  exact Or.inl ⟨rfl, rfl⟩
                              · skip
                                refine xv_aload_n hX 0 dc_MD_usageBits_144 rfl (rfl : _ = 145) ?_
                                refine xv_aload_n hX 0 dc_MD_usageBits_145 rfl (rfl : _ = 146) ?_
                                refine xv_geti hX fl_MD_57 rfl rfl (by decide) (v := Mt 277 31) rfl dc_MD_usageBits_146 (rfl : _ = 149) ?_
                                refine xv_iload hX 4 dc_MD_usageBits_149 rfl (rfl : _ = 151) ?_
                                refine xv_bipush hX (v := nI 7) dc_MD_usageBits_151 (by decide) (rfl : _ = 153) ?_
                                refine xv_iload hX 5 dc_MD_usageBits_153 rfl (rfl : _ = 155) ?_
                                refine xv_isub hX dc_MD_usageBits_155 (pk_sub (by omega)) (rfl : _ = 156) ?_
                                refine xv_ishr hX dc_MD_usageBits_156 (us_shr u hb1 (7 - k) (by omega)) (rfl : _ = 157) ?_
                                refine xv_iconst hX (v := nI 2) dc_MD_usageBits_157 (by decide) (rfl : _ = 158) ?_
                                refine xv_irem hX dc_MD_usageBits_158 (by decide) (pk_rem (by have := Nat.div_le_self u (2 ^ (7 - k)); omega) (by decide) (by decide)) (rfl : _ = 159) ?_
                                refine xv_iload hX 5 dc_MD_usageBits_159 rfl (rfl : _ = 161) ?_
                                refine xv_ishl hX dc_MD_usageBits_161 (us_shl _ (Nat.mod_lt _ (by decide)) k (by omega)) (rfl : _ = 162) ?_
                                refine xv_iadd hX dc_MD_usageBits_162 (nI_add (Mt 277 31) (u / 2 ^ (7 - k) % 2 * 2 ^ k)) (rfl : _ = 163) ?_
                                refine xv_puti hX fl_MD_57 rfl rfl (by decide) dc_MD_usageBits_163 (rfl : _ = 166) ?_
                                refine xv_iinc hX 5 [1, 2, 3, 4, 5, 0] dc_MD_usageBits_166 rfl (xi_inc k 1) (by decide) (L' := [(0, .ref (Y.2.2.2 277)), (1, .int (nI l)), (2, .int (nI e)), (3, .int (nI (e - f))), (4, .int (nI u)), (6, .int (nI (k + 1)))]) rfl (rfl : _ = 169) ?_
                                refine xv_goto hX (pq := 137) dc_MD_usageBits_169 (by decide) ?_
                                refine xv_sub (L' := [(0, .ref (Y.2.2.2 277)), (1, .int (nI l)), (2, .int (nI e)), (3, .int (nI (e - f))), (4, .int (nI u)), (6, .int (nI (k + 1)))]) [0, 1, 2, 3, 4, 5] rfl ?_
                                exact ih137 (xm_set Mt 277 31 (Mt 277 31 + (u / 2 ^ (7 - k) % 2 * 2 ^ k))) (k + 1) (md_put (M := Mt) (by decide) (by decide) hIt).1 (by omega) (by rw [xm_eq, ht31]; rfl) (by rw [xm_nk (by decide)]; exact hW) (hFt.tt ((md_X.set Mt 31 _).up (by decide))) (by omega)
                          refine xv_sub (L' := [(0, .ref (Y.2.2.2 277)), (1, .int (nI l)), (2, .int (nI e)), (3, .int (nI (e - f))), (4, .int (nI u)), (6, .int (nI 0))]) [0, 1, 2, 3, 4, 6] rfl ?_
                          exact lp137 _ (xm_set (xm_set M3 277 31 0) 277 7 1) 0 (md_wr (M := (xm_set M3 277 31 0)) (v := 1) (md_put (M := M3) (k := 31) (v := 0) (by decide) (by decide) i3).1 (by decide)).1 (by decide) (by rw [xm_nk (by decide), xm_eq]; rfl) (Or.inr ⟨xm_eq, by rw [hbz]; omega⟩) (md_X.tt (f3.x.up (by decide)) (md_X.tt ((md_X.set M3 31 0).up (by decide)) ((md_X.set (xm_set M3 277 31 0) 7 1).up (by decide)))) (Nat.lt_succ_self _)
                        · skip
                          refine xv_aload_n hX 0 dc_MD_usageBits_112 rfl (rfl : _ = 113) ?_
                          refine xv_getr hX fl_MD_7 rfl rfl (by decide) rfl dc_MD_usageBits_113 (rfl : _ = 116) ?_
                          refine xv_aload_n hX 0 dc_MD_usageBits_116 rfl (rfl : _ = 117) ?_
                          refine xv_geti hX fl_MD_38 rfl rfl (by decide) (v := f) ((xm_nk (by decide)).trans g36) dc_MD_usageBits_117 (rfl : _ = 120) ?_
                          refine xv_iald hX rfl (by decide) (by omega) (by decide) (v := M 278 f) ((xm_np (by decide)).trans hd0) dc_MD_usageBits_120 (rfl : _ = 121) ?_
                          refine xv_iload hX 5 dc_MD_usageBits_121 rfl (rfl : _ = 123) ?_
                          refine xv_icmp_eq hX (nI_toInt (by omega)) (nI_toInt (by omega)) (tgt := 130) (pq := 126) dc_MD_usageBits_123 (by decide) rfl (fun c123 => ?_) (fun c123 => ?_)
                          · skip
                            refine xv_iconst hX (v := nI 0) dc_MD_usageBits_130 (by decide) (rfl : _ = 131) ?_
                            refine xv_putz hX fl_MD_34 rfl rfl (by decide) (by decide) dc_MD_usageBits_131 (rfl : _ = 134) ?_
                            refine xv_iconst hX (v := nI 0) dc_MD_usageBits_134 (by decide) (rfl : _ = 135) ?_
                            refine xv_istore hX [1, 2, 3, 4, 5, 6, 0] dc_MD_usageBits_135 (by decide) (L' := [(0, .ref (Y.2.2.2 277)), (1, .int (nI l)), (2, .int (nI e)), (3, .int (nI (e - f))), (4, .int (nI u)), (5, .int (nI t)), (6, .int (nI 0))]) rfl (rfl : _ = 137) ?_
                            have lp137 : ∀ (fu137 : Nat) (Mt : xm_M) (k : Nat) (hIt : md_I Mt) (hk : k ≤ 8) (ht31 : Mt 277 31 = us_sum u k) (hW : (Mt 277 7 = 0 ∧ (u ≠ 0 ∧ M 278 f = ps_tz u 8 0)) ∨ (Mt 277 7 = 1 ∧ ¬ (u ≠ 0 ∧ M 278 f = ps_tz u 8 0))) (hFt : md_X [6, 7, 31] M Mt), 8 - k < fu137 → xv_V X Y 7 0 0 xw_lk xw_N Mt 137 [(0, .ref (Y.2.2.2 277)), (1, .int (nI l)), (2, .int (nI e)), (3, .int (nI (e - f))), (4, .int (nI u)), (6, .int (nI k))] [] := by
                              intro n137
                              induction n137 with
                              | zero => intro Mt k hIt hk ht31 hW hFt hm137; exact absurd hm137 (Nat.not_lt_zero _)
                              | succ n137 ih137 =>
                                intro Mt k hIt hk ht31 hW hFt hm137
                                refine xv_iload hX 5 dc_MD_usageBits_137 rfl (rfl : _ = 139) ?_
                                refine xv_bipush hX (v := nI 8) dc_MD_usageBits_139 (by decide) (rfl : _ = 141) ?_
                                refine xv_icmp_ge hX (nI_toInt (by omega)) (show (nI 8).toInt = 8 by decide) (tgt := 172) (pq := 144) dc_MD_usageBits_141 (by decide) rfl (fun c141 => ?_) (fun c141 => ?_)
                                · skip
                                  refine xv_aload_n hX 0 dc_MD_usageBits_172 rfl (rfl : _ = 173) ?_
                                  refine xv_iload_n hX 2 dc_MD_usageBits_173 rfl (rfl : _ = 174) ?_
                                  refine xv_puti hX fl_MD_38 rfl rfl (by decide) dc_MD_usageBits_174 (rfl : _ = 177) ?_
                                  refine xv_retv hX hR dc_MD_usageBits_177 ?_
                                  have hJ := mo_bt1 g3a
                                  rw [if_neg (by omega), if_pos (by omega), hu] at hJ
                                  have hk8 : k = 8 := by omega
                                  obtain ⟨a1, a2, a3⟩ := md_done (M := Mt) (M' := (xm_set Mt 277 6 e)) (v := e) (w := Mt 277 7) xm_eq (xm_nk (by decide)) (fun q a => by simp only [xm_oth a]) (fun j a b => by simp only [xm_nk a]) hIt (by omega) (by omega)
                                  refine ⟨a1, hFt.tt (a2.x.up (by decide)), ?_⟩
                                  rw [a3]
                                  rcases hW with ⟨h7, hg⟩ | ⟨h7, hg⟩
                                  · rw [if_pos hg] at hJ
                                    rw [hJ, if_pos h7]
                                    exact Or.inr ⟨u, e, rfl, rfl, by rw [xm_nk (by decide), ht31, hk8]; exact us_mir u hb1⟩
                                  · rw [if_neg hg] at hJ
                                    rw [hJ, if_neg (by omega)]
                                    exact Or.inl ⟨rfl, rfl⟩
                                · skip
                                  refine xv_aload_n hX 0 dc_MD_usageBits_144 rfl (rfl : _ = 145) ?_
                                  refine xv_aload_n hX 0 dc_MD_usageBits_145 rfl (rfl : _ = 146) ?_
                                  refine xv_geti hX fl_MD_57 rfl rfl (by decide) (v := Mt 277 31) rfl dc_MD_usageBits_146 (rfl : _ = 149) ?_
                                  refine xv_iload hX 4 dc_MD_usageBits_149 rfl (rfl : _ = 151) ?_
                                  refine xv_bipush hX (v := nI 7) dc_MD_usageBits_151 (by decide) (rfl : _ = 153) ?_
                                  refine xv_iload hX 5 dc_MD_usageBits_153 rfl (rfl : _ = 155) ?_
                                  refine xv_isub hX dc_MD_usageBits_155 (pk_sub (by omega)) (rfl : _ = 156) ?_
                                  refine xv_ishr hX dc_MD_usageBits_156 (us_shr u hb1 (7 - k) (by omega)) (rfl : _ = 157) ?_
                                  refine xv_iconst hX (v := nI 2) dc_MD_usageBits_157 (by decide) (rfl : _ = 158) ?_
                                  refine xv_irem hX dc_MD_usageBits_158 (by decide) (pk_rem (by have := Nat.div_le_self u (2 ^ (7 - k)); omega) (by decide) (by decide)) (rfl : _ = 159) ?_
                                  refine xv_iload hX 5 dc_MD_usageBits_159 rfl (rfl : _ = 161) ?_
                                  refine xv_ishl hX dc_MD_usageBits_161 (us_shl _ (Nat.mod_lt _ (by decide)) k (by omega)) (rfl : _ = 162) ?_
                                  refine xv_iadd hX dc_MD_usageBits_162 (nI_add (Mt 277 31) (u / 2 ^ (7 - k) % 2 * 2 ^ k)) (rfl : _ = 163) ?_
                                  refine xv_puti hX fl_MD_57 rfl rfl (by decide) dc_MD_usageBits_163 (rfl : _ = 166) ?_
                                  refine xv_iinc hX 5 [1, 2, 3, 4, 5, 0] dc_MD_usageBits_166 rfl (xi_inc k 1) (by decide) (L' := [(0, .ref (Y.2.2.2 277)), (1, .int (nI l)), (2, .int (nI e)), (3, .int (nI (e - f))), (4, .int (nI u)), (6, .int (nI (k + 1)))]) rfl (rfl : _ = 169) ?_
                                  refine xv_goto hX (pq := 137) dc_MD_usageBits_169 (by decide) ?_
                                  refine xv_sub (L' := [(0, .ref (Y.2.2.2 277)), (1, .int (nI l)), (2, .int (nI e)), (3, .int (nI (e - f))), (4, .int (nI u)), (6, .int (nI (k + 1)))]) [0, 1, 2, 3, 4, 5] rfl ?_
                                  exact ih137 (xm_set Mt 277 31 (Mt 277 31 + (u / 2 ^ (7 - k) % 2 * 2 ^ k))) (k + 1) (md_put (M := Mt) (by decide) (by decide) hIt).1 (by omega) (by rw [xm_eq, ht31]; rfl) (by rw [xm_nk (by decide)]; exact hW) (hFt.tt ((md_X.set Mt 31 _).up (by decide))) (by omega)
                            refine xv_sub (L' := [(0, .ref (Y.2.2.2 277)), (1, .int (nI l)), (2, .int (nI e)), (3, .int (nI (e - f))), (4, .int (nI u)), (6, .int (nI 0))]) [0, 1, 2, 3, 4, 6] rfl ?_
                            exact lp137 _ (xm_set (xm_set M3 277 31 0) 277 7 0) 0 (md_wr (M := (xm_set M3 277 31 0)) (v := 0) (md_put (M := M3) (k := 31) (v := 0) (by decide) (by decide) i3).1 (by decide)).1 (by decide) (by rw [xm_nk (by decide), xm_eq]; rfl) (Or.inl ⟨xm_eq, by omega, by rw [hbz]; omega⟩) (md_X.tt (f3.x.up (by decide)) (md_X.tt ((md_X.set M3 31 0).up (by decide)) ((md_X.set (xm_set M3 277 31 0) 7 0).up (by decide)))) (Nat.lt_succ_self _)
                          · skip
                            refine xv_iconst hX (v := nI 1) dc_MD_usageBits_126 (by decide) (rfl : _ = 127) ?_
                            refine xv_goto hX (pq := 131) dc_MD_usageBits_127 (by decide) ?_
                            refine xv_putz hX fl_MD_34 rfl rfl (by decide) (by decide) dc_MD_usageBits_131 (rfl : _ = 134) ?_
                            refine xv_iconst hX (v := nI 0) dc_MD_usageBits_134 (by decide) (rfl : _ = 135) ?_
                            refine xv_istore hX [1, 2, 3, 4, 5, 6, 0] dc_MD_usageBits_135 (by decide) (L' := [(0, .ref (Y.2.2.2 277)), (1, .int (nI l)), (2, .int (nI e)), (3, .int (nI (e - f))), (4, .int (nI u)), (5, .int (nI t)), (6, .int (nI 0))]) rfl (rfl : _ = 137) ?_
                            have lp137 : ∀ (fu137 : Nat) (Mt : xm_M) (k : Nat) (hIt : md_I Mt) (hk : k ≤ 8) (ht31 : Mt 277 31 = us_sum u k) (hW : (Mt 277 7 = 0 ∧ (u ≠ 0 ∧ M 278 f = ps_tz u 8 0)) ∨ (Mt 277 7 = 1 ∧ ¬ (u ≠ 0 ∧ M 278 f = ps_tz u 8 0))) (hFt : md_X [6, 7, 31] M Mt), 8 - k < fu137 → xv_V X Y 7 0 0 xw_lk xw_N Mt 137 [(0, .ref (Y.2.2.2 277)), (1, .int (nI l)), (2, .int (nI e)), (3, .int (nI (e - f))), (4, .int (nI u)), (6, .int (nI k))] [] := by
                              intro n137
                              induction n137 with
                              | zero => intro Mt k hIt hk ht31 hW hFt hm137; exact absurd hm137 (Nat.not_lt_zero _)
                              | succ n137 ih137 =>
                                intro Mt k hIt hk ht31 hW hFt hm137
                                refine xv_iload hX 5 dc_MD_usageBits_137 rfl (rfl : _ = 139) ?_
                                refine xv_bipush hX (v := nI 8) dc_MD_usageBits_139 (by decide) (rfl : _ = 141) ?_
                                refine xv_icmp_ge hX (nI_toInt (by omega)) (show (nI 8).toInt = 8 by decide) (tgt := 172) (pq := 144) dc_MD_usageBits_141 (by decide) rfl (fun c141 => ?_) (fun c141 => ?_)
                                · skip
                                  refine xv_aload_n hX 0 dc_MD_usageBits_172 rfl (rfl : _ = 173) ?_
                                  refine xv_iload_n hX 2 dc_MD_usageBits_173 rfl (rfl : _ = 174) ?_
                                  refine xv_puti hX fl_MD_38 rfl rfl (by decide) dc_MD_usageBits_174 (rfl : _ = 177) ?_
                                  refine xv_retv hX hR dc_MD_usageBits_177 ?_
                                  have hJ := mo_bt1 g3a
                                  rw [if_neg (by omega), if_pos (by omega), hu] at hJ
                                  have hk8 : k = 8 := by omega
                                  obtain ⟨a1, a2, a3⟩ := md_done (M := Mt) (M' := (xm_set Mt 277 6 e)) (v := e) (w := Mt 277 7) xm_eq (xm_nk (by decide)) (fun q a => by simp only [xm_oth a]) (fun j a b => by simp only [xm_nk a]) hIt (by omega) (by omega)
                                  refine ⟨a1, hFt.tt (a2.x.up (by decide)), ?_⟩
                                  rw [a3]
                                  rcases hW with ⟨h7, hg⟩ | ⟨h7, hg⟩
                                  · rw [if_pos hg] at hJ
                                    rw [hJ, if_pos h7]
                                    exact Or.inr ⟨u, e, rfl, rfl, by rw [xm_nk (by decide), ht31, hk8]; exact us_mir u hb1⟩
                                  · rw [if_neg hg] at hJ
                                    rw [hJ, if_neg (by omega)]
                                    exact Or.inl ⟨rfl, rfl⟩
                                · skip
                                  refine xv_aload_n hX 0 dc_MD_usageBits_144 rfl (rfl : _ = 145) ?_
                                  refine xv_aload_n hX 0 dc_MD_usageBits_145 rfl (rfl : _ = 146) ?_
                                  refine xv_geti hX fl_MD_57 rfl rfl (by decide) (v := Mt 277 31) rfl dc_MD_usageBits_146 (rfl : _ = 149) ?_
                                  refine xv_iload hX 4 dc_MD_usageBits_149 rfl (rfl : _ = 151) ?_
                                  refine xv_bipush hX (v := nI 7) dc_MD_usageBits_151 (by decide) (rfl : _ = 153) ?_
                                  refine xv_iload hX 5 dc_MD_usageBits_153 rfl (rfl : _ = 155) ?_
                                  refine xv_isub hX dc_MD_usageBits_155 (pk_sub (by omega)) (rfl : _ = 156) ?_
                                  refine xv_ishr hX dc_MD_usageBits_156 (us_shr u hb1 (7 - k) (by omega)) (rfl : _ = 157) ?_
                                  refine xv_iconst hX (v := nI 2) dc_MD_usageBits_157 (by decide) (rfl : _ = 158) ?_
                                  refine xv_irem hX dc_MD_usageBits_158 (by decide) (pk_rem (by have := Nat.div_le_self u (2 ^ (7 - k)); omega) (by decide) (by decide)) (rfl : _ = 159) ?_
                                  refine xv_iload hX 5 dc_MD_usageBits_159 rfl (rfl : _ = 161) ?_
                                  refine xv_ishl hX dc_MD_usageBits_161 (us_shl _ (Nat.mod_lt _ (by decide)) k (by omega)) (rfl : _ = 162) ?_
                                  refine xv_iadd hX dc_MD_usageBits_162 (nI_add (Mt 277 31) (u / 2 ^ (7 - k) % 2 * 2 ^ k)) (rfl : _ = 163) ?_
                                  refine xv_puti hX fl_MD_57 rfl rfl (by decide) dc_MD_usageBits_163 (rfl : _ = 166) ?_
                                  refine xv_iinc hX 5 [1, 2, 3, 4, 5, 0] dc_MD_usageBits_166 rfl (xi_inc k 1) (by decide) (L' := [(0, .ref (Y.2.2.2 277)), (1, .int (nI l)), (2, .int (nI e)), (3, .int (nI (e - f))), (4, .int (nI u)), (6, .int (nI (k + 1)))]) rfl (rfl : _ = 169) ?_
                                  refine xv_goto hX (pq := 137) dc_MD_usageBits_169 (by decide) ?_
                                  refine xv_sub (L' := [(0, .ref (Y.2.2.2 277)), (1, .int (nI l)), (2, .int (nI e)), (3, .int (nI (e - f))), (4, .int (nI u)), (6, .int (nI (k + 1)))]) [0, 1, 2, 3, 4, 5] rfl ?_
                                  exact ih137 (xm_set Mt 277 31 (Mt 277 31 + (u / 2 ^ (7 - k) % 2 * 2 ^ k))) (k + 1) (md_put (M := Mt) (by decide) (by decide) hIt).1 (by omega) (by rw [xm_eq, ht31]; rfl) (by rw [xm_nk (by decide)]; exact hW) (hFt.tt ((md_X.set Mt 31 _).up (by decide))) (by omega)
                            refine xv_sub (L' := [(0, .ref (Y.2.2.2 277)), (1, .int (nI l)), (2, .int (nI e)), (3, .int (nI (e - f))), (4, .int (nI u)), (6, .int (nI 0))]) [0, 1, 2, 3, 4, 6] rfl ?_
                            exact lp137 _ (xm_set (xm_set M3 277 31 0) 277 7 1) 0 (md_wr (M := (xm_set M3 277 31 0)) (v := 1) (md_put (M := M3) (k := 31) (v := 0) (by decide) (by decide) i3).1 (by decide)).1 (by decide) (by rw [xm_nk (by decide), xm_eq]; rfl) (Or.inr ⟨xm_eq, by rw [hbz]; omega⟩) (md_X.tt (f3.x.up (by decide)) (md_X.tt ((md_X.set M3 31 0).up (by decide)) ((md_X.set (xm_set M3 277 31 0) 7 1).up (by decide)))) (Nat.lt_succ_self _)
                      · skip
                        refine xv_iload hX 5 dc_MD_usageBits_97 rfl (rfl : _ = 99) ?_
                        refine xv_iconst hX (v := nI 1) dc_MD_usageBits_99 (by decide) (rfl : _ = 100) ?_
                        refine xv_iadd hX dc_MD_usageBits_100 (nI_add t 1) (rfl : _ = 101) ?_
                        refine xv_istore hX [1, 2, 3, 4, 5, 0] dc_MD_usageBits_101 (by decide) (L' := [(0, .ref (Y.2.2.2 277)), (1, .int (nI l)), (2, .int (nI e)), (3, .int (nI (e - f))), (4, .int (nI u)), (5, .int (nI (t + 1)))]) rfl (rfl : _ = 103) ?_
                        refine xv_goto hX (pq := 80) dc_MD_usageBits_103 (by decide) ?_
                        refine xv_sub (L' := [(0, .ref (Y.2.2.2 277)), (1, .int (nI l)), (2, .int (nI e)), (3, .int (nI (e - f))), (4, .int (nI u)), (5, .int (nI (t + 1)))]) [0, 1, 2, 3, 4, 5] rfl ?_
                        exact ih80 (t + 1) (by omega) (by rw [← htz, show 8 - t = (8 - (t + 1)) + 1 by omega]; exact (if_pos (by omega)).symm) (by omega)
                refine xv_sub (L' := [(0, .ref (Y.2.2.2 277)), (1, .int (nI l)), (2, .int (nI e)), (3, .int (nI (e - f))), (4, .int (nI u)), (5, .int (nI 0))]) [0, 1, 2, 3, 4, 5] rfl ?_
                exact lp80 _ 0 (by decide) rfl (Nat.lt_succ_self _)
            · skip
              refine xv_aload_n hX 0 dc_MD_usageBits_53 rfl (rfl : _ = 54) ?_
              refine xv_iconst hX (v := nI 1) dc_MD_usageBits_54 (by decide) (rfl : _ = 55) ?_
              refine xv_putz hX fl_MD_34 rfl rfl (by decide) (by decide) dc_MD_usageBits_55 (rfl : _ = 58) ?_
              refine xv_retv hX hR dc_MD_usageBits_58 ?_
              have hJ := mo_bt1 g3a
              rw [show mo_run (ps_bits (M 278)) l (md_s M) = none by rw [hJ]; (repeat' split) <;> first | rfl | (exfalso; omega)]
              obtain ⟨iU, oU⟩ := md_put (M := M3) (k := 31) (v := 0) (by decide) (by decide) i3
              obtain ⟨a1, a2, a3⟩ := md_wr (M := (xm_set M3 277 31 0)) (v := 1) iU (by decide)
              exact ⟨a1, (md_X.tt (f3.x.up (by decide)) (md_X.tt ((md_X.set M3 31 0).up (by decide)) (a2.x.up (by decide)))), Or.inl ⟨a3.trans (if_neg (by decide)), rfl⟩⟩
