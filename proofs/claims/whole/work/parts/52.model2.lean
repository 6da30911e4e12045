/-! the reference: its reader -/
set_option maxRecDepth 100000 in
set_option maxHeartbeats 4000000 in
theorem ct_MD_tagged (ln : Launch) (Y : xw_Y) (M : xm_M) (tag l : Nat) (hI : md_I M) (hl : l ≤ 1440) (ht : tag < 256) : xc_i ln qm_MD_tagged 0 Y [.ref (Y.2.2.2 277), .int (nI tag), .int (nI l)] M (fun r M1 => M1 = M ∧ ∃ t : Nat, r = nI t ∧ t < 2 ∧ (t = 1 ↔ (M 277 7 = 0 ∧ M 277 6 < l ∧ M 278 (M 277 6) = tag))) := by
  refine xc_i.mk .boolean rfl (by decide) (Nat.le_of_ble_eq_true rfl) ?_
  intro X hXl hX hR
  subst hXl
  have hX : xv_ok X Y prog_9_method_9_code "CertificatePathModel" 3 (xc_rm 0) := hX
  show xv_V X Y 3 0 0 xw_lk xw_N M 0 [(0, .ref (Y.2.2.2 277)), (1, .int (nI tag)), (2, .int (nI l))] []
  obtain ⟨k6, k7, k8⟩ := id hI
  refine xv_aload_n hX 0 dc_MD_tagged_0 rfl (rfl : _ = 1) ?_
  refine xv_geti hX fl_MD_34 rfl rfl (by decide) (v := M 277 7) rfl dc_MD_tagged_1 (rfl : _ = 4) ?_
  refine xv_if_ne hX (nI_toInt (by omega)) (tgt := 32) (pq := 7) dc_MD_tagged_4 (by decide) rfl (fun c4 => ?_) (fun c4 => ?_)
  · skip
    refine xv_iconst hX (v := nI 0) dc_MD_tagged_32 (by decide) (rfl : _ = 33) ?_
    refine xv_reti hX hR (by decide) dc_MD_tagged_33 ?_
    exact ⟨rfl, 0, rfl, by decide, by omega⟩
  · skip
    refine xv_aload_n hX 0 dc_MD_tagged_7 rfl (rfl : _ = 8) ?_
    refine xv_geti hX fl_MD_38 rfl rfl (by decide) (v := M 277 6) rfl dc_MD_tagged_8 (rfl : _ = 11) ?_
    refine xv_iload_n hX 2 dc_MD_tagged_11 rfl (rfl : _ = 12) ?_
    refine xv_icmp_ge hX (nI_toInt (by omega)) (nI_toInt (by omega)) (tgt := 32) (pq := 15) dc_MD_tagged_12 (by decide) rfl (fun c12 => ?_) (fun c12 => ?_)
    · skip
      refine xv_iconst hX (v := nI 0) dc_MD_tagged_32 (by decide) (rfl : _ = 33) ?_
      refine xv_reti hX hR (by decide) dc_MD_tagged_33 ?_
      exact ⟨rfl, 0, rfl, by decide, by omega⟩
    · skip
      have hb := k8 (M 277 6) (by omega)
      refine xv_aload_n hX 0 dc_MD_tagged_15 rfl (rfl : _ = 16) ?_
      refine xv_getr hX fl_MD_7 rfl rfl (by decide) rfl dc_MD_tagged_16 (rfl : _ = 19) ?_
      refine xv_aload_n hX 0 dc_MD_tagged_19 rfl (rfl : _ = 20) ?_
      refine xv_geti hX fl_MD_38 rfl rfl (by decide) (v := M 277 6) rfl dc_MD_tagged_20 (rfl : _ = 23) ?_
      refine xv_iald hX rfl (by decide) (by omega) (by decide) (v := M 278 (M 277 6)) rfl dc_MD_tagged_23 (rfl : _ = 24) ?_
      refine xv_iload_n hX 1 dc_MD_tagged_24 rfl (rfl : _ = 25) ?_
      refine xv_icmp_ne hX (nI_toInt (by omega)) (nI_toInt (by omega)) (tgt := 32) (pq := 28) dc_MD_tagged_25 (by decide) rfl (fun c25 => ?_) (fun c25 => ?_)
      · skip
        refine xv_iconst hX (v := nI 0) dc_MD_tagged_32 (by decide) (rfl : _ = 33) ?_
        refine xv_reti hX hR (by decide) dc_MD_tagged_33 ?_
        exact ⟨rfl, 0, rfl, by decide, by omega⟩
      · skip
        refine xv_iconst hX (v := nI 1) dc_MD_tagged_28 (by decide) (rfl : _ = 29) ?_
        refine xv_goto hX (pq := 33) dc_MD_tagged_29 (by decide) ?_
        refine xv_reti hX hR (by decide) dc_MD_tagged_33 ?_
        exact ⟨rfl, 1, rfl, by decide, by omega⟩

set_option maxRecDepth 100000 in
set_option maxHeartbeats 4000000 in
theorem ct_MD_enter (ln : Launch) (Y : xw_Y) (M : xm_M) (tag l : Nat) (hI : md_I M) (hl : l ≤ 1440) (ht : tag < 256) : xc_i ln qm_MD_enter 1 Y [.ref (Y.2.2.2 277), .int (nI tag), .int (nI l)] M (fun r M1 => md_I M1 ∧ md_F M M1 ∧ ((md_s M1 = none ∧ mo_hd (M 278) tag l (md_s M) = none ∧ r = nI l) ∨ ∃ f e, mo_hd (M 278) tag l (md_s M) = some (f, e) ∧ md_s M1 = some f ∧ r = nI e)) := by
  refine xc_i.mk .int rfl (by decide) (Nat.le_of_ble_eq_true rfl) ?_
  intro X hXl hX hR
  subst hXl
  have hX : xv_ok X Y prog_9_method_10_code "CertificatePathModel" 4 (xc_rm 1) := hX
  show xv_V X Y 4 0 0 xw_lk xw_N M 0 [(0, .ref (Y.2.2.2 277)), (1, .int (nI tag)), (2, .int (nI l))] []
  obtain ⟨k6, k7, k8⟩ := id hI
  refine xv_aload_n hX 0 dc_MD_enter_0 rfl (rfl : _ = 1) ?_
  refine xv_aload_n hX 0 dc_MD_enter_1 rfl (rfl : _ = 2) ?_
  refine xv_iload_n hX 1 dc_MD_enter_2 rfl (rfl : _ = 3) ?_
  refine xv_iload_n hX 2 dc_MD_enter_3 rfl (rfl : _ = 4) ?_
  refine xv_calli hX (As := [.int (nI tag), .int (nI l)]) (rest := [.ref (Y.2.2.2 277)]) (ct_MD_tagged _ Y M tag l hI hl ht) ml_MD_41 li_MD_tagged rfl (by decide) rfl rfl rfl (by decide) ⟨by decide, by decide⟩ ⟨Nat.le_refl _, Nat.le_refl _⟩ (Nat.le_of_ble_eq_true rfl) dc_MD_enter_4 (rfl : _ = 7) (fun r4 M4 p4 => ?_)
  obtain ⟨pM, t, pr, pt, pi⟩ := p4
  rw [pM, pr]
  refine xv_if_eq hX (nI_toInt (by omega)) (tgt := 20) (pq := 10) dc_MD_enter_7 (by decide) rfl (fun c7 => ?_) (fun c7 => ?_)
  · skip
    refine xv_iconst hX (v := nI 1) dc_MD_enter_20 (by decide) (rfl : _ = 21) ?_
    refine xv_goto hX (pq := 25) dc_MD_enter_21 (by decide) ?_
    refine xv_putz hX fl_MD_34 rfl rfl (by decide) (by decide) dc_MD_enter_25 (rfl : _ = 28) ?_
    refine xv_aload_n hX 0 dc_MD_enter_28 rfl (rfl : _ = 29) ?_
    refine xv_geti hX fl_MD_34 rfl rfl (by decide) (v := 1) xm_eq dc_MD_enter_29 (rfl : _ = 32) ?_
    refine xv_if_eq hX (show (nI 1).toInt = 1 by decide) (tgt := 37) (pq := 35) dc_MD_enter_32 (by decide) rfl (fun c32 => ?_) (fun c32 => ?_)
    · skip
      exact absurd c32 (by decide)
    · skip
      refine xv_iload_n hX 2 dc_MD_enter_35 rfl (rfl : _ = 36) ?_
      refine xv_reti hX hR rfl dc_MD_enter_36 ?_
      obtain ⟨a1, a2, a3⟩ := md_done (M := M) (M' := (xm_set M 277 7 1)) (v := M 277 6) (w := 1) (xm_nk (by decide)) xm_eq (fun q a => by first | rfl | simp only [xm_oth a]) (fun j a b => by first | rfl | simp only [xm_nk a, xm_nk b]) hI (by omega) (by omega)
      exact ⟨a1, a2, Or.inl ⟨a3.trans (if_neg (by decide)), by by_cases h70 : M 277 7 = 0; (rw [md_s0 h70]; show ps_hd _ _ _ _ = none; unfold ps_hd; (repeat' split) <;> first | rfl | (exfalso; omega)); (rw [md_s1 h70]; rfl), rfl⟩⟩
  · skip
    refine xv_aload_n hX 0 dc_MD_enter_10 rfl (rfl : _ = 11) ?_
    refine xv_geti hX fl_MD_38 rfl rfl (by decide) (v := M 277 6) rfl dc_MD_enter_11 (rfl : _ = 14) ?_
    refine xv_iconst hX (v := nI 2) dc_MD_enter_14 (by decide) (rfl : _ = 15) ?_
    refine xv_iadd hX dc_MD_enter_15 (nI_add (M 277 6) 2) (rfl : _ = 16) ?_
    refine xv_iload_n hX 2 dc_MD_enter_16 rfl (rfl : _ = 17) ?_
    refine xv_icmp_le hX (nI_toInt (by omega)) (nI_toInt (by omega)) (tgt := 24) (pq := 20) dc_MD_enter_17 (by decide) rfl (fun c17 => ?_) (fun c17 => ?_)
    · skip
      refine xv_iconst hX (v := nI 0) dc_MD_enter_24 (by decide) (rfl : _ = 25) ?_
      refine xv_putz hX fl_MD_34 rfl rfl (by decide) (by decide) dc_MD_enter_25 (rfl : _ = 28) ?_
      refine xv_aload_n hX 0 dc_MD_enter_28 rfl (rfl : _ = 29) ?_
      refine xv_geti hX fl_MD_34 rfl rfl (by decide) (v := 0) xm_eq dc_MD_enter_29 (rfl : _ = 32) ?_
      refine xv_if_eq hX (show (nI 0).toInt = 0 by decide) (tgt := 37) (pq := 35) dc_MD_enter_32 (by decide) rfl (fun c32 => ?_) (fun c32 => ?_)
      · skip
        have hb1 := k8 (M 277 6 + 1) (by omega)
        refine xv_aload_n hX 0 dc_MD_enter_37 rfl (rfl : _ = 38) ?_
        refine xv_getr hX fl_MD_7 rfl rfl (by decide) rfl dc_MD_enter_38 (rfl : _ = 41) ?_
        refine xv_aload_n hX 0 dc_MD_enter_41 rfl (rfl : _ = 42) ?_
        refine xv_geti hX fl_MD_38 rfl rfl (by decide) (v := M 277 6) (xm_nk (by decide)) dc_MD_enter_42 (rfl : _ = 45) ?_
        refine xv_iconst hX (v := nI 1) dc_MD_enter_45 (by decide) (rfl : _ = 46) ?_
        refine xv_iadd hX dc_MD_enter_46 (nI_add (M 277 6) 1) (rfl : _ = 47) ?_
        refine xv_iald hX rfl (by decide) (by omega) (by decide) (v := M 278 (M 277 6 + 1)) (xm_np (by decide)) dc_MD_enter_47 (rfl : _ = 48) ?_
        refine xv_istore_n hX [1, 2, 3, 0] dc_MD_enter_48 (by decide) (L' := [(0, .ref (Y.2.2.2 277)), (1, .int (nI tag)), (2, .int (nI l)), (3, .int (nI (M 278 (M 277 6 + 1))))]) rfl (rfl : _ = 49) ?_
        refine xv_aload_n hX 0 dc_MD_enter_49 rfl (rfl : _ = 50) ?_
        refine xv_aload_n hX 0 dc_MD_enter_50 rfl (rfl : _ = 51) ?_
        refine xv_geti hX fl_MD_38 rfl rfl (by decide) (v := M 277 6) (xm_nk (by decide)) dc_MD_enter_51 (rfl : _ = 54) ?_
        refine xv_iconst hX (v := nI 2) dc_MD_enter_54 (by decide) (rfl : _ = 55) ?_
        refine xv_iadd hX dc_MD_enter_55 (nI_add (M 277 6) 2) (rfl : _ = 56) ?_
        refine xv_puti hX fl_MD_38 rfl rfl (by decide) dc_MD_enter_56 (rfl : _ = 59) ?_
        refine xv_iload_n hX 3 dc_MD_enter_59 rfl (rfl : _ = 60) ?_
        refine xv_bipush hX (v := nI 127) dc_MD_enter_60 (by decide) (rfl : _ = 62) ?_
        refine xv_icmp_le hX (nI_toInt (by omega)) (show (nI 127).toInt = 127 by decide) (tgt := 135) (pq := 65) dc_MD_enter_62 (by decide) rfl (fun c62 => ?_) (fun c62 => ?_)
        · skip
          refine xv_aload_n hX 0 dc_MD_enter_135 rfl (rfl : _ = 136) ?_
          refine xv_aload_n hX 0 dc_MD_enter_136 rfl (rfl : _ = 137) ?_
          refine xv_geti hX fl_MD_34 rfl rfl (by decide) (v := 0) ((xm_nk (by decide)).trans xm_eq) dc_MD_enter_137 (rfl : _ = 140) ?_
          refine xv_if_ne hX (show (nI 0).toInt = 0 by decide) (tgt := 153) (pq := 143) dc_MD_enter_140 (by decide) rfl (fun c140 => ?_) (fun c140 => ?_)
          · skip
            exact absurd c140 (by decide)
          · skip
            refine xv_iload_n hX 3 dc_MD_enter_143 rfl (rfl : _ = 144) ?_
            refine xv_iload_n hX 2 dc_MD_enter_144 rfl (rfl : _ = 145) ?_
            refine xv_aload_n hX 0 dc_MD_enter_145 rfl (rfl : _ = 146) ?_
            refine xv_geti hX fl_MD_38 rfl rfl (by decide) (v := M 277 6 + 2) xm_eq dc_MD_enter_146 (rfl : _ = 149) ?_
            refine xv_isub hX dc_MD_enter_149 (pk_sub (by omega)) (rfl : _ = 150) ?_
            refine xv_icmp_le hX (nI_toInt (by omega)) (nI_toInt (by omega)) (tgt := 157) (pq := 153) dc_MD_enter_150 (by decide) rfl (fun c150 => ?_) (fun c150 => ?_)
            · skip
              refine xv_iconst hX (v := nI 0) dc_MD_enter_157 (by decide) (rfl : _ = 158) ?_
              refine xv_putz hX fl_MD_34 rfl rfl (by decide) (by decide) dc_MD_enter_158 (rfl : _ = 161) ?_
              refine xv_aload_n hX 0 dc_MD_enter_161 rfl (rfl : _ = 162) ?_
              refine xv_geti hX fl_MD_34 rfl rfl (by decide) (v := 0) xm_eq dc_MD_enter_162 (rfl : _ = 165) ?_
              refine xv_if_eq hX (show (nI 0).toInt = 0 by decide) (tgt := 172) (pq := 168) dc_MD_enter_165 (by decide) rfl (fun c165 => ?_) (fun c165 => ?_)
              · skip
                refine xv_aload_n hX 0 dc_MD_enter_172 rfl (rfl : _ = 173) ?_
                refine xv_geti hX fl_MD_38 rfl rfl (by decide) (v := M 277 6 + 2) ((xm_nk (by decide)).trans xm_eq) dc_MD_enter_173 (rfl : _ = 176) ?_
                refine xv_iload_n hX 3 dc_MD_enter_176 rfl (rfl : _ = 177) ?_
                refine xv_iadd hX dc_MD_enter_177 (nI_add (M 277 6 + 2) (M 278 (M 277 6 + 1))) (rfl : _ = 178) ?_
                refine xv_reti hX hR rfl dc_MD_enter_178 ?_
                obtain ⟨a1, a2, a3⟩ := md_done (M := M) (M' := (xm_set (xm_set (xm_set M 277 7 0) 277 6 (M 277 6 + 2)) 277 7 0)) (v := M 277 6 + 2) (w := 0) ((xm_nk (by decide)).trans xm_eq) xm_eq (fun q a => by first | rfl | simp only [xm_oth a]) (fun j a b => by first | rfl | simp only [xm_nk a, xm_nk b]) hI (by omega) (by omega)
                refine ⟨a1, a2, Or.inr ⟨M 277 6 + 2, M 277 6 + 2 + (M 278 (M 277 6 + 1)), ?_, a3.trans (if_pos rfl), rfl⟩⟩
                rw [md_s0 (by omega)]
                show ps_hd _ _ _ _ = _
                unfold ps_hd
                repeat' split
                all_goals first
                  | rfl
                  | (exfalso; omega)
                  | (simp only [Option.some.injEq, Prod.mk.injEq]; omega)
              · skip
                exact absurd c165 (by decide)
            · skip
              refine xv_iconst hX (v := nI 1) dc_MD_enter_153 (by decide) (rfl : _ = 154) ?_
              refine xv_goto hX (pq := 158) dc_MD_enter_154 (by decide) ?_
              refine xv_putz hX fl_MD_34 rfl rfl (by decide) (by decide) dc_MD_enter_158 (rfl : _ = 161) ?_
              refine xv_aload_n hX 0 dc_MD_enter_161 rfl (rfl : _ = 162) ?_
              refine xv_geti hX fl_MD_34 rfl rfl (by decide) (v := 1) xm_eq dc_MD_enter_162 (rfl : _ = 165) ?_
              refine xv_if_eq hX (show (nI 1).toInt = 1 by decide) (tgt := 172) (pq := 168) dc_MD_enter_165 (by decide) rfl (fun c165 => ?_) (fun c165 => ?_)
              · skip
                exact absurd c165 (by decide)
              · skip
                refine xv_iload_n hX 2 dc_MD_enter_168 rfl (rfl : _ = 169) ?_
                refine xv_goto hX (pq := 178) dc_MD_enter_169 (by decide) ?_
                refine xv_reti hX hR rfl dc_MD_enter_178 ?_
                obtain ⟨a1, a2, a3⟩ := md_done (M := M) (M' := (xm_set (xm_set (xm_set M 277 7 0) 277 6 (M 277 6 + 2)) 277 7 1)) (v := M 277 6 + 2) (w := 1) ((xm_nk (by decide)).trans xm_eq) xm_eq (fun q a => by first | rfl | simp only [xm_oth a]) (fun j a b => by first | rfl | simp only [xm_nk a, xm_nk b]) hI (by omega) (by omega)
                exact ⟨a1, a2, Or.inl ⟨a3.trans (if_neg (by decide)), by by_cases h70 : M 277 7 = 0; (rw [md_s0 h70]; show ps_hd _ _ _ _ = none; unfold ps_hd; (repeat' split) <;> first | rfl | (exfalso; omega)); (rw [md_s1 h70]; rfl), rfl⟩⟩
        · skip
          refine xv_aload_n hX 0 dc_MD_enter_65 rfl (rfl : _ = 66) ?_
          refine xv_iload_n hX 3 dc_MD_enter_66 rfl (rfl : _ = 67) ?_
          refine xv_sipush hX (v := nI 129) dc_MD_enter_67 (by decide) (rfl : _ = 70) ?_
          refine xv_icmp_ne hX (nI_toInt (by omega)) (show (nI 129).toInt = 129 by decide) (tgt := 96) (pq := 73) dc_MD_enter_70 (by decide) rfl (fun c70 => ?_) (fun c70 => ?_)
          · skip
            refine xv_iconst hX (v := nI 1) dc_MD_enter_96 (by decide) (rfl : _ = 97) ?_
            refine xv_goto hX (pq := 101) dc_MD_enter_97 (by decide) ?_
            refine xv_putz hX fl_MD_34 rfl rfl (by decide) (by decide) dc_MD_enter_101 (rfl : _ = 104) ?_
            refine xv_aload_n hX 0 dc_MD_enter_104 rfl (rfl : _ = 105) ?_
            refine xv_geti hX fl_MD_34 rfl rfl (by decide) (v := 1) xm_eq dc_MD_enter_105 (rfl : _ = 108) ?_
            refine xv_if_eq hX (show (nI 1).toInt = 1 by decide) (tgt := 115) (pq := 111) dc_MD_enter_108 (by decide) rfl (fun c108 => ?_) (fun c108 => ?_)
            · skip
              exact absurd c108 (by decide)
            · skip
              refine xv_iconst hX (v := nI 0) dc_MD_enter_111 (by decide) (rfl : _ = 112) ?_
              refine xv_goto hX (pq := 124) dc_MD_enter_112 (by decide) ?_
              refine xv_istore_n hX [1, 2, 3, 0] dc_MD_enter_124 (by decide) (L' := [(0, .ref (Y.2.2.2 277)), (1, .int (nI tag)), (2, .int (nI l)), (3, .int (nI 0))]) rfl (rfl : _ = 125) ?_
              refine xv_aload_n hX 0 dc_MD_enter_125 rfl (rfl : _ = 126) ?_
              refine xv_aload_n hX 0 dc_MD_enter_126 rfl (rfl : _ = 127) ?_
              refine xv_geti hX fl_MD_38 rfl rfl (by decide) (v := M 277 6 + 2) ((xm_nk (by decide)).trans xm_eq) dc_MD_enter_127 (rfl : _ = 130) ?_
              refine xv_iconst hX (v := nI 1) dc_MD_enter_130 (by decide) (rfl : _ = 131) ?_
              refine xv_iadd hX dc_MD_enter_131 (nI_add (M 277 6 + 2) 1) (rfl : _ = 132) ?_
              refine xv_puti hX fl_MD_38 rfl rfl (by decide) dc_MD_enter_132 (rfl : _ = 135) ?_
              refine xv_aload_n hX 0 dc_MD_enter_135 rfl (rfl : _ = 136) ?_
              refine xv_aload_n hX 0 dc_MD_enter_136 rfl (rfl : _ = 137) ?_
              refine xv_geti hX fl_MD_34 rfl rfl (by decide) (v := 1) ((xm_nk (by decide)).trans xm_eq) dc_MD_enter_137 (rfl : _ = 140) ?_
              refine xv_if_ne hX (show (nI 1).toInt = 1 by decide) (tgt := 153) (pq := 143) dc_MD_enter_140 (by decide) rfl (fun c140 => ?_) (fun c140 => ?_)
              · skip
                refine xv_iconst hX (v := nI 1) dc_MD_enter_153 (by decide) (rfl : _ = 154) ?_
                refine xv_goto hX (pq := 158) dc_MD_enter_154 (by decide) ?_
                refine xv_putz hX fl_MD_34 rfl rfl (by decide) (by decide) dc_MD_enter_158 (rfl : _ = 161) ?_
                refine xv_aload_n hX 0 dc_MD_enter_161 rfl (rfl : _ = 162) ?_
                refine xv_geti hX fl_MD_34 rfl rfl (by decide) (v := 1) xm_eq dc_MD_enter_162 (rfl : _ = 165) ?_
                refine xv_if_eq hX (show (nI 1).toInt = 1 by decide) (tgt := 172) (pq := 168) dc_MD_enter_165 (by decide) rfl (fun c165 => ?_) (fun c165 => ?_)
                · skip
                  exact absurd c165 (by decide)
                · skip
                  refine xv_iload_n hX 2 dc_MD_enter_168 rfl (rfl : _ = 169) ?_
                  refine xv_goto hX (pq := 178) dc_MD_enter_169 (by decide) ?_
                  refine xv_reti hX hR rfl dc_MD_enter_178 ?_
                  obtain ⟨a1, a2, a3⟩ := md_done (M := M) (M' := (xm_set (xm_set (xm_set (xm_set (xm_set M 277 7 0) 277 6 (M 277 6 + 2)) 277 7 1) 277 6 (M 277 6 + 3)) 277 7 1)) (v := M 277 6 + 3) (w := 1) ((xm_nk (by decide)).trans xm_eq) xm_eq (fun q a => by first | rfl | simp only [xm_oth a]) (fun j a b => by first | rfl | simp only [xm_nk a, xm_nk b]) hI (by omega) (by omega)
                  exact ⟨a1, a2, Or.inl ⟨a3.trans (if_neg (by decide)), by by_cases h70 : M 277 7 = 0; (rw [md_s0 h70]; show ps_hd _ _ _ _ = none; unfold ps_hd; (repeat' split) <;> first | rfl | (exfalso; omega)); (rw [md_s1 h70]; rfl), rfl⟩⟩
              · skip
                exact absurd c140 (by decide)
          · skip
            refine xv_aload_n hX 0 dc_MD_enter_73 rfl (rfl : _ = 74) ?_
            refine xv_geti hX fl_MD_38 rfl rfl (by decide) (v := M 277 6 + 2) xm_eq dc_MD_enter_74 (rfl : _ = 77) ?_
            refine xv_iload_n hX 2 dc_MD_enter_77 rfl (rfl : _ = 78) ?_
            refine xv_icmp_ge hX (nI_toInt (by omega)) (nI_toInt (by omega)) (tgt := 96) (pq := 81) dc_MD_enter_78 (by decide) rfl (fun c78 => ?_) (fun c78 => ?_)
            · skip
              refine xv_iconst hX (v := nI 1) dc_MD_enter_96 (by decide) (rfl : _ = 97) ?_
              refine xv_goto hX (pq := 101) dc_MD_enter_97 (by decide) ?_
              refine xv_putz hX fl_MD_34 rfl rfl (by decide) (by decide) dc_MD_enter_101 (rfl : _ = 104) ?_
              refine xv_aload_n hX 0 dc_MD_enter_104 rfl (rfl : _ = 105) ?_
              refine xv_geti hX fl_MD_34 rfl rfl (by decide) (v := 1) xm_eq dc_MD_enter_105 (rfl : _ = 108) ?_
              refine xv_if_eq hX (show (nI 1).toInt = 1 by decide) (tgt := 115) (pq := 111) dc_MD_enter_108 (by decide) rfl (fun c108 => ?_) (fun c108 => ?_)
              · skip
                exact absurd c108 (by decide)
              · skip
                refine xv_iconst hX (v := nI 0) dc_MD_enter_111 (by decide) (rfl : _ = 112) ?_
                refine xv_goto hX (pq := 124) dc_MD_enter_112 (by decide) ?_
                refine xv_istore_n hX [1, 2, 3, 0] dc_MD_enter_124 (by decide) (L' := [(0, .ref (Y.2.2.2 277)), (1, .int (nI tag)), (2, .int (nI l)), (3, .int (nI 0))]) rfl (rfl : _ = 125) ?_
                refine xv_aload_n hX 0 dc_MD_enter_125 rfl (rfl : _ = 126) ?_
                refine xv_aload_n hX 0 dc_MD_enter_126 rfl (rfl : _ = 127) ?_
                refine xv_geti hX fl_MD_38 rfl rfl (by decide) (v := M 277 6 + 2) ((xm_nk (by decide)).trans xm_eq) dc_MD_enter_127 (rfl : _ = 130) ?_
                refine xv_iconst hX (v := nI 1) dc_MD_enter_130 (by decide) (rfl : _ = 131) ?_
                refine xv_iadd hX dc_MD_enter_131 (nI_add (M 277 6 + 2) 1) (rfl : _ = 132) ?_
                refine xv_puti hX fl_MD_38 rfl rfl (by decide) dc_MD_enter_132 (rfl : _ = 135) ?_
                refine xv_aload_n hX 0 dc_MD_enter_135 rfl (rfl : _ = 136) ?_
                refine xv_aload_n hX 0 dc_MD_enter_136 rfl (rfl : _ = 137) ?_
                refine xv_geti hX fl_MD_34 rfl rfl (by decide) (v := 1) ((xm_nk (by decide)).trans xm_eq) dc_MD_enter_137 (rfl : _ = 140) ?_
                refine xv_if_ne hX (show (nI 1).toInt = 1 by decide) (tgt := 153) (pq := 143) dc_MD_enter_140 (by decide) rfl (fun c140 => ?_) (fun c140 => ?_)
                · skip
                  refine xv_iconst hX (v := nI 1) dc_MD_enter_153 (by decide) (rfl : _ = 154) ?_
                  refine xv_goto hX (pq := 158) dc_MD_enter_154 (by decide) ?_
                  refine xv_putz hX fl_MD_34 rfl rfl (by decide) (by decide) dc_MD_enter_158 (rfl : _ = 161) ?_
                  refine xv_aload_n hX 0 dc_MD_enter_161 rfl (rfl : _ = 162) ?_
                  refine xv_geti hX fl_MD_34 rfl rfl (by decide) (v := 1) xm_eq dc_MD_enter_162 (rfl : _ = 165) ?_
                  refine xv_if_eq hX (show (nI 1).toInt = 1 by decide) (tgt := 172) (pq := 168) dc_MD_enter_165 (by decide) rfl (fun c165 => ?_) (fun c165 => ?_)
                  · skip
                    exact absurd c165 (by decide)
                  · skip
                    refine xv_iload_n hX 2 dc_MD_enter_168 rfl (rfl : _ = 169) ?_
                    refine xv_goto hX (pq := 178) dc_MD_enter_169 (by decide) ?_
                    refine xv_reti hX hR rfl dc_MD_enter_178 ?_
                    obtain ⟨a1, a2, a3⟩ := md_done (M := M) (M' := (xm_set (xm_set (xm_set (xm_set (xm_set M 277 7 0) 277 6 (M 277 6 + 2)) 277 7 1) 277 6 (M 277 6 + 3)) 277 7 1)) (v := M 277 6 + 3) (w := 1) ((xm_nk (by decide)).trans xm_eq) xm_eq (fun q a => by first | rfl | simp only [xm_oth a]) (fun j a b => by first | rfl | simp only [xm_nk a, xm_nk b]) hI (by omega) (by omega)
                    exact ⟨a1, a2, Or.inl ⟨a3.trans (if_neg (by decide)), by by_cases h70 : M 277 7 = 0; (rw [md_s0 h70]; show ps_hd _ _ _ _ = none; unfold ps_hd; (repeat' split) <;> first | rfl | (exfalso; omega)); (rw [md_s1 h70]; rfl), rfl⟩⟩
                · skip
                  exact absurd c140 (by decide)
            · skip
              have hb2 := k8 (M 277 6 + 2) (by omega)
              refine xv_aload_n hX 0 dc_MD_enter_81 rfl (rfl : _ = 82) ?_
              refine xv_getr hX fl_MD_7 rfl rfl (by decide) rfl dc_MD_enter_82 (rfl : _ = 85) ?_
              refine xv_aload_n hX 0 dc_MD_enter_85 rfl (rfl : _ = 86) ?_
              refine xv_geti hX fl_MD_38 rfl rfl (by decide) (v := M 277 6 + 2) xm_eq dc_MD_enter_86 (rfl : _ = 89) ?_
              refine xv_iald hX rfl (by decide) (by omega) (by decide) (v := M 278 (M 277 6 + 2)) ((xm_np (by decide)).trans (xm_np (by decide))) dc_MD_enter_89 (rfl : _ = 90) ?_
              refine xv_sipush hX (v := nI 128) dc_MD_enter_90 (by decide) (rfl : _ = 93) ?_
              refine xv_icmp_ge hX (nI_toInt (by omega)) (show (nI 128).toInt = 128 by decide) (tgt := 100) (pq := 96) dc_MD_enter_93 (by decide) rfl (fun c93 => ?_) (fun c93 => ?_)
              · skip
                refine xv_iconst hX (v := nI 0) dc_MD_enter_100 (by decide) (rfl : _ = 101) ?_
                refine xv_putz hX fl_MD_34 rfl rfl (by decide) (by decide) dc_MD_enter_101 (rfl : _ = 104) ?_
                refine xv_aload_n hX 0 dc_MD_enter_104 rfl (rfl : _ = 105) ?_
                refine xv_geti hX fl_MD_34 rfl rfl (by decide) (v := 0) xm_eq dc_MD_enter_105 (rfl : _ = 108) ?_
                refine xv_if_eq hX (show (nI 0).toInt = 0 by decide) (tgt := 115) (pq := 111) dc_MD_enter_108 (by decide) rfl (fun c108 => ?_) (fun c108 => ?_)
                · skip
                  refine xv_aload_n hX 0 dc_MD_enter_115 rfl (rfl : _ = 116) ?_
                  refine xv_getr hX fl_MD_7 rfl rfl (by decide) rfl dc_MD_enter_116 (rfl : _ = 119) ?_
                  refine xv_aload_n hX 0 dc_MD_enter_119 rfl (rfl : _ = 120) ?_
                  refine xv_geti hX fl_MD_38 rfl rfl (by decide) (v := M 277 6 + 2) ((xm_nk (by decide)).trans xm_eq) dc_MD_enter_120 (rfl : _ = 123) ?_
                  refine xv_iald hX rfl (by decide) (by omega) (by decide) (v := M 278 (M 277 6 + 2)) ((xm_np (by decide)).trans ((xm_np (by decide)).trans (xm_np (by decide)))) dc_MD_enter_123 (rfl : _ = 124) ?_
                  refine xv_istore_n hX [1, 2, 3, 0] dc_MD_enter_124 (by decide) (L' := [(0, .ref (Y.2.2.2 277)), (1, .int (nI tag)), (2, .int (nI l)), (3, .int (nI (M 278 (M 277 6 + 2))))]) rfl (rfl : _ = 125) ?_
                  refine xv_aload_n hX 0 dc_MD_enter_125 rfl (rfl : _ = 126) ?_
                  refine xv_aload_n hX 0 dc_MD_enter_126 rfl (rfl : _ = 127) ?_
                  refine xv_geti hX fl_MD_38 rfl rfl (by decide) (v := M 277 6 + 2) ((xm_nk (by decide)).trans xm_eq) dc_MD_enter_127 (rfl : _ = 130) ?_
                  refine xv_iconst hX (v := nI 1) dc_MD_enter_130 (by decide) (rfl : _ = 131) ?_
                  refine xv_iadd hX dc_MD_enter_131 (nI_add (M 277 6 + 2) 1) (rfl : _ = 132) ?_
                  refine xv_puti hX fl_MD_38 rfl rfl (by decide) dc_MD_enter_132 (rfl : _ = 135) ?_
                  refine xv_aload_n hX 0 dc_MD_enter_135 rfl (rfl : _ = 136) ?_
                  refine xv_aload_n hX 0 dc_MD_enter_136 rfl (rfl : _ = 137) ?_
                  refine xv_geti hX fl_MD_34 rfl rfl (by decide) (v := 0) ((xm_nk (by decide)).trans xm_eq) dc_MD_enter_137 (rfl : _ = 140) ?_
                  refine xv_if_ne hX (show (nI 0).toInt = 0 by decide) (tgt := 153) (pq := 143) dc_MD_enter_140 (by decide) rfl (fun c140 => ?_) (fun c140 => ?_)
                  · skip
                    exact absurd c140 (by decide)
                  · skip
                    refine xv_iload_n hX 3 dc_MD_enter_143 rfl (rfl : _ = 144) ?_
                    refine xv_iload_n hX 2 dc_MD_enter_144 rfl (rfl : _ = 145) ?_
                    refine xv_aload_n hX 0 dc_MD_enter_145 rfl (rfl : _ = 146) ?_
                    refine xv_geti hX fl_MD_38 rfl rfl (by decide) (v := M 277 6 + 3) xm_eq dc_MD_enter_146 (rfl : _ = 149) ?_
                    refine xv_isub hX dc_MD_enter_149 (pk_sub (by omega)) (rfl : _ = 150) ?_
                    refine xv_icmp_le hX (nI_toInt (by omega)) (nI_toInt (by omega)) (tgt := 157) (pq := 153) dc_MD_enter_150 (by decide) rfl (fun c150 => ?_) (fun c150 => ?_)
                    · skip
                      refine xv_iconst hX (v := nI 0) dc_MD_enter_157 (by decide) (rfl : _ = 158) ?_
                      refine xv_putz hX fl_MD_34 rfl rfl (by decide) (by decide) dc_MD_enter_158 (rfl : _ = 161) ?_
                      refine xv_aload_n hX 0 dc_MD_enter_161 rfl (rfl : _ = 162) ?_
                      refine xv_geti hX fl_MD_34 rfl rfl (by decide) (v := 0) xm_eq dc_MD_enter_162 (rfl : _ = 165) ?_
                      refine xv_if_eq hX (show (nI 0).toInt = 0 by decide) (tgt := 172) (pq := 168) dc_MD_enter_165 (by decide) rfl (fun c165 => ?_) (fun c165 => ?_)
                      · skip
                        refine xv_aload_n hX 0 dc_MD_enter_172 rfl (rfl : _ = 173) ?_
                        refine xv_geti hX fl_MD_38 rfl rfl (by decide) (v := M 277 6 + 3) ((xm_nk (by decide)).trans xm_eq) dc_MD_enter_173 (rfl : _ = 176) ?_
                        refine xv_iload_n hX 3 dc_MD_enter_176 rfl (rfl : _ = 177) ?_
                        refine xv_iadd hX dc_MD_enter_177 (nI_add (M 277 6 + 3) (M 278 (M 277 6 + 2))) (rfl : _ = 178) ?_
                        refine xv_reti hX hR rfl dc_MD_enter_178 ?_
                        obtain ⟨a1, a2, a3⟩ := md_done (M := M) (M' := (xm_set (xm_set (xm_set (xm_set (xm_set M 277 7 0) 277 6 (M 277 6 + 2)) 277 7 0) 277 6 (M 277 6 + 3)) 277 7 0)) (v := M 277 6 + 3) (w := 0) ((xm_nk (by decide)).trans xm_eq) xm_eq (fun q a => by first | rfl | simp only [xm_oth a]) (fun j a b => by first | rfl | simp only [xm_nk a, xm_nk b]) hI (by omega) (by omega)
                        refine ⟨a1, a2, Or.inr ⟨M 277 6 + 3, M 277 6 + 3 + (M 278 (M 277 6 + 2)), ?_, a3.trans (if_pos rfl), rfl⟩⟩
                        rw [md_s0 (by omega)]
                        show ps_hd _ _ _ _ = _
                        unfold ps_hd
                        repeat' split
                        all_goals first
                          | rfl
                          | (exfalso; omega)
                          | (simp only [Option.some.injEq, Prod.mk.injEq]; omega)
                      · skip
                        exact absurd c165 (by decide)
                    · skip
                      refine xv_iconst hX (v := nI 1) dc_MD_enter_153 (by decide) (rfl : _ = 154) ?_
                      refine xv_goto hX (pq := 158) dc_MD_enter_154 (by decide) ?_
                      refine xv_putz hX fl_MD_34 rfl rfl (by decide) (by decide) dc_MD_enter_158 (rfl : _ = 161) ?_
                      refine xv_aload_n hX 0 dc_MD_enter_161 rfl (rfl : _ = 162) ?_
                      refine xv_geti hX fl_MD_34 rfl rfl (by decide) (v := 1) xm_eq dc_MD_enter_162 (rfl : _ = 165) ?_
                      refine xv_if_eq hX (show (nI 1).toInt = 1 by decide) (tgt := 172) (pq := 168) dc_MD_enter_165 (by decide) rfl (fun c165 => ?_) (fun c165 => ?_)
                      · skip
                        exact absurd c165 (by decide)
                      · skip
                        refine xv_iload_n hX 2 dc_MD_enter_168 rfl (rfl : _ = 169) ?_
                        refine xv_goto hX (pq := 178) dc_MD_enter_169 (by decide) ?_
                        refine xv_reti hX hR rfl dc_MD_enter_178 ?_
                        obtain ⟨a1, a2, a3⟩ := md_done (M := M) (M' := (xm_set (xm_set (xm_set (xm_set (xm_set M 277 7 0) 277 6 (M 277 6 + 2)) 277 7 0) 277 6 (M 277 6 + 3)) 277 7 1)) (v := M 277 6 + 3) (w := 1) ((xm_nk (by decide)).trans xm_eq) xm_eq (fun q a => by first | rfl | simp only [xm_oth a]) (fun j a b => by first | rfl | simp only [xm_nk a, xm_nk b]) hI (by omega) (by omega)
                        exact ⟨a1, a2, Or.inl ⟨a3.trans (if_neg (by decide)), by by_cases h70 : M 277 7 = 0; (rw [md_s0 h70]; show ps_hd _ _ _ _ = none; unfold ps_hd; (repeat' split) <;> first | rfl | (exfalso; omega)); (rw [md_s1 h70]; rfl), rfl⟩⟩
                · skip
                  exact absurd c108 (by decide)
              · skip
                refine xv_iconst hX (v := nI 1) dc_MD_enter_96 (by decide) (rfl : _ = 97) ?_
                refine xv_goto hX (pq := 101) dc_MD_enter_97 (by decide) ?_
                refine xv_putz hX fl_MD_34 rfl rfl (by decide) (by decide) dc_MD_enter_101 (rfl : _ = 104) ?_
                refine xv_aload_n hX 0 dc_MD_enter_104 rfl (rfl : _ = 105) ?_
                refine xv_geti hX fl_MD_34 rfl rfl (by decide) (v := 1) xm_eq dc_MD_enter_105 (rfl : _ = 108) ?_
                refine xv_if_eq hX (show (nI 1).toInt = 1 by decide) (tgt := 115) (pq := 111) dc_MD_enter_108 (by decide) rfl (fun c108 => ?_) (fun c108 => ?_)
                · skip
                  exact absurd c108 (by decide)
                · skip
                  refine xv_iconst hX (v := nI 0) dc_MD_enter_111 (by decide) (rfl : _ = 112) ?_
                  refine xv_goto hX (pq := 124) dc_MD_enter_112 (by decide) ?_
                  refine xv_istore_n hX [1, 2, 3, 0] dc_MD_enter_124 (by decide) (L' := [(0, .ref (Y.2.2.2 277)), (1, .int (nI tag)), (2, .int (nI l)), (3, .int (nI 0))]) rfl (rfl : _ = 125) ?_
                  refine xv_aload_n hX 0 dc_MD_enter_125 rfl (rfl : _ = 126) ?_
                  refine xv_aload_n hX 0 dc_MD_enter_126 rfl (rfl : _ = 127) ?_
                  refine xv_geti hX fl_MD_38 rfl rfl (by decide) (v := M 277 6 + 2) ((xm_nk (by decide)).trans xm_eq) dc_MD_enter_127 (rfl : _ = 130) ?_
                  refine xv_iconst hX (v := nI 1) dc_MD_enter_130 (by decide) (rfl : _ = 131) ?_
                  refine xv_iadd hX dc_MD_enter_131 (nI_add (M 277 6 + 2) 1) (rfl : _ = 132) ?_
                  refine xv_puti hX fl_MD_38 rfl rfl (by decide) dc_MD_enter_132 (rfl : _ = 135) ?_
                  refine xv_aload_n hX 0 dc_MD_enter_135 rfl (rfl : _ = 136) ?_
                  refine xv_aload_n hX 0 dc_MD_enter_136 rfl (rfl : _ = 137) ?_
                  refine xv_geti hX fl_MD_34 rfl rfl (by decide) (v := 1) ((xm_nk (by decide)).trans xm_eq) dc_MD_enter_137 (rfl : _ = 140) ?_
                  refine xv_if_ne hX (show (nI 1).toInt = 1 by decide) (tgt := 153) (pq := 143) dc_MD_enter_140 (by decide) rfl (fun c140 => ?_) (fun c140 => ?_)
                  · skip
                    refine xv_iconst hX (v := nI 1) dc_MD_enter_153 (by decide) (rfl : _ = 154) ?_
                    refine xv_goto hX (pq := 158) dc_MD_enter_154 (by decide) ?_
                    refine xv_putz hX fl_MD_34 rfl rfl (by decide) (by decide) dc_MD_enter_158 (rfl : _ = 161) ?_
                    refine xv_aload_n hX 0 dc_MD_enter_161 rfl (rfl : _ = 162) ?_
                    refine xv_geti hX fl_MD_34 rfl rfl (by decide) (v := 1) xm_eq dc_MD_enter_162 (rfl : _ = 165) ?_
                    refine xv_if_eq hX (show (nI 1).toInt = 1 by decide) (tgt := 172) (pq := 168) dc_MD_enter_165 (by decide) rfl (fun c165 => ?_) (fun c165 => ?_)
                    · skip
                      exact absurd c165 (by decide)
                    · skip
                      refine xv_iload_n hX 2 dc_MD_enter_168 rfl (rfl : _ = 169) ?_
                      refine xv_goto hX (pq := 178) dc_MD_enter_169 (by decide) ?_
                      refine xv_reti hX hR rfl dc_MD_enter_178 ?_
                      obtain ⟨a1, a2, a3⟩ := md_done (M := M) (M' := (xm_set (xm_set (xm_set (xm_set (xm_set M 277 7 0) 277 6 (M 277 6 + 2)) 277 7 1) 277 6 (M 277 6 + 3)) 277 7 1)) (v := M 277 6 + 3) (w := 1) ((xm_nk (by decide)).trans xm_eq) xm_eq (fun q a => by first | rfl | simp only [xm_oth a]) (fun j a b => by first | rfl | simp only [xm_nk a, xm_nk b]) hI (by omega) (by omega)
                      exact ⟨a1, a2, Or.inl ⟨a3.trans (if_neg (by decide)), by by_cases h70 : M 277 7 = 0; (rw [md_s0 h70]; show ps_hd _ _ _ _ = none; unfold ps_hd; (repeat' split) <;> first | rfl | (exfalso; omega)); (rw [md_s1 h70]; rfl), rfl⟩⟩
                  · skip
                    exact absurd c140 (by decide)
      · skip
        exact absurd c32 (by decide)
    · skip
      refine xv_iconst hX (v := nI 1) dc_MD_enter_20 (by decide) (rfl : _ = 21) ?_
      refine xv_goto hX (pq := 25) dc_MD_enter_21 (by decide) ?_
      refine xv_putz hX fl_MD_34 rfl rfl (by decide) (by decide) dc_MD_enter_25 (rfl : _ = 28) ?_
      refine xv_aload_n hX 0 dc_MD_enter_28 rfl (rfl : _ = 29) ?_
      refine xv_geti hX fl_MD_34 rfl rfl (by decide) (v := 1) xm_eq dc_MD_enter_29 (rfl : _ = 32) ?_
      refine xv_if_eq hX (show (nI 1).toInt = 1 by decide) (tgt := 37) (pq := 35) dc_MD_enter_32 (by decide) rfl (fun c32 => ?_) (fun c32 => ?_)
      · skip
        exact absurd c32 (by decide)
      · skip
        refine xv_iload_n hX 2 dc_MD_enter_35 rfl (rfl : _ = 36) ?_
        refine xv_reti hX hR rfl dc_MD_enter_36 ?_
        obtain ⟨a1, a2, a3⟩ := md_done (M := M) (M' := (xm_set M 277 7 1)) (v := M 277 6) (w := 1) (xm_nk (by decide)) xm_eq (fun q a => by first | rfl | simp only [xm_oth a]) (fun j a b => by first | rfl | simp only [xm_nk a, xm_nk b]) hI (by omega) (by omega)
        exact ⟨a1, a2, Or.inl ⟨a3.trans (if_neg (by decide)), by by_cases h70 : M 277 7 = 0; (rw [md_s0 h70]; show ps_hd _ _ _ _ = none; unfold ps_hd; (repeat' split) <;> first | rfl | (exfalso; omega)); (rw [md_s1 h70]; rfl), rfl⟩⟩

set_option maxRecDepth 100000 in
set_option maxHeartbeats 4000000 in
theorem ct_MD_leave (ln : Launch) (Y : xw_Y) (M : xm_M) (e : Nat) (hI : md_I M) (he : e ≤ 1440) : xc_v ln qm_MD_leave 0 Y [.ref (Y.2.2.2 277), .int (nI e)] M (fun M1 => md_I M1 ∧ md_F M M1 ∧ md_s M1 = mo_lv e (md_s M)) := by
  refine xc_v.mk rfl (by decide) (Nat.le_of_ble_eq_true rfl) ?_
  intro X hXl hX hR
  subst hXl
  have hX : xv_ok X Y prog_9_method_11_code "CertificatePathModel" 2 (xc_rm 0) := hX
  show xv_V X Y 2 0 0 xw_lk xw_N M 0 [(0, .ref (Y.2.2.2 277)), (1, .int (nI e))] []
  obtain ⟨k6, k7, k8⟩ := id hI
  refine xv_aload_n hX 0 dc_MD_leave_0 rfl (rfl : _ = 1) ?_
  refine xv_aload_n hX 0 dc_MD_leave_1 rfl (rfl : _ = 2) ?_
  refine xv_geti hX fl_MD_34 rfl rfl (by decide) (v := M 277 7) rfl dc_MD_leave_2 (rfl : _ = 5) ?_
  refine xv_if_ne hX (nI_toInt (by omega)) (tgt := 16) (pq := 8) dc_MD_leave_5 (by decide) rfl (fun c5 => ?_) (fun c5 => ?_)
  · skip
    refine xv_iconst hX (v := nI 1) dc_MD_leave_16 (by decide) (rfl : _ = 17) ?_
    refine xv_goto hX (pq := 21) dc_MD_leave_17 (by decide) ?_
    refine xv_putz hX fl_MD_34 rfl rfl (by decide) (by decide) dc_MD_leave_21 (rfl : _ = 24) ?_
    refine xv_retv hX hR dc_MD_leave_24 ?_
    obtain ⟨a1, a2, a3⟩ := md_done (M := M) (M' := (xm_set M 277 7 1)) (v := M 277 6) (w := 1) (xm_nk (by decide)) xm_eq (fun q a => by first | rfl | simp only [xm_oth a]) (fun j a b => by first | rfl | simp only [xm_nk a, xm_nk b]) hI (by omega) (by omega)
    refine ⟨a1, a2, a3.trans ((if_neg (by decide)).trans ?_)⟩
    first
    | (rw [md_s1 (by omega)]; rfl)
    | (rw [md_s0 (by omega)]; exact (if_neg (by omega)).symm)
  · skip
    refine xv_aload_n hX 0 dc_MD_leave_8 rfl (rfl : _ = 9) ?_
    refine xv_geti hX fl_MD_38 rfl rfl (by decide) (v := M 277 6) rfl dc_MD_leave_9 (rfl : _ = 12) ?_
    refine xv_iload_n hX 1 dc_MD_leave_12 rfl (rfl : _ = 13) ?_
    refine xv_icmp_eq hX (nI_toInt (by omega)) (nI_toInt (by omega)) (tgt := 20) (pq := 16) dc_MD_leave_13 (by decide) rfl (fun c13 => ?_) (fun c13 => ?_)
    · skip
      refine xv_iconst hX (v := nI 0) dc_MD_leave_20 (by decide) (rfl : _ = 21) ?_
      refine xv_putz hX fl_MD_34 rfl rfl (by decide) (by decide) dc_MD_leave_21 (rfl : _ = 24) ?_
      refine xv_retv hX hR dc_MD_leave_24 ?_
      obtain ⟨a1, a2, a3⟩ := md_done (M := M) (M' := (xm_set M 277 7 0)) (v := M 277 6) (w := 0) (xm_nk (by decide)) xm_eq (fun q a => by first | rfl | simp only [xm_oth a]) (fun j a b => by first | rfl | simp only [xm_nk a, xm_nk b]) hI (by omega) (by omega)
      refine ⟨a1, a2, a3.trans ((if_pos rfl).trans ?_)⟩
      rw [md_s0 (by omega)]
      exact (if_pos (by omega)).symm
    · skip
      refine xv_iconst hX (v := nI 1) dc_MD_leave_16 (by decide) (rfl : _ = 17) ?_
      refine xv_goto hX (pq := 21) dc_MD_leave_17 (by decide) ?_
      refine xv_putz hX fl_MD_34 rfl rfl (by decide) (by decide) dc_MD_leave_21 (rfl : _ = 24) ?_
      refine xv_retv hX hR dc_MD_leave_24 ?_
      obtain ⟨a1, a2, a3⟩ := md_done (M := M) (M' := (xm_set M 277 7 1)) (v := M 277 6) (w := 1) (xm_nk (by decide)) xm_eq (fun q a => by first | rfl | simp only [xm_oth a]) (fun j a b => by first | rfl | simp only [xm_nk a, xm_nk b]) hI (by omega) (by omega)
      refine ⟨a1, a2, a3.trans ((if_neg (by decide)).trans ?_)⟩
      first
      | (rw [md_s1 (by omega)]; rfl)
      | (rw [md_s0 (by omega)]; exact (if_neg (by omega)).symm)

set_option maxRecDepth 100000 in
set_option maxHeartbeats 4000000 in
theorem ct_MD_integer (ln : Launch) (Y : xw_Y) (M : xm_M) (l : Nat) (hI : md_I M) (hl : l ≤ 1440) : xc_i ln qm_MD_integer 2 Y [.ref (Y.2.2.2 277), .int (nI l)] M (fun r M1 => md_I M1 ∧ md_F M M1 ∧ ∃ v : Nat, r = nI v ∧ v < 2147483648 ∧ mo_ok (mo_run (ps_int (M 278)) l (md_s M)) (md_s M1) (fun x => x = v)) := by
  refine xc_i.mk .int rfl (by decide) (Nat.le_of_ble_eq_true rfl) ?_
  intro X hXl hX hR
  subst hXl
  have hX : xv_ok X Y prog_9_method_12_code "CertificatePathModel" 6 (xc_rm 2) := hX
  show xv_V X Y 6 0 0 xw_lk xw_N M 0 [(0, .ref (Y.2.2.2 277)), (1, .int (nI l))] []
  obtain ⟨k6, k7, k8⟩ := id hI
  refine xv_aload_n hX 0 dc_MD_integer_0 rfl (rfl : _ = 1) ?_
  refine xv_iconst hX (v := nI 2) dc_MD_integer_1 (by decide) (rfl : _ = 2) ?_
  refine xv_iload_n hX 1 dc_MD_integer_2 rfl (rfl : _ = 3) ?_
  refine xv_calli hX (As := [.int (nI 2), .int (nI l)]) (rest := []) (ct_MD_enter _ Y M 2 l hI hl (by decide)) ml_MD_45 li_MD_enter rfl (by decide) rfl rfl rfl (by decide) ⟨by decide, by decide⟩ ⟨Nat.le_refl _, Nat.le_refl _⟩ (Nat.le_of_ble_eq_true rfl) dc_MD_integer_3 (rfl : _ = 6) (fun r3 M3 p3 => ?_)
  obtain ⟨i3, f3, h3⟩ := p3
  have b3 : M3 278 = M 278 := f3.1 278 (by decide)
  rcases h3 with ⟨w3a, w3b, w3c⟩ | ⟨f, e, g3a, g3b, g3c⟩
  · skip
    rw [w3c]
    have w37 := md_w i3 w3a
    refine xv_istore_n hX [1, 2, 0] dc_MD_integer_6 (by decide) (L' := [(0, .ref (Y.2.2.2 277)), (1, .int (nI l)), (2, .int (nI l))]) rfl (rfl : _ = 7) ?_
    refine xv_iload_n hX 2 dc_MD_integer_7 rfl (rfl : _ = 8) ?_
    refine xv_aload_n hX 0 dc_MD_integer_8 rfl (rfl : _ = 9) ?_
    refine xv_geti hX fl_MD_38 rfl rfl (by decide) (v := M3 277 6) rfl dc_MD_integer_9 (rfl : _ = 12) ?_
    refine xv_isub hX dc_MD_integer_12 rfl (rfl : _ = 13) ?_
    refine xv_istore_n hX [1, 2, 3, 0] dc_MD_integer_13 (by decide) (L' := [(0, .ref (Y.2.2.2 277)), (1, .int (nI l)), (2, .int (nI l)), (3, .int (nI l - nI (M3 277 6)))]) rfl (rfl : _ = 14) ?_
    refine xv_aload_n hX 0 dc_MD_integer_14 rfl (rfl : _ = 15) ?_
    refine xv_geti hX fl_MD_34 rfl rfl (by decide) (v := 1) w37 dc_MD_integer_15 (rfl : _ = 18) ?_
    refine xv_if_ne hX (show (nI 1).toInt = 1 by decide) (tgt := 79) (pq := 21) dc_MD_integer_18 (by decide) rfl (fun c18 => ?_) (fun c18 => ?_)
    · skip
      refine xv_aload_n hX 0 dc_MD_integer_79 rfl (rfl : _ = 80) ?_
      refine xv_iconst hX (v := nI 1) dc_MD_integer_80 (by decide) (rfl : _ = 81) ?_
      refine xv_putz hX fl_MD_34 rfl rfl (by decide) (by decide) dc_MD_integer_81 (rfl : _ = 84) ?_
      refine xv_iconst hX (v := nI 0) dc_MD_integer_84 (by decide) (rfl : _ = 85) ?_
      refine xv_reti hX hR rfl dc_MD_integer_85 ?_
      have hk6 := i3.1
      obtain ⟨a1, a2, a3⟩ := md_done (M := M3) (M' := xm_set M3 277 7 1) (v := M3 277 6) (w := 1) (xm_nk (by decide)) xm_eq (fun q a => by simp only [xm_oth a]) (fun j a b => by simp only [xm_nk b]) i3 hk6 (by decide)
      exact ⟨a1, f3.tr a2, 0, rfl, by decide, Or.inl ⟨a3.trans (if_neg (by decide)), mo_int0 w3b⟩⟩
    · skip
      exact absurd c18 (by decide)
  · skip
    rw [g3c]
    obtain ⟨g37, g36⟩ := md_g g3b
    obtain ⟨g3fe, g3el, -⟩ := mo_hd_some g3a
    refine xv_istore_n hX [1, 2, 0] dc_MD_integer_6 (by decide) (L' := [(0, .ref (Y.2.2.2 277)), (1, .int (nI l)), (2, .int (nI e))]) rfl (rfl : _ = 7) ?_
    refine xv_iload_n hX 2 dc_MD_integer_7 rfl (rfl : _ = 8) ?_
    refine xv_aload_n hX 0 dc_MD_integer_8 rfl (rfl : _ = 9) ?_
    refine xv_geti hX fl_MD_38 rfl rfl (by decide) (v := f) g36 dc_MD_integer_9 (rfl : _ = 12) ?_
    refine xv_isub hX dc_MD_integer_12 (pk_sub (by omega)) (rfl : _ = 13) ?_
    refine xv_istore_n hX [1, 2, 3, 0] dc_MD_integer_13 (by decide) (L' := [(0, .ref (Y.2.2.2 277)), (1, .int (nI l)), (2, .int (nI e)), (3, .int (nI (e - f)))]) rfl (rfl : _ = 14) ?_
    refine xv_aload_n hX 0 dc_MD_integer_14 rfl (rfl : _ = 15) ?_
    refine xv_geti hX fl_MD_34 rfl rfl (by decide) (v := 0) g37 dc_MD_integer_15 (rfl : _ = 18) ?_
    refine xv_if_ne hX (show (nI 0).toInt = 0 by decide) (tgt := 79) (pq := 21) dc_MD_integer_18 (by decide) rfl (fun c18 => ?_) (fun c18 => ?_)
    · skip
      exact absurd c18 (by decide)
    · skip
      refine xv_iload_n hX 3 dc_MD_integer_21 rfl (rfl : _ = 22) ?_
      refine xv_iconst hX (v := nI 1) dc_MD_integer_22 (by decide) (rfl : _ = 23) ?_
      refine xv_icmp_lt hX (nI_toInt (by omega)) (show (nI 1).toInt = 1 by decide) (tgt := 79) (pq := 26) dc_MD_integer_23 (by decide) rfl (fun c23 => ?_) (fun c23 => ?_)
      · skip
        refine xv_aload_n hX 0 dc_MD_integer_79 rfl (rfl : _ = 80) ?_
        refine xv_iconst hX (v := nI 1) dc_MD_integer_80 (by decide) (rfl : _ = 81) ?_
        refine xv_putz hX fl_MD_34 rfl rfl (by decide) (by decide) dc_MD_integer_81 (rfl : _ = 84) ?_
        refine xv_iconst hX (v := nI 0) dc_MD_integer_84 (by decide) (rfl : _ = 85) ?_
        refine xv_reti hX hR rfl dc_MD_integer_85 ?_
        have hJ := mo_int1 g3a
        rw [if_neg (by omega)] at hJ
        obtain ⟨a1, a2, a3⟩ := md_done (M := M3) (M' := xm_set M3 277 7 1) (v := f) (w := 1) ((xm_nk (by decide)).trans g36) xm_eq (fun q a => by simp only [xm_oth a]) (fun j a b => by simp only [xm_nk b]) i3 (by omega) (by decide)
        exact ⟨a1, f3.tr a2, 0, rfl, by decide, Or.inl ⟨a3.trans (if_neg (by decide)), hJ⟩⟩
      · skip
        refine xv_iload_n hX 3 dc_MD_integer_26 rfl (rfl : _ = 27) ?_
        refine xv_iconst hX (v := nI 4) dc_MD_integer_27 (by decide) (rfl : _ = 28) ?_
        refine xv_icmp_gt hX (nI_toInt (by omega)) (show (nI 4).toInt = 4 by decide) (tgt := 79) (pq := 31) dc_MD_integer_28 (by decide) rfl (fun c28 => ?_) (fun c28 => ?_)
        · skip
          refine xv_aload_n hX 0 dc_MD_integer_79 rfl (rfl : _ = 80) ?_
          refine xv_iconst hX (v := nI 1) dc_MD_integer_80 (by decide) (rfl : _ = 81) ?_
          refine xv_putz hX fl_MD_34 rfl rfl (by decide) (by decide) dc_MD_integer_81 (rfl : _ = 84) ?_
          refine xv_iconst hX (v := nI 0) dc_MD_integer_84 (by decide) (rfl : _ = 85) ?_
          refine xv_reti hX hR rfl dc_MD_integer_85 ?_
          have hJ := mo_int1 g3a
          rw [if_neg (by omega)] at hJ
          obtain ⟨a1, a2, a3⟩ := md_done (M := M3) (M' := xm_set M3 277 7 1) (v := f) (w := 1) ((xm_nk (by decide)).trans g36) xm_eq (fun q a => by simp only [xm_oth a]) (fun j a b => by simp only [xm_nk b]) i3 (by omega) (by decide)
          exact ⟨a1, f3.tr a2, 0, rfl, by decide, Or.inl ⟨a3.trans (if_neg (by decide)), hJ⟩⟩
        · skip
          have hd0 : M3 278 f = M 278 f := by rw [b3]
          have hb0 := k8 f (by omega)
          refine xv_aload_n hX 0 dc_MD_integer_31 rfl (rfl : _ = 32) ?_
          refine xv_getr hX fl_MD_7 rfl rfl (by decide) rfl dc_MD_integer_32 (rfl : _ = 35) ?_
          refine xv_aload_n hX 0 dc_MD_integer_35 rfl (rfl : _ = 36) ?_
          refine xv_geti hX fl_MD_38 rfl rfl (by decide) (v := f) g36 dc_MD_integer_36 (rfl : _ = 39) ?_
          refine xv_iald hX rfl (by decide) (by omega) (by decide) (v := M 278 f) hd0 dc_MD_integer_39 (rfl : _ = 40) ?_
          refine xv_bipush hX (v := nI 127) dc_MD_integer_40 (by decide) (rfl : _ = 42) ?_
          refine xv_icmp_gt hX (nI_toInt (by omega)) (show (nI 127).toInt = 127 by decide) (tgt := 79) (pq := 45) dc_MD_integer_42 (by decide) rfl (fun c42 => ?_) (fun c42 => ?_)
          · skip
            refine xv_aload_n hX 0 dc_MD_integer_79 rfl (rfl : _ = 80) ?_
            refine xv_iconst hX (v := nI 1) dc_MD_integer_80 (by decide) (rfl : _ = 81) ?_
            refine xv_putz hX fl_MD_34 rfl rfl (by decide) (by decide) dc_MD_integer_81 (rfl : _ = 84) ?_
            refine xv_iconst hX (v := nI 0) dc_MD_integer_84 (by decide) (rfl : _ = 85) ?_
            refine xv_reti hX hR rfl dc_MD_integer_85 ?_
            have hJ := mo_int1 g3a
            rw [if_neg (by omega)] at hJ
            obtain ⟨a1, a2, a3⟩ := md_done (M := M3) (M' := xm_set M3 277 7 1) (v := f) (w := 1) ((xm_nk (by decide)).trans g36) xm_eq (fun q a => by simp only [xm_oth a]) (fun j a b => by simp only [xm_nk b]) i3 (by omega) (by decide)
            exact ⟨a1, f3.tr a2, 0, rfl, by decide, Or.inl ⟨a3.trans (if_neg (by decide)), hJ⟩⟩
          · skip
            refine xv_iload_n hX 3 dc_MD_integer_45 rfl (rfl : _ = 46) ?_
            refine xv_iconst hX (v := nI 1) dc_MD_integer_46 (by decide) (rfl : _ = 47) ?_
            refine xv_icmp_le hX (nI_toInt (by omega)) (show (nI 1).toInt = 1 by decide) (tgt := 86) (pq := 50) dc_MD_integer_47 (by decide) rfl (fun c47 => ?_) (fun c47 => ?_)
            · skip
              refine xv_iconst hX (v := nI 0) dc_MD_integer_86 (by decide) (rfl : _ = 87) ?_
              refine xv_istore hX [1, 2, 3, 4, 0] dc_MD_integer_87 (by decide) (L' := [(0, .ref (Y.2.2.2 277)), (1, .int (nI l)), (2, .int (nI e)), (3, .int (nI (e - f))), (4, .int (nI 0))]) rfl (rfl : _ = 89) ?_
              refine xv_iconst hX (v := nI 0) dc_MD_integer_89 (by decide) (rfl : _ = 90) ?_
              refine xv_istore hX [1, 2, 3, 4, 5, 0] dc_MD_integer_90 (by decide) (L' := [(0, .ref (Y.2.2.2 277)), (1, .int (nI l)), (2, .int (nI e)), (3, .int (nI (e - f))), (4, .int (nI 0)), (5, .int (nI 0))]) rfl (rfl : _ = 92) ?_
              have lp92 : ∀ (fu92 : Nat) (Mk : xm_M) (k : Nat) (hk : k ≤ e - f) (h6 : Mk 277 6 = f + k) (h7 : Mk 277 7 = 0) (hF : md_F M Mk), e - f - k < fu92 → xv_V X Y 6 0 0 xw_lk xw_N Mk 92 [(0, .ref (Y.2.2.2 277)), (1, .int (nI l)), (2, .int (nI e)), (3, .int (nI (e - f))), (4, .int (nI (ps_be (M 278) f k))), (5, .int (nI k))] [] := by
                intro n92
                induction n92 with
                | zero => intro Mk k hk h6 h7 hF hm92; exact absurd hm92 (Nat.not_lt_zero _)
                | succ n92 ih92 =>
                  intro Mk k hk h6 h7 hF hm92
                  refine xv_iload hX 5 dc_MD_integer_92 rfl (rfl : _ = 94) ?_
                  refine xv_iload_n hX 3 dc_MD_integer_94 rfl (rfl : _ = 95) ?_
                  refine xv_icmp_ge hX (nI_toInt (by omega)) (nI_toInt (by omega)) (tgt := 132) (pq := 98) dc_MD_integer_95 (by decide) rfl (fun c95 => ?_) (fun c95 => ?_)
                  · skip
                    refine xv_iload hX 4 dc_MD_integer_132 rfl (rfl : _ = 134) ?_
                    refine xv_reti hX hR rfl dc_MD_integer_134 ?_
                    have hJ := mo_int1 g3a
                    rw [if_pos (by omega)] at hJ
                    obtain ⟨a1, a2, a3⟩ := md_done (M := M) (M' := Mk) (v := f + k) (w := 0) h6 h7 hF.1 hF.2 hI (by omega) (by decide)
                    rw [show k = e - f by omega]
                    exact ⟨a1, a2, ps_be (M 278) f (e - f), rfl, ps_be_lt2 (fun j hj => k8 _ (by omega)) (by omega) (by omega) (by omega), Or.inr ⟨_, e, hJ, by rw [a3, if_pos rfl, show f + k = e by omega], rfl⟩⟩
                  · skip
                    have bk : Mk 278 = M 278 := hF.1 278 (by decide)
                    have hbk : Mk 278 (f + k) = M 278 (f + k) := by rw [bk]
                    refine xv_sipush hX (v := nI 256) dc_MD_integer_98 (by decide) (rfl : _ = 101) ?_
                    refine xv_iload hX 4 dc_MD_integer_101 rfl (rfl : _ = 103) ?_
                    refine xv_imul hX dc_MD_integer_103 (pk_mul 256 (ps_be (M 278) f k)) (rfl : _ = 104) ?_
                    refine xv_aload_n hX 0 dc_MD_integer_104 rfl (rfl : _ = 105) ?_
                    refine xv_getr hX fl_MD_7 rfl rfl (by decide) rfl dc_MD_integer_105 (rfl : _ = 108) ?_
                    refine xv_aload_n hX 0 dc_MD_integer_108 rfl (rfl : _ = 109) ?_
                    refine xv_geti hX fl_MD_38 rfl rfl (by decide) (v := f + k) h6 dc_MD_integer_109 (rfl : _ = 112) ?_
                    refine xv_iald hX rfl (by decide) (by omega) (by decide) (v := M 278 (f + k)) hbk dc_MD_integer_112 (rfl : _ = 113) ?_
                    refine xv_iadd hX dc_MD_integer_113 (nI_add (256 * (ps_be (M 278) f k)) (M 278 (f + k))) (rfl : _ = 114) ?_
                    refine xv_istore hX [1, 2, 3, 4, 0, 5] dc_MD_integer_114 (by decide) (L' := [(0, .ref (Y.2.2.2 277)), (1, .int (nI l)), (2, .int (nI e)), (3, .int (nI (e - f))), (4, .int (nI ((256 * (ps_be (M 278) f k)) + (M 278 (f + k))))), (5, .int (nI k))]) rfl (rfl : _ = 116) ?_
                    refine xv_aload_n hX 0 dc_MD_integer_116 rfl (rfl : _ = 117) ?_
                    refine xv_aload_n hX 0 dc_MD_integer_117 rfl (rfl : _ = 118) ?_
                    refine xv_geti hX fl_MD_38 rfl rfl (by decide) (v := f + k) h6 dc_MD_integer_118 (rfl : _ = 121) ?_
                    refine xv_iconst hX (v := nI 1) dc_MD_integer_121 (by decide) (rfl : _ = 122) ?_
                    refine xv_iadd hX dc_MD_integer_122 (nI_add (f + k) 1) (rfl : _ = 123) ?_
                    refine xv_puti hX fl_MD_38 rfl rfl (by decide) dc_MD_integer_123 (rfl : _ = 126) ?_
                    refine xv_iinc hX 5 [1, 2, 3, 4, 5, 0] dc_MD_integer_126 rfl (xi_inc k 1) (by decide) (L' := [(0, .ref (Y.2.2.2 277)), (1, .int (nI l)), (2, .int (nI e)), (3, .int (nI (e - f))), (4, .int (nI ((256 * (ps_be (M 278) f k)) + (M 278 (f + k))))), (5, .int (nI (k + 1)))]) rfl (rfl : _ = 129) ?_
                    refine xv_goto hX (pq := 92) dc_MD_integer_129 (by decide) ?_
                    refine xv_sub (L' := [(0, .ref (Y.2.2.2 277)), (1, .int (nI l)), (2, .int (nI e)), (3, .int (nI (e - f))), (4, .int (nI ((256 * (ps_be (M 278) f k)) + (M 278 (f + k))))), (5, .int (nI (k + 1)))]) [0, 1, 2, 3, 4, 5] rfl ?_
                    exact ih92 (xm_set Mk 277 6 (f + k + 1)) (k + 1) (by omega) xm_eq (by rw [xm_nk (by decide)]; exact h7) ⟨fun q a => by rw [xm_oth a]; exact hF.1 q a, fun j a b => by rw [xm_nk a]; exact hF.2 j a b⟩ (by omega)
              refine xv_sub (L' := [(0, .ref (Y.2.2.2 277)), (1, .int (nI l)), (2, .int (nI e)), (3, .int (nI (e - f))), (4, .int (nI 0)), (5, .int (nI 0))]) [0, 1, 2, 3, 4, 5] rfl ?_
              exact lp92 _ M3 0 (Nat.zero_le _) g36 g37 f3 (Nat.lt_succ_self _)
            · skip
              refine xv_aload_n hX 0 dc_MD_integer_50 rfl (rfl : _ = 51) ?_
              refine xv_getr hX fl_MD_7 rfl rfl (by decide) rfl dc_MD_integer_51 (rfl : _ = 54) ?_
              refine xv_aload_n hX 0 dc_MD_integer_54 rfl (rfl : _ = 55) ?_
              refine xv_geti hX fl_MD_38 rfl rfl (by decide) (v := f) g36 dc_MD_integer_55 (rfl : _ = 58) ?_
              refine xv_iald hX rfl (by decide) (by omega) (by decide) (v := M 278 f) hd0 dc_MD_integer_58 (rfl : _ = 59) ?_
              refine xv_if_ne hX (nI_toInt (by omega)) (tgt := 86) (pq := 62) dc_MD_integer_59 (by decide) rfl (fun c59 => ?_) (fun c59 => ?_)
              · skip
                refine xv_iconst hX (v := nI 0) dc_MD_integer_86 (by decide) (rfl : _ = 87) ?_
                refine xv_istore hX [1, 2, 3, 4, 0] dc_MD_integer_87 (by decide) (L' := [(0, .ref (Y.2.2.2 277)), (1, .int (nI l)), (2, .int (nI e)), (3, .int (nI (e - f))), (4, .int (nI 0))]) rfl (rfl : _ = 89) ?_
                refine xv_iconst hX (v := nI 0) dc_MD_integer_89 (by decide) (rfl : _ = 90) ?_
                refine xv_istore hX [1, 2, 3, 4, 5, 0] dc_MD_integer_90 (by decide) (L' := [(0, .ref (Y.2.2.2 277)), (1, .int (nI l)), (2, .int (nI e)), (3, .int (nI (e - f))), (4, .int (nI 0)), (5, .int (nI 0))]) rfl (rfl : _ = 92) ?_
                have lp92 : ∀ (fu92 : Nat) (Mk : xm_M) (k : Nat) (hk : k ≤ e - f) (h6 : Mk 277 6 = f + k) (h7 : Mk 277 7 = 0) (hF : md_F M Mk), e - f - k < fu92 → xv_V X Y 6 0 0 xw_lk xw_N Mk 92 [(0, .ref (Y.2.2.2 277)), (1, .int (nI l)), (2, .int (nI e)), (3, .int (nI (e - f))), (4, .int (nI (ps_be (M 278) f k))), (5, .int (nI k))] [] := by
                  intro n92
                  induction n92 with
                  | zero => intro Mk k hk h6 h7 hF hm92; exact absurd hm92 (Nat.not_lt_zero _)
                  | succ n92 ih92 =>
                    intro Mk k hk h6 h7 hF hm92
                    refine xv_iload hX 5 dc_MD_integer_92 rfl (rfl : _ = 94) ?_
                    refine xv_iload_n hX 3 dc_MD_integer_94 rfl (rfl : _ = 95) ?_
                    refine xv_icmp_ge hX (nI_toInt (by omega)) (nI_toInt (by omega)) (tgt := 132) (pq := 98) dc_MD_integer_95 (by decide) rfl (fun c95 => ?_) (fun c95 => ?_)
                    · skip
                      refine xv_iload hX 4 dc_MD_integer_132 rfl (rfl : _ = 134) ?_
                      refine xv_reti hX hR rfl dc_MD_integer_134 ?_
                      have hJ := mo_int1 g3a
                      rw [if_pos (by omega)] at hJ
                      obtain ⟨a1, a2, a3⟩ := md_done (M := M) (M' := Mk) (v := f + k) (w := 0) h6 h7 hF.1 hF.2 hI (by omega) (by decide)
                      rw [show k = e - f by omega]
                      exact ⟨a1, a2, ps_be (M 278) f (e - f), rfl, ps_be_lt2 (fun j hj => k8 _ (by omega)) (by omega) (by omega) (by omega), Or.inr ⟨_, e, hJ, by rw [a3, if_pos rfl, show f + k = e by omega], rfl⟩⟩
                    · skip
                      have bk : Mk 278 = M 278 := hF.1 278 (by decide)
                      have hbk : Mk 278 (f + k) = M 278 (f + k) := by rw [bk]
                      refine xv_sipush hX (v := nI 256) dc_MD_integer_98 (by decide) (rfl : _ = 101) ?_
                      refine xv_iload hX 4 dc_MD_integer_101 rfl (rfl : _ = 103) ?_
                      refine xv_imul hX dc_MD_integer_103 (pk_mul 256 (ps_be (M 278) f k)) (rfl : _ = 104) ?_
                      refine xv_aload_n hX 0 dc_MD_integer_104 rfl (rfl : _ = 105) ?_
                      refine xv_getr hX fl_MD_7 rfl rfl (by decide) rfl dc_MD_integer_105 (rfl : _ = 108) ?_
                      refine xv_aload_n hX 0 dc_MD_integer_108 rfl (rfl : _ = 109) ?_
                      refine xv_geti hX fl_MD_38 rfl rfl (by decide) (v := f + k) h6 dc_MD_integer_109 (rfl : _ = 112) ?_
                      refine xv_iald hX rfl (by decide) (by omega) (by decide) (v := M 278 (f + k)) hbk dc_MD_integer_112 (rfl : _ = 113) ?_
                      refine xv_iadd hX dc_MD_integer_113 (nI_add (256 * (ps_be (M 278) f k)) (M 278 (f + k))) (rfl : _ = 114) ?_
                      refine xv_istore hX [1, 2, 3, 4, 0, 5] dc_MD_integer_114 (by decide) (L' := [(0, .ref (Y.2.2.2 277)), (1, .int (nI l)), (2, .int (nI e)), (3, .int (nI (e - f))), (4, .int (nI ((256 * (ps_be (M 278) f k)) + (M 278 (f + k))))), (5, .int (nI k))]) rfl (rfl : _ = 116) ?_
                      refine xv_aload_n hX 0 dc_MD_integer_116 rfl (rfl : _ = 117) ?_
                      refine xv_aload_n hX 0 dc_MD_integer_117 rfl (rfl : _ = 118) ?_
                      refine xv_geti hX fl_MD_38 rfl rfl (by decide) (v := f + k) h6 dc_MD_integer_118 (rfl : _ = 121) ?_
                      refine xv_iconst hX (v := nI 1) dc_MD_integer_121 (by decide) (rfl : _ = 122) ?_
                      refine xv_iadd hX dc_MD_integer_122 (nI_add (f + k) 1) (rfl : _ = 123) ?_
                      refine xv_puti hX fl_MD_38 rfl rfl (by decide) dc_MD_integer_123 (rfl : _ = 126) ?_
                      refine xv_iinc hX 5 [1, 2, 3, 4, 5, 0] dc_MD_integer_126 rfl (xi_inc k 1) (by decide) (L' := [(0, .ref (Y.2.2.2 277)), (1, .int (nI l)), (2, .int (nI e)), (3, .int (nI (e - f))), (4, .int (nI ((256 * (ps_be (M 278) f k)) + (M 278 (f + k))))), (5, .int (nI (k + 1)))]) rfl (rfl : _ = 129) ?_
                      refine xv_goto hX (pq := 92) dc_MD_integer_129 (by decide) ?_
                      refine xv_sub (L' := [(0, .ref (Y.2.2.2 277)), (1, .int (nI l)), (2, .int (nI e)), (3, .int (nI (e - f))), (4, .int (nI ((256 * (ps_be (M 278) f k)) + (M 278 (f + k))))), (5, .int (nI (k + 1)))]) [0, 1, 2, 3, 4, 5] rfl ?_
                      exact ih92 (xm_set Mk 277 6 (f + k + 1)) (k + 1) (by omega) xm_eq (by rw [xm_nk (by decide)]; exact h7) ⟨fun q a => by rw [xm_oth a]; exact hF.1 q a, fun j a b => by rw [xm_nk a]; exact hF.2 j a b⟩ (by omega)
                refine xv_sub (L' := [(0, .ref (Y.2.2.2 277)), (1, .int (nI l)), (2, .int (nI e)), (3, .int (nI (e - f))), (4, .int (nI 0)), (5, .int (nI 0))]) [0, 1, 2, 3, 4, 5] rfl ?_
                exact lp92 _ M3 0 (Nat.zero_le _) g36 g37 f3 (Nat.lt_succ_self _)
              · skip
                have hd1 : M3 278 (f + 1) = M 278 (f + 1) := by rw [b3]
                have hb1 := k8 (f + 1) (by omega)
                refine xv_aload_n hX 0 dc_MD_integer_62 rfl (rfl : _ = 63) ?_
                refine xv_getr hX fl_MD_7 rfl rfl (by decide) rfl dc_MD_integer_63 (rfl : _ = 66) ?_
                refine xv_aload_n hX 0 dc_MD_integer_66 rfl (rfl : _ = 67) ?_
                refine xv_geti hX fl_MD_38 rfl rfl (by decide) (v := f) g36 dc_MD_integer_67 (rfl : _ = 70) ?_
                refine xv_iconst hX (v := nI 1) dc_MD_integer_70 (by decide) (rfl : _ = 71) ?_
                refine xv_iadd hX dc_MD_integer_71 (nI_add f 1) (rfl : _ = 72) ?_
                refine xv_iald hX rfl (by decide) (by omega) (by decide) (v := M 278 (f + 1)) hd1 dc_MD_integer_72 (rfl : _ = 73) ?_
                refine xv_sipush hX (v := nI 128) dc_MD_integer_73 (by decide) (rfl : _ = 76) ?_
                refine xv_icmp_ge hX (nI_toInt (by omega)) (show (nI 128).toInt = 128 by decide) (tgt := 86) (pq := 79) dc_MD_integer_76 (by decide) rfl (fun c76 => ?_) (fun c76 => ?_)
                · skip
                  refine xv_iconst hX (v := nI 0) dc_MD_integer_86 (by decide) (rfl : _ = 87) ?_
                  refine xv_istore hX [1, 2, 3, 4, 0] dc_MD_integer_87 (by decide) (L' := [(0, .ref (Y.2.2.2 277)), (1, .int (nI l)), (2, .int (nI e)), (3, .int (nI (e - f))), (4, .int (nI 0))]) rfl (rfl : _ = 89) ?_
                  refine xv_iconst hX (v := nI 0) dc_MD_integer_89 (by decide) (rfl : _ = 90) ?_
                  refine xv_istore hX [1, 2, 3, 4, 5, 0] dc_MD_integer_90 (by decide) (L' := [(0, .ref (Y.2.2.2 277)), (1, .int (nI l)), (2, .int (nI e)), (3, .int (nI (e - f))), (4, .int (nI 0)), (5, .int (nI 0))]) rfl (rfl : _ = 92) ?_
                  have lp92 : ∀ (fu92 : Nat) (Mk : xm_M) (k : Nat) (hk : k ≤ e - f) (h6 : Mk 277 6 = f + k) (h7 : Mk 277 7 = 0) (hF : md_F M Mk), e - f - k < fu92 → xv_V X Y 6 0 0 xw_lk xw_N Mk 92 [(0, .ref (Y.2.2.2 277)), (1, .int (nI l)), (2, .int (nI e)), (3, .int (nI (e - f))), (4, .int (nI (ps_be (M 278) f k))), (5, .int (nI k))] [] := by
                    intro n92
                    induction n92 with
                    | zero => intro Mk k hk h6 h7 hF hm92; exact absurd hm92 (Nat.not_lt_zero _)
                    | succ n92 ih92 =>
                      intro Mk k hk h6 h7 hF hm92
                      refine xv_iload hX 5 dc_MD_integer_92 rfl (rfl : _ = 94) ?_
                      refine xv_iload_n hX 3 dc_MD_integer_94 rfl (rfl : _ = 95) ?_
                      refine xv_icmp_ge hX (nI_toInt (by omega)) (nI_toInt (by omega)) (tgt := 132) (pq := 98) dc_MD_integer_95 (by decide) rfl (fun c95 => ?_) (fun c95 => ?_)
                      · skip
                        refine xv_iload hX 4 dc_MD_integer_132 rfl (rfl : _ = 134) ?_
                        refine xv_reti hX hR rfl dc_MD_integer_134 ?_
                        have hJ := mo_int1 g3a
                        rw [if_pos (by omega)] at hJ
                        obtain ⟨a1, a2, a3⟩ := md_done (M := M) (M' := Mk) (v := f + k) (w := 0) h6 h7 hF.1 hF.2 hI (by omega) (by decide)
                        rw [show k = e - f by omega]
                        exact ⟨a1, a2, ps_be (M 278) f (e - f), rfl, ps_be_lt2 (fun j hj => k8 _ (by omega)) (by omega) (by omega) (by omega), Or.inr ⟨_, e, hJ, by rw [a3, if_pos rfl, show f + k = e by omega], rfl⟩⟩
                      · skip
                        have bk : Mk 278 = M 278 := hF.1 278 (by decide)
                        have hbk : Mk 278 (f + k) = M 278 (f + k) := by rw [bk]
                        refine xv_sipush hX (v := nI 256) dc_MD_integer_98 (by decide) (rfl : _ = 101) ?_
                        refine xv_iload hX 4 dc_MD_integer_101 rfl (rfl : _ = 103) ?_
                        refine xv_imul hX dc_MD_integer_103 (pk_mul 256 (ps_be (M 278) f k)) (rfl : _ = 104) ?_
                        refine xv_aload_n hX 0 dc_MD_integer_104 rfl (rfl : _ = 105) ?_
                        refine xv_getr hX fl_MD_7 rfl rfl (by decide) rfl dc_MD_integer_105 (rfl : _ = 108) ?_
                        refine xv_aload_n hX 0 dc_MD_integer_108 rfl (rfl : _ = 109) ?_
                        refine xv_geti hX fl_MD_38 rfl rfl (by decide) (v := f + k) h6 dc_MD_integer_109 (rfl : _ = 112) ?_
                        refine xv_iald hX rfl (by decide) (by omega) (by decide) (v := M 278 (f + k)) hbk dc_MD_integer_112 (rfl : _ = 113) ?_
                        refine xv_iadd hX dc_MD_integer_113 (nI_add (256 * (ps_be (M 278) f k)) (M 278 (f + k))) (rfl : _ = 114) ?_
                        refine xv_istore hX [1, 2, 3, 4, 0, 5] dc_MD_integer_114 (by decide) (L' := [(0, .ref (Y.2.2.2 277)), (1, .int (nI l)), (2, .int (nI e)), (3, .int (nI (e - f))), (4, .int (nI ((256 * (ps_be (M 278) f k)) + (M 278 (f + k))))), (5, .int (nI k))]) rfl (rfl : _ = 116) ?_
                        refine xv_aload_n hX 0 dc_MD_integer_116 rfl (rfl : _ = 117) ?_
                        refine xv_aload_n hX 0 dc_MD_integer_117 rfl (rfl : _ = 118) ?_
                        refine xv_geti hX fl_MD_38 rfl rfl (by decide) (v := f + k) h6 dc_MD_integer_118 (rfl : _ = 121) ?_
                        refine xv_iconst hX (v := nI 1) dc_MD_integer_121 (by decide) (rfl : _ = 122) ?_
                        refine xv_iadd hX dc_MD_integer_122 (nI_add (f + k) 1) (rfl : _ = 123) ?_
                        refine xv_puti hX fl_MD_38 rfl rfl (by decide) dc_MD_integer_123 (rfl : _ = 126) ?_
                        refine xv_iinc hX 5 [1, 2, 3, 4, 5, 0] dc_MD_integer_126 rfl (xi_inc k 1) (by decide) (L' := [(0, .ref (Y.2.2.2 277)), (1, .int (nI l)), (2, .int (nI e)), (3, .int (nI (e - f))), (4, .int (nI ((256 * (ps_be (M 278) f k)) + (M 278 (f + k))))), (5, .int (nI (k + 1)))]) rfl (rfl : _ = 129) ?_
                        refine xv_goto hX (pq := 92) dc_MD_integer_129 (by decide) ?_
                        refine xv_sub (L' := [(0, .ref (Y.2.2.2 277)), (1, .int (nI l)), (2, .int (nI e)), (3, .int (nI (e - f))), (4, .int (nI ((256 * (ps_be (M 278) f k)) + (M 278 (f + k))))), (5, .int (nI (k + 1)))]) [0, 1, 2, 3, 4, 5] rfl ?_
                        exact ih92 (xm_set Mk 277 6 (f + k + 1)) (k + 1) (by omega) xm_eq (by rw [xm_nk (by decide)]; exact h7) ⟨fun q a => by rw [xm_oth a]; exact hF.1 q a, fun j a b => by rw [xm_nk a]; exact hF.2 j a b⟩ (by omega)
                  refine xv_sub (L' := [(0, .ref (Y.2.2.2 277)), (1, .int (nI l)), (2, .int (nI e)), (3, .int (nI (e - f))), (4, .int (nI 0)), (5, .int (nI 0))]) [0, 1, 2, 3, 4, 5] rfl ?_
                  exact lp92 _ M3 0 (Nat.zero_le _) g36 g37 f3 (Nat.lt_succ_self _)
                · skip
                  refine xv_aload_n hX 0 dc_MD_integer_79 rfl (rfl : _ = 80) ?_
                  refine xv_iconst hX (v := nI 1) dc_MD_integer_80 (by decide) (rfl : _ = 81) ?_
                  refine xv_putz hX fl_MD_34 rfl rfl (by decide) (by decide) dc_MD_integer_81 (rfl : _ = 84) ?_
                  refine xv_iconst hX (v := nI 0) dc_MD_integer_84 (by decide) (rfl : _ = 85) ?_
                  refine xv_reti hX hR rfl dc_MD_integer_85 ?_
                  have hJ := mo_int1 g3a
                  rw [if_neg (by omega)] at hJ
                  obtain ⟨a1, a2, a3⟩ := md_done (M := M3) (M' := xm_set M3 277 7 1) (v := f) (w := 1) ((xm_nk (by decide)).trans g36) xm_eq (fun q a => by simp only [xm_oth a]) (fun j a b => by simp only [xm_nk b]) i3 (by omega) (by decide)
                  exact ⟨a1, f3.tr a2, 0, rfl, by decide, Or.inl ⟨a3.trans (if_neg (by decide)), hJ⟩⟩
