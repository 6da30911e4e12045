/-! Reader: INTEGER and TRUE -/
set_option maxRecDepth 100000 in
set_option maxHeartbeats 4000000 in
theorem ct_RD_readInteger (l : Launch) (Y : xw_Y) (M : xm_M) (lo hi : Nat) (hI : rd_I M) (hlo : lo ≤ hi) (hhi : hi < 2 ^ 31) : xc_i l qm_RD_readInteger 1 Y [.ref (Y.2.2.2 1), .int (nI lo), .int (nI hi)] M (fun r M1 => rd_Q M M1 (rd_int (M 3) lo hi (rd_of M)).1 ∧ ∃ w, r = nI w ∧ lo ≤ w ∧ w ≤ hi ∧ ((rd_int (M 3) lo hi (rd_of M)).1 ≠ none → w = (rd_int (M 3) lo hi (rd_of M)).2)) := by
  refine xc_i.mk .int rfl (by decide) (Nat.le_of_ble_eq_true rfl) ?_
  intro X hXl hX hR
  subst hXl
  have hX : xv_ok X Y prog_7_method_11_code "CertificatePath$Reader" 8 (xc_rm 1) := hX
  show xv_V X Y 8 0 0 xw_lk xw_N M 0 [(0, .ref (Y.2.2.2 1)), (1, .int (nI lo)), (2, .int (nI hi))] []
  refine xv_aload_n hX 0 dc_RD_readInteger_0 rfl (rfl : _ = 1) ?_
  refine xv_iconst hX (v := nI 2) dc_RD_readInteger_1 (by decide) (rfl : _ = 2) ?_
  refine xv_callv hX (As := [.int (nI 2)]) (rest := []) (ct_RD_open _ Y M 2 hI (by decide)) ml_RD_43 li_RD_open rfl (by decide) rfl rfl rfl (by decide) ⟨by decide, by decide⟩ ⟨Nat.le_refl _, Nat.le_refl _⟩ (Nat.le_of_ble_eq_true rfl) dc_RD_readInteger_2 (rfl : _ = 5) (fun M2 p2 => ?_)
  obtain ⟨i2, f2, e2⟩ := p2
  have b2 : M2 3 = M 3 := f2 3 (by decide) (by decide)
  have hn := rd_rem_le i2
  refine xv_aload_n hX 0 dc_RD_readInteger_5 rfl (rfl : _ = 6) ?_
  refine xv_calli hX (As := []) (rest := []) (ct_RD_remaining _ Y M2 i2) ml_RD_47 li_RD_remaining rfl (by decide) rfl rfl rfl (by decide) ⟨by decide, by decide⟩ ⟨Nat.le_refl _, Nat.le_refl _⟩ (Nat.le_of_ble_eq_true rfl) dc_RD_readInteger_6 (rfl : _ = 9) (fun r6 M6 p6 => ?_)
  rw [p6.1, p6.2]
  refine xv_istore_n hX [1, 2, 3, 0] dc_RD_readInteger_9 (by decide) (L' := [(0, .ref (Y.2.2.2 1)), (1, .int (nI lo)), (2, .int (nI hi)), (3, .int (nI (rd_rem (rd_of M2))))]) rfl (rfl : _ = 10) ?_
  refine xv_iload_n hX 3 dc_RD_readInteger_10 rfl (rfl : _ = 11) ?_
  refine xv_iconst hX (v := nI 1) dc_RD_readInteger_11 (by decide) (rfl : _ = 12) ?_
  refine xv_icmp_lt hX (nI_toInt (by omega)) (show (nI 1).toInt = 1 by decide) (tgt := 20) (pq := 15) dc_RD_readInteger_12 (by decide) rfl (fun c12 => ?_) (fun c12 => ?_)
  · skip
    refine xv_aload_n hX 0 dc_RD_readInteger_20 rfl (rfl : _ = 21) ?_
    refine xv_callv hX (As := []) (rest := []) (ct_RD_refuse _ Y M2 i2) ml_RD_51 li_RD_refuse rfl (by decide) rfl rfl rfl (by decide) ⟨by decide, by decide⟩ ⟨Nat.le_refl _, Nat.le_refl _⟩ (Nat.le_of_ble_eq_true rfl) dc_RD_readInteger_21 (rfl : _ = 24) (fun M21 p21 => ?_)
    obtain ⟨i21, f21, e21⟩ := p21
    refine xv_iload_n hX 1 dc_RD_readInteger_24 rfl (rfl : _ = 25) ?_
    refine xv_reti hX hR rfl dc_RD_readInteger_25 ?_
    have hA := rd_intA (lo := lo) (hi := hi) (show ¬ (1 ≤ rd_rem (rd_open (M 3) 2 (rd_of M)) ∧ rd_rem (rd_open (M 3) 2 (rd_of M)) ≤ 4) by rw [← e2]; omega)
    rw [hA]
    exact ⟨⟨i21, f2.tr f21, e21⟩, lo, rfl, Nat.le_refl _, hlo, fun h => absurd rfl h⟩
  · skip
    refine xv_iload_n hX 3 dc_RD_readInteger_15 rfl (rfl : _ = 16) ?_
    refine xv_iconst hX (v := nI 4) dc_RD_readInteger_16 (by decide) (rfl : _ = 17) ?_
    refine xv_icmp_le hX (nI_toInt (by omega)) (show (nI 4).toInt = 4 by decide) (tgt := 26) (pq := 20) dc_RD_readInteger_17 (by decide) rfl (fun c17 => ?_) (fun c17 => ?_)
    · skip
      obtain ⟨f, e, ls, hs1, hn1⟩ := rd_remP (show 1 ≤ rd_rem (rd_of M2) by omega)
      have hop : rd_open (M 3) 2 (rd_of M) = some (f, e :: ls) := by rw [← e2]; exact hs1
      obtain ⟨m, ls, rfl⟩ : ∃ m ms, ls = m :: ms := by obtain ⟨_, _, l, ls9, _, _, _, h9⟩ := rd_openI hop; simp only [List.cons.injEq] at h9; exact ⟨l, ls9, h9.2⟩
      refine xv_aload_n hX 0 dc_RD_readInteger_26 rfl (rfl : _ = 27) ?_
      refine xv_calli hX (As := []) (rest := []) (ct_RD_readByte _ Y M2 i2) ml_RD_54 li_RD_readByte rfl (by decide) rfl rfl rfl (by decide) ⟨by decide, by decide⟩ ⟨Nat.le_refl _, Nat.le_refl _⟩ (Nat.le_of_ble_eq_true rfl) dc_RD_readInteger_27 (rfl : _ = 30) (fun r27 M27 p27 => ?_)
      obtain ⟨⟨i27, f27, e27⟩, z27⟩ := p27
      have z : rd_byte (M2 3) (rd_of M2) = M 3 f := by rw [hs1, b2]; exact if_pos (by omega)
      rw [z27, z]
      have hb0 : M 3 f < 256 := by have h := rd_byte_lt i2; rw [z] at h; exact h
      refine xv_istore hX [1, 2, 3, 4, 0] dc_RD_readInteger_30 (by decide) (L' := [(0, .ref (Y.2.2.2 1)), (1, .int (nI lo)), (2, .int (nI hi)), (3, .int (nI (rd_rem (rd_of M2)))), (4, .int (nI (M 3 f)))]) rfl (rfl : _ = 32) ?_
      refine xv_iload hX 4 dc_RD_readInteger_32 rfl (rfl : _ = 34) ?_
      refine xv_istore hX [1, 2, 3, 4, 5, 0] dc_RD_readInteger_34 (by decide) (L' := [(0, .ref (Y.2.2.2 1)), (1, .int (nI lo)), (2, .int (nI hi)), (3, .int (nI (rd_rem (rd_of M2)))), (4, .int (nI (M 3 f))), (5, .int (nI (M 3 f)))]) rfl (rfl : _ = 36) ?_
      refine xv_iconst hX (v := nI 1) dc_RD_readInteger_36 (by decide) (rfl : _ = 37) ?_
      refine xv_istore hX [1, 2, 3, 4, 5, 6, 0] dc_RD_readInteger_37 (by decide) (L' := [(0, .ref (Y.2.2.2 1)), (1, .int (nI lo)), (2, .int (nI hi)), (3, .int (nI (rd_rem (rd_of M2)))), (4, .int (nI (M 3 f))), (5, .int (nI (M 3 f))), (6, .int (nI 1))]) rfl (rfl : _ = 39) ?_
      have lp39 : ∀ (n : Nat) (j : Nat) (Mk : xm_M) (v : Nat) (hj : j + 1 ≤ e - f) (hIk : rd_I Mk) (hF : rd_F M Mk) (he : rd_of Mk = rd_ib (M 3) f e (m :: ls) j) (hv1 : ¬ (1 ≤ j ∧ M 3 f = 0 ∧ M 3 (f + 1) < 128) → v = ps_be (M 3) f (j + 1)) (hv2 : v < (M 3 f + 1) * 256 ^ j), 4 - j < n → xv_V X Y 8 0 0 xw_lk xw_N Mk 39 [(0, .ref (Y.2.2.2 1)), (1, .int (nI lo)), (2, .int (nI hi)), (3, .int (nI (rd_rem (rd_of M2)))), (4, .int (nI (M 3 f))), (5, .int (nI v)), (6, .int (nI (j + 1)))] [] := by
        intro n39
        induction n39 with
        | zero => intro j Mk v hj hIk hF he hv1 hv2 hm39; exact absurd hm39 (Nat.not_lt_zero _)
        | succ n39 ih39 =>
          intro j Mk v hj hIk hF he hv1 hv2 hm39
          refine xv_iload hX 6 dc_RD_readInteger_39 rfl (rfl : _ = 41) ?_
          refine xv_iload_n hX 3 dc_RD_readInteger_41 rfl (rfl : _ = 42) ?_
          refine xv_icmp_ge hX (nI_toInt (by omega)) (nI_toInt (by omega)) (tgt := 90) (pq := 45) dc_RD_readInteger_42 (by decide) rfl (fun c42 => ?_) (fun c42 => ?_)
          · skip
            refine xv_aload_n hX 0 dc_RD_readInteger_90 rfl (rfl : _ = 91) ?_
            refine xv_callv hX (As := []) (rest := []) (ct_RD_close _ Y Mk hIk) ml_RD_57 li_RD_close rfl (by decide) rfl rfl rfl (by decide) ⟨by decide, by decide⟩ ⟨Nat.le_refl _, Nat.le_refl _⟩ (Nat.le_of_ble_eq_true rfl) dc_RD_readInteger_91 (rfl : _ = 94) (fun M91 p91 => ?_)
            obtain ⟨i91, f91, e91⟩ := p91
            have hjn : j + 1 = e - f := by omega
            rw [he, rd_ib_close hjn] at e91
            have hB := rd_intB (lo := lo) (hi := hi) hop ⟨by omega, by omega⟩
            refine xv_iload hX 4 dc_RD_readInteger_94 rfl (rfl : _ = 96) ?_
            refine xv_bipush hX (v := nI 127) dc_RD_readInteger_96 (by decide) (rfl : _ = 98) ?_
            refine xv_icmp_gt hX (nI_toInt (by omega)) (show (nI 127).toInt = 127 by decide) (tgt := 113) (pq := 101) dc_RD_readInteger_98 (by decide) rfl (fun c98 => ?_) (fun c98 => ?_)
            · skip
              refine xv_aload_n hX 0 dc_RD_readInteger_113 rfl (rfl : _ = 114) ?_
              refine xv_callv hX (As := []) (rest := []) (ct_RD_refuse _ Y M91 i91) ml_RD_51 li_RD_refuse rfl (by decide) rfl rfl rfl (by decide) ⟨by decide, by decide⟩ ⟨Nat.le_refl _, Nat.le_refl _⟩ (Nat.le_of_ble_eq_true rfl) dc_RD_readInteger_114 (rfl : _ = 117) (fun M114 p114 => ?_)
              obtain ⟨i114, f114, e114⟩ := p114
              refine xv_iload_n hX 1 dc_RD_readInteger_117 rfl (rfl : _ = 118) ?_
              refine xv_reti hX hR rfl dc_RD_readInteger_118 ?_
              rw [hB, if_neg (by intro z; first | omega | (have hv := hv1 (by omega); rw [hjn] at hv; omega))]
              exact ⟨⟨i114, (hF.tr f91).tr f114, e114⟩, lo, rfl, Nat.le_refl _, hlo, fun h => absurd rfl h⟩
            · skip
              have hv3 := rd_pow4 (show M 3 f ≤ 127 by omega) (show j ≤ 3 by omega) hv2
              refine xv_iload hX 5 dc_RD_readInteger_101 rfl (rfl : _ = 103) ?_
              refine xv_iload_n hX 1 dc_RD_readInteger_103 rfl (rfl : _ = 104) ?_
              refine xv_icmp_lt hX (nI_toInt (by omega)) (nI_toInt (by omega)) (tgt := 113) (pq := 107) dc_RD_readInteger_104 (by decide) rfl (fun c104 => ?_) (fun c104 => ?_)
              · skip
                refine xv_aload_n hX 0 dc_RD_readInteger_113 rfl (rfl : _ = 114) ?_
                refine xv_callv hX (As := []) (rest := []) (ct_RD_refuse _ Y M91 i91) ml_RD_51 li_RD_refuse rfl (by decide) rfl rfl rfl (by decide) ⟨by decide, by decide⟩ ⟨Nat.le_refl _, Nat.le_refl _⟩ (Nat.le_of_ble_eq_true rfl) dc_RD_readInteger_114 (rfl : _ = 117) (fun M114 p114 => ?_)
                obtain ⟨i114, f114, e114⟩ := p114
                refine xv_iload_n hX 1 dc_RD_readInteger_117 rfl (rfl : _ = 118) ?_
                refine xv_reti hX hR rfl dc_RD_readInteger_118 ?_
                rw [hB, if_neg (by intro z; first | omega | (have hv := hv1 (by omega); rw [hjn] at hv; omega))]
                exact ⟨⟨i114, (hF.tr f91).tr f114, e114⟩, lo, rfl, Nat.le_refl _, hlo, fun h => absurd rfl h⟩
              · skip
                refine xv_iload hX 5 dc_RD_readInteger_107 rfl (rfl : _ = 109) ?_
                refine xv_iload_n hX 2 dc_RD_readInteger_109 rfl (rfl : _ = 110) ?_
                refine xv_icmp_le hX (nI_toInt (by omega)) (nI_toInt (by omega)) (tgt := 119) (pq := 113) dc_RD_readInteger_110 (by decide) rfl (fun c110 => ?_) (fun c110 => ?_)
                · skip
                  refine xv_iload hX 5 dc_RD_readInteger_119 rfl (rfl : _ = 121) ?_
                  refine xv_reti hX hR rfl dc_RD_readInteger_121 ?_
                  by_cases hb : 1 < e - f ∧ M 3 f = 0 ∧ M 3 (f + 1) < 128
                  · rw [if_pos hb] at e91
                    rw [hB, if_neg (fun z => z.2.1 hb)]
                    exact ⟨⟨i91, hF.tr f91, e91⟩, v, rfl, by omega, by omega, fun h => absurd rfl h⟩
                  · have hv := hv1 (by omega)
                    rw [hjn] at hv
                    rw [if_neg hb] at e91
                    rw [hB, if_pos ⟨by omega, hb, by omega, by omega⟩]
                    exact ⟨⟨i91, hF.tr f91, e91⟩, v, rfl, by omega, by omega, fun _ => hv⟩
                · skip
                  refine xv_aload_n hX 0 dc_RD_readInteger_113 rfl (rfl : _ = 114) ?_
                  refine xv_callv hX (As := []) (rest := []) (ct_RD_refuse _ Y M91 i91) ml_RD_51 li_RD_refuse rfl (by decide) rfl rfl rfl (by decide) ⟨by decide, by decide⟩ ⟨Nat.le_refl _, Nat.le_refl _⟩ (Nat.le_of_ble_eq_true rfl) dc_RD_readInteger_114 (rfl : _ = 117) (fun M114 p114 => ?_)
                  obtain ⟨i114, f114, e114⟩ := p114
                  refine xv_iload_n hX 1 dc_RD_readInteger_117 rfl (rfl : _ = 118) ?_
                  refine xv_reti hX hR rfl dc_RD_readInteger_118 ?_
                  rw [hB, if_neg (by intro z; first | omega | (have hv := hv1 (by omega); rw [hjn] at hv; omega))]
                  exact ⟨⟨i114, (hF.tr f91).tr f114, e114⟩, lo, rfl, Nat.le_refl _, hlo, fun h => absurd rfl h⟩
          · skip
            refine xv_aload_n hX 0 dc_RD_readInteger_45 rfl (rfl : _ = 46) ?_
            refine xv_calli hX (As := []) (rest := []) (ct_RD_readByte _ Y Mk hIk) ml_RD_54 li_RD_readByte rfl (by decide) rfl rfl rfl (by decide) ⟨by decide, by decide⟩ ⟨Nat.le_refl _, Nat.le_refl _⟩ (Nat.le_of_ble_eq_true rfl) dc_RD_readInteger_46 (rfl : _ = 49) (fun r46 M46 p46 => ?_)
            obtain ⟨⟨i46, f46, e46⟩, z46⟩ := p46
            obtain ⟨w, hw⟩ : ∃ w, w = rd_byte (Mk 3) (rd_of Mk) := ⟨_, rfl⟩
            rw [z46, ← hw]
            have hw1 := rd_byte_lt hIk
            have bk : Mk 3 = M 3 := hF 3 (by decide) (by decide)
            have hw2 : j = 0 → w = M 3 (f + 1) := fun h0 => by rw [hw, bk, he, rd_ib_byte (by omega) (by omega), h0]
            refine xv_istore hX [1, 2, 3, 4, 5, 6, 7, 0] dc_RD_readInteger_49 (by decide) (L' := [(0, .ref (Y.2.2.2 1)), (1, .int (nI lo)), (2, .int (nI hi)), (3, .int (nI (rd_rem (rd_of M2)))), (4, .int (nI (M 3 f))), (5, .int (nI v)), (6, .int (nI (j + 1))), (7, .int (nI w))]) rfl (rfl : _ = 51) ?_
            refine xv_iload hX 6 dc_RD_readInteger_51 rfl (rfl : _ = 53) ?_
            refine xv_iconst hX (v := nI 1) dc_RD_readInteger_53 (by decide) (rfl : _ = 54) ?_
            refine xv_icmp_ne hX (nI_toInt (by omega)) (show (nI 1).toInt = 1 by decide) (tgt := 74) (pq := 57) dc_RD_readInteger_54 (by decide) rfl (fun c54 => ?_) (fun c54 => ?_)
            · skip
              refine xv_iload hX 5 dc_RD_readInteger_74 rfl (rfl : _ = 76) ?_
              refine xv_bipush hX (v := nI 8) dc_RD_readInteger_76 (by decide) (rfl : _ = 78) ?_
              refine xv_ishl hX dc_RD_readInteger_78 (xi_shl8 _) (rfl : _ = 79) ?_
              refine xv_iload hX 7 dc_RD_readInteger_79 rfl (rfl : _ = 81) ?_
              refine xv_ior hX dc_RD_readInteger_81 (xi_or8 (by omega)) (rfl : _ = 82) ?_
              refine xv_istore hX [1, 2, 3, 4, 5, 0, 6, 7] dc_RD_readInteger_82 (by decide) (L' := [(0, .ref (Y.2.2.2 1)), (1, .int (nI lo)), (2, .int (nI hi)), (3, .int (nI (rd_rem (rd_of M2)))), (4, .int (nI (M 3 f))), (5, .int (nI (v * 256 + w))), (6, .int (nI (j + 1))), (7, .int (nI w))]) rfl (rfl : _ = 84) ?_
              refine xv_iinc hX 6 [1, 2, 3, 4, 5, 6, 0, 7] dc_RD_readInteger_84 rfl (xi_inc (j + 1) 1) (by decide) (L' := [(0, .ref (Y.2.2.2 1)), (1, .int (nI lo)), (2, .int (nI hi)), (3, .int (nI (rd_rem (rd_of M2)))), (4, .int (nI (M 3 f))), (5, .int (nI (v * 256 + w))), (6, .int (nI (j + 2))), (7, .int (nI w))]) rfl (rfl : _ = 87) ?_
              refine xv_goto hX (pq := 39) dc_RD_readInteger_87 (by decide) ?_
              refine xv_sub (L' := [(0, .ref (Y.2.2.2 1)), (1, .int (nI lo)), (2, .int (nI hi)), (3, .int (nI (rd_rem (rd_of M2)))), (4, .int (nI (M 3 f))), (5, .int (nI (v * 256 + w))), (6, .int (nI (j + 2)))]) [0, 1, 2, 3, 4, 5, 6] rfl ?_
              exact ih39 (j + 1) M46 (v * 256 + w) (by omega) i46 (hF.tr f46) (by rw [e46, he]; exact rd_ib_next (by omega) (by omega)) (fun hb => by have hv := hv1 (by omega); rw [hv, hw, bk, he, rd_ib_byte (by omega) (by omega)]; show _ = 256 * ps_be (M 3) f (j + 1) + _; omega) (by rw [Nat.pow_succ, ← Nat.mul_assoc]; omega) (by omega)
            · skip
              refine xv_iload hX 4 dc_RD_readInteger_57 rfl (rfl : _ = 59) ?_
              refine xv_if_ne hX (nI_toInt (by omega)) (tgt := 74) (pq := 62) dc_RD_readInteger_59 (by decide) rfl (fun c59 => ?_) (fun c59 => ?_)
              · skip
                refine xv_iload hX 5 dc_RD_readInteger_74 rfl (rfl : _ = 76) ?_
                refine xv_bipush hX (v := nI 8) dc_RD_readInteger_76 (by decide) (rfl : _ = 78) ?_
                refine xv_ishl hX dc_RD_readInteger_78 (xi_shl8 _) (rfl : _ = 79) ?_
                refine xv_iload hX 7 dc_RD_readInteger_79 rfl (rfl : _ = 81) ?_
                refine xv_ior hX dc_RD_readInteger_81 (xi_or8 (by omega)) (rfl : _ = 82) ?_
                refine xv_istore hX [1, 2, 3, 4, 5, 0, 6, 7] dc_RD_readInteger_82 (by decide) (L' := [(0, .ref (Y.2.2.2 1)), (1, .int (nI lo)), (2, .int (nI hi)), (3, .int (nI (rd_rem (rd_of M2)))), (4, .int (nI (M 3 f))), (5, .int (nI (v * 256 + w))), (6, .int (nI (j + 1))), (7, .int (nI w))]) rfl (rfl : _ = 84) ?_
                refine xv_iinc hX 6 [1, 2, 3, 4, 5, 6, 0, 7] dc_RD_readInteger_84 rfl (xi_inc (j + 1) 1) (by decide) (L' := [(0, .ref (Y.2.2.2 1)), (1, .int (nI lo)), (2, .int (nI hi)), (3, .int (nI (rd_rem (rd_of M2)))), (4, .int (nI (M 3 f))), (5, .int (nI (v * 256 + w))), (6, .int (nI (j + 2))), (7, .int (nI w))]) rfl (rfl : _ = 87) ?_
                refine xv_goto hX (pq := 39) dc_RD_readInteger_87 (by decide) ?_
                refine xv_sub (L' := [(0, .ref (Y.2.2.2 1)), (1, .int (nI lo)), (2, .int (nI hi)), (3, .int (nI (rd_rem (rd_of M2)))), (4, .int (nI (M 3 f))), (5, .int (nI (v * 256 + w))), (6, .int (nI (j + 2)))]) [0, 1, 2, 3, 4, 5, 6] rfl ?_
                exact ih39 (j + 1) M46 (v * 256 + w) (by omega) i46 (hF.tr f46) (by rw [e46, he]; exact rd_ib_next (by omega) (by omega)) (fun hb => by have hv := hv1 (by omega); rw [hv, hw, bk, he, rd_ib_byte (by omega) (by omega)]; show _ = 256 * ps_be (M 3) f (j + 1) + _; omega) (by rw [Nat.pow_succ, ← Nat.mul_assoc]; omega) (by omega)
              · skip
                refine xv_iload hX 7 dc_RD_readInteger_62 rfl (rfl : _ = 64) ?_
                refine xv_sipush hX (v := nI 128) dc_RD_readInteger_64 (by decide) (rfl : _ = 67) ?_
                refine xv_icmp_ge hX (nI_toInt (by omega)) (show (nI 128).toInt = 128 by decide) (tgt := 74) (pq := 70) dc_RD_readInteger_67 (by decide) rfl (fun c67 => ?_) (fun c67 => ?_)
                · skip
                  refine xv_iload hX 5 dc_RD_readInteger_74 rfl (rfl : _ = 76) ?_
                  refine xv_bipush hX (v := nI 8) dc_RD_readInteger_76 (by decide) (rfl : _ = 78) ?_
                  refine xv_ishl hX dc_RD_readInteger_78 (xi_shl8 _) (rfl : _ = 79) ?_
                  refine xv_iload hX 7 dc_RD_readInteger_79 rfl (rfl : _ = 81) ?_
                  refine xv_ior hX dc_RD_readInteger_81 (xi_or8 (by omega)) (rfl : _ = 82) ?_
                  refine xv_istore hX [1, 2, 3, 4, 5, 0, 6, 7] dc_RD_readInteger_82 (by decide) (L' := [(0, .ref (Y.2.2.2 1)), (1, .int (nI lo)), (2, .int (nI hi)), (3, .int (nI (rd_rem (rd_of M2)))), (4, .int (nI (M 3 f))), (5, .int (nI (v * 256 + w))), (6, .int (nI (j + 1))), (7, .int (nI w))]) rfl (rfl : _ = 84) ?_
                  refine xv_iinc hX 6 [1, 2, 3, 4, 5, 6, 0, 7] dc_RD_readInteger_84 rfl (xi_inc (j + 1) 1) (by decide) (L' := [(0, .ref (Y.2.2.2 1)), (1, .int (nI lo)), (2, .int (nI hi)), (3, .int (nI (rd_rem (rd_of M2)))), (4, .int (nI (M 3 f))), (5, .int (nI (v * 256 + w))), (6, .int (nI (j + 2))), (7, .int (nI w))]) rfl (rfl : _ = 87) ?_
                  refine xv_goto hX (pq := 39) dc_RD_readInteger_87 (by decide) ?_
                  refine xv_sub (L' := [(0, .ref (Y.2.2.2 1)), (1, .int (nI lo)), (2, .int (nI hi)), (3, .int (nI (rd_rem (rd_of M2)))), (4, .int (nI (M 3 f))), (5, .int (nI (v * 256 + w))), (6, .int (nI (j + 2)))]) [0, 1, 2, 3, 4, 5, 6] rfl ?_
                  exact ih39 (j + 1) M46 (v * 256 + w) (by omega) i46 (hF.tr f46) (by rw [e46, he]; exact rd_ib_next (by omega) (by omega)) (fun hb => by have hv := hv1 (by omega); rw [hv, hw, bk, he, rd_ib_byte (by omega) (by omega)]; show _ = 256 * ps_be (M 3) f (j + 1) + _; omega) (by rw [Nat.pow_succ, ← Nat.mul_assoc]; omega) (by omega)
                · skip
                  refine xv_aload_n hX 0 dc_RD_readInteger_70 rfl (rfl : _ = 71) ?_
                  refine xv_callv hX (As := []) (rest := []) (ct_RD_refuse _ Y M46 i46) ml_RD_51 li_RD_refuse rfl (by decide) rfl rfl rfl (by decide) ⟨by decide, by decide⟩ ⟨Nat.le_refl _, Nat.le_refl _⟩ (Nat.le_of_ble_eq_true rfl) dc_RD_readInteger_71 (rfl : _ = 74) (fun M71 p71 => ?_)
                  obtain ⟨i71, f71, e71⟩ := p71
                  refine xv_iload hX 5 dc_RD_readInteger_74 rfl (rfl : _ = 76) ?_
                  refine xv_bipush hX (v := nI 8) dc_RD_readInteger_76 (by decide) (rfl : _ = 78) ?_
                  refine xv_ishl hX dc_RD_readInteger_78 (xi_shl8 _) (rfl : _ = 79) ?_
                  refine xv_iload hX 7 dc_RD_readInteger_79 rfl (rfl : _ = 81) ?_
                  refine xv_ior hX dc_RD_readInteger_81 (xi_or8 (by omega)) (rfl : _ = 82) ?_
                  refine xv_istore hX [1, 2, 3, 4, 5, 0, 6, 7] dc_RD_readInteger_82 (by decide) (L' := [(0, .ref (Y.2.2.2 1)), (1, .int (nI lo)), (2, .int (nI hi)), (3, .int (nI (rd_rem (rd_of M2)))), (4, .int (nI (M 3 f))), (5, .int (nI (v * 256 + w))), (6, .int (nI (j + 1))), (7, .int (nI w))]) rfl (rfl : _ = 84) ?_
                  refine xv_iinc hX 6 [1, 2, 3, 4, 5, 6, 0, 7] dc_RD_readInteger_84 rfl (xi_inc (j + 1) 1) (by decide) (L' := [(0, .ref (Y.2.2.2 1)), (1, .int (nI lo)), (2, .int (nI hi)), (3, .int (nI (rd_rem (rd_of M2)))), (4, .int (nI (M 3 f))), (5, .int (nI (v * 256 + w))), (6, .int (nI (j + 2))), (7, .int (nI w))]) rfl (rfl : _ = 87) ?_
                  refine xv_goto hX (pq := 39) dc_RD_readInteger_87 (by decide) ?_
                  refine xv_sub (L' := [(0, .ref (Y.2.2.2 1)), (1, .int (nI lo)), (2, .int (nI hi)), (3, .int (nI (rd_rem (rd_of M2)))), (4, .int (nI (M 3 f))), (5, .int (nI (v * 256 + w))), (6, .int (nI (j + 2)))]) [0, 1, 2, 3, 4, 5, 6] rfl ?_
                  exact ih39 (j + 1) M71 (v * 256 + w) (by omega) i71 ((hF.tr f46).tr f71) (by rw [e71]; unfold rd_ib; rw [if_pos (by omega)]) (fun hb => absurd hb (by omega)) (by rw [Nat.pow_succ, ← Nat.mul_assoc]; omega) (by omega)
      refine xv_sub (L' := [(0, .ref (Y.2.2.2 1)), (1, .int (nI lo)), (2, .int (nI hi)), (3, .int (nI (rd_rem (rd_of M2)))), (4, .int (nI (M 3 f))), (5, .int (nI (M 3 f))), (6, .int (nI 1))]) [0, 1, 2, 3, 4, 5, 6] rfl ?_
      exact lp39 _ 0 M27 (M 3 f) (by omega) i27 (f2.tr f27) (by rw [e27, hs1]; unfold rd_ib; rw [if_neg (by omega)]; exact if_pos (by omega)) (fun _ => by simp [ps_be]) (by simp) (Nat.lt_succ_self _)
    · skip
      refine xv_aload_n hX 0 dc_RD_readInteger_20 rfl (rfl : _ = 21) ?_
      refine xv_callv hX (As := []) (rest := []) (ct_RD_refuse _ Y M2 i2) ml_RD_51 li_RD_refuse rfl (by decide) rfl rfl rfl (by decide) ⟨by decide, by decide⟩ ⟨Nat.le_refl _, Nat.le_refl _⟩ (Nat.le_of_ble_eq_true rfl) dc_RD_readInteger_21 (rfl : _ = 24) (fun M21 p21 => ?_)
      obtain ⟨i21, f21, e21⟩ := p21
      refine xv_iload_n hX 1 dc_RD_readInteger_24 rfl (rfl : _ = 25) ?_
      refine xv_reti hX hR rfl dc_RD_readInteger_25 ?_
      have hA := rd_intA (lo := lo) (hi := hi) (show ¬ (1 ≤ rd_rem (rd_open (M 3) 2 (rd_of M)) ∧ rd_rem (rd_open (M 3) 2 (rd_of M)) ≤ 4) by rw [← e2]; omega)
      rw [hA]
      exact ⟨⟨i21, f2.tr f21, e21⟩, lo, rfl, Nat.le_refl _, hlo, fun h => absurd rfl h⟩
set_option maxRecDepth 100000 in
set_option maxHeartbeats 4000000 in
theorem ct_RD_readTrueIfThere (l : Launch) (Y : xw_Y) (M : xm_M) (hI : rd_I M) : xc_i l qm_RD_readTrueIfThere 1 Y [.ref (Y.2.2.2 1)] M (fun r M1 => rd_Q M M1 (rd_tru (M 3) (rd_of M)).1 ∧ r = nI (if rd_is (M 3) 1 (rd_of M) = true then 1 else 0)) := by
  refine xc_i.mk .boolean rfl (by decide) (Nat.le_of_ble_eq_true rfl) ?_
  intro X hXl hX hR
  subst hXl
  have hX : xv_ok X Y prog_7_method_12_code "CertificatePath$Reader" 1 (xc_rm 1) := hX
  show xv_V X Y 1 0 0 xw_lk xw_N M 0 [(0, .ref (Y.2.2.2 1))] []
  refine xv_aload_n hX 0 dc_RD_readTrueIfThere_0 rfl (rfl : _ = 1) ?_
  refine xv_iconst hX (v := nI 1) dc_RD_readTrueIfThere_1 (by decide) (rfl : _ = 2) ?_
  refine xv_calli hX (As := [.int (nI 1)]) (rest := []) (ct_RD_nextIs _ Y M 1 hI (by decide)) ml_RD_60 li_RD_nextIs rfl (by decide) rfl rfl rfl (by decide) ⟨by decide, by decide⟩ ⟨Nat.le_refl _, Nat.le_refl _⟩ (Nat.le_of_ble_eq_true rfl) dc_RD_readTrueIfThere_2 (rfl : _ = 5) (fun r2 M2 p2 => ?_)
  rw [p2.1, p2.2]
  have hif : (if rd_is (M 3) 1 (rd_of M) = true then 1 else 0) < 2 := by split <;> decide
  refine xv_if_ne hX (nI_toInt (by omega)) (tgt := 10) (pq := 8) dc_RD_readTrueIfThere_5 (by decide) rfl (fun c5 => ?_) (fun c5 => ?_)
  · skip
    have hc : rd_is (M 3) 1 (rd_of M) = true := by cases h : rd_is (M 3) 1 (rd_of M) with
      | true => rfl
      | false => rw [h] at c5; simp at c5
    refine xv_aload_n hX 0 dc_RD_readTrueIfThere_10 rfl (rfl : _ = 11) ?_
    refine xv_iconst hX (v := nI 1) dc_RD_readTrueIfThere_11 (by decide) (rfl : _ = 12) ?_
    refine xv_callv hX (As := [.int (nI 1)]) (rest := []) (ct_RD_open _ Y M 1 hI (by decide)) ml_RD_43 li_RD_open rfl (by decide) rfl rfl rfl (by decide) ⟨by decide, by decide⟩ ⟨Nat.le_refl _, Nat.le_refl _⟩ (Nat.le_of_ble_eq_true rfl) dc_RD_readTrueIfThere_12 (rfl : _ = 15) (fun M12 p12 => ?_)
    obtain ⟨i12, f12, e12⟩ := p12
    have b12 : M12 3 = M 3 := f12 3 (by decide) (by decide)
    refine xv_aload_n hX 0 dc_RD_readTrueIfThere_15 rfl (rfl : _ = 16) ?_
    refine xv_calli hX (As := []) (rest := []) (ct_RD_readByte _ Y M12 i12) ml_RD_54 li_RD_readByte rfl (by decide) rfl rfl rfl (by decide) ⟨by decide, by decide⟩ ⟨Nat.le_refl _, Nat.le_refl _⟩ (Nat.le_of_ble_eq_true rfl) dc_RD_readTrueIfThere_16 (rfl : _ = 19) (fun r16 M16 p16 => ?_)
    obtain ⟨⟨i16, f16, e16⟩, z16⟩ := p16
    have hw := rd_byte_lt i12
    rw [z16]
    refine xv_sipush hX (v := nI 255) dc_RD_readTrueIfThere_19 (by decide) (rfl : _ = 22) ?_
    refine xv_icmp_eq hX (nI_toInt (by omega)) (show (nI 255).toInt = 255 by decide) (tgt := 29) (pq := 25) dc_RD_readTrueIfThere_22 (by decide) rfl (fun c22 => ?_) (fun c22 => ?_)
    · skip
      refine xv_aload_n hX 0 dc_RD_readTrueIfThere_29 rfl (rfl : _ = 30) ?_
      refine xv_callv hX (As := []) (rest := []) (ct_RD_close _ Y M16 i16) ml_RD_57 li_RD_close rfl (by decide) rfl rfl rfl (by decide) ⟨by decide, by decide⟩ ⟨Nat.le_refl _, Nat.le_refl _⟩ (Nat.le_of_ble_eq_true rfl) dc_RD_readTrueIfThere_30 (rfl : _ = 33) (fun M30 p30 => ?_)
      obtain ⟨i30, f30, e30⟩ := p30
      refine xv_iconst hX (v := nI 1) dc_RD_readTrueIfThere_33 (by decide) (rfl : _ = 34) ?_
      refine xv_reti hX hR (by decide) dc_RD_readTrueIfThere_34 ?_
      rw [hc, rd_truT hc, ← e12, ← b12]
      rw [if_pos (by omega)]
      rw [e16] at e30
      exact ⟨⟨i30, (f12.tr f16).tr f30, e30⟩, rfl⟩
    · skip
      refine xv_aload_n hX 0 dc_RD_readTrueIfThere_25 rfl (rfl : _ = 26) ?_
      refine xv_callv hX (As := []) (rest := []) (ct_RD_refuse _ Y M16 i16) ml_RD_51 li_RD_refuse rfl (by decide) rfl rfl rfl (by decide) ⟨by decide, by decide⟩ ⟨Nat.le_refl _, Nat.le_refl _⟩ (Nat.le_of_ble_eq_true rfl) dc_RD_readTrueIfThere_26 (rfl : _ = 29) (fun M26 p26 => ?_)
      obtain ⟨i26, f26, e26⟩ := p26
      refine xv_aload_n hX 0 dc_RD_readTrueIfThere_29 rfl (rfl : _ = 30) ?_
      refine xv_callv hX (As := []) (rest := []) (ct_RD_close _ Y M26 i26) ml_RD_57 li_RD_close rfl (by decide) rfl rfl rfl (by decide) ⟨by decide, by decide⟩ ⟨Nat.le_refl _, Nat.le_refl _⟩ (Nat.le_of_ble_eq_true rfl) dc_RD_readTrueIfThere_30 (rfl : _ = 33) (fun M30 p30 => ?_)
      obtain ⟨i30, f30, e30⟩ := p30
      refine xv_iconst hX (v := nI 1) dc_RD_readTrueIfThere_33 (by decide) (rfl : _ = 34) ?_
      refine xv_reti hX hR (by decide) dc_RD_readTrueIfThere_34 ?_
      rw [hc, rd_truT hc, ← e12, ← b12]
      rw [if_neg (by omega)]
      rw [e26] at e30
      exact ⟨⟨i30, ((f12.tr f16).tr f26).tr f30, e30⟩, rfl⟩
  · skip
    have hc : rd_is (M 3) 1 (rd_of M) = false := by cases h : rd_is (M 3) 1 (rd_of M) with
      | false => rfl
      | true => rw [h] at c5; simp at c5
    refine xv_iconst hX (v := nI 0) dc_RD_readTrueIfThere_8 (by decide) (rfl : _ = 9) ?_
    refine xv_reti hX hR (by decide) dc_RD_readTrueIfThere_9 ?_
    rw [rd_truF hc, hc]
    exact ⟨⟨hI, rd_F.rf M, rfl⟩, rfl⟩
