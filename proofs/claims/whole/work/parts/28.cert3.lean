/-! Certificate: an extension -/
set_option maxRecDepth 100000 in
set_option maxHeartbeats 4000000 in
theorem ct_CT_readExtension (l : Launch) (Y : xw_Y) (M : xm_M) (c k : Nat) (E : ps_E) (hc : xk_ct c) (hk : k < 4) (hI : rd_I M) (hd : rd_D 6 (rd_of M)) (h10 : M c 10 = k) (hnum : ∀ j, j < k → M (c + 6 + 2 * j) 0 < 256) (hl5 : M (c + 14) 1 ≤ 3) (hl6 : M (c + 22) 1 ≤ 3) (hE : rd_of M ≠ none → ct_E M c E ∧ E.1.length = k) : xc_v l qm_CT_readExtension 4 Y [.ref (Y.2.2.2 c), .ref (Y.2.2.2 1), .ref (Y.2.2.2 (c + 6 + 2 * k))] M (fun M1 => rd_I M1 ∧ ct_F c M M1 ∧ M1 c 10 = k ∧ (∀ j, j < k + 1 → M1 (c + 6 + 2 * j) 0 < 256) ∧ ct_S c M M1 ∧ (M1 (c + 14) 1 ≤ 3 ∧ M1 (c + 22) 1 ≤ 3) ∧ rs_ok (rd_run (ps_ext (M 3) E) (rd_of M)) (rd_of M1) (fun E' => ct_E M1 c E' ∧ E'.1.length = k + 1)) := by
  refine xc_v.mk rfl (by decide) (Nat.le_of_ble_eq_true rfl) ?_
  intro X hXl hX hR
  subst hXl
  have hX : xv_ok X Y prog_3_method_13_code "CertificatePath$Certificate" 4 (xc_rm 4) := hX
  show xv_V X Y 4 0 0 xw_lk xw_N M 0 [(0, .ref (Y.2.2.2 c)), (1, .ref (Y.2.2.2 1)), (2, .ref (Y.2.2.2 (c + 6 + 2 * k)))] []
  have hc6 : 6 ≤ c := hc.2.2.2.2.2.2.1
  have hc29 : c + 29 < 276 := hc.2.2.2.2.2.2.2
  have hxp : xk_ex (c + 6 + 2 * k) := (hc.2.2.2.1.2.2 k hk).2
  refine xv_aload_n hX 1 dc_CT_readExtension_0 rfl (rfl : _ = 1) ?_
  refine xv_bipush hX (v := nI 48) dc_CT_readExtension_1 (by decide) (rfl : _ = 3) ?_
  refine xv_callv hX (As := [.int (nI 48)]) (rest := []) (ct_RD_open _ Y M 48 hI (by decide)) ml_CT_102 li_RD_open rfl (by decide) rfl rfl rfl (by decide) ⟨by decide, by decide⟩ ⟨Nat.le_refl _, Nat.le_refl _⟩ (Nat.le_of_ble_eq_true rfl) dc_CT_readExtension_3 (rfl : _ = 6) (fun M3 p3 => ?_)
  obtain ⟨i3, f3, e3⟩ := p3
  have b3 : M3 3 = M 3 := f3 3 (by decide) (by decide)
  have hd3 : rd_D 5 (rd_open (M 3) 48 (rd_of M)) := rd_D.opn hd
  refine xv_aload_n hX 1 dc_CT_readExtension_6 rfl (rfl : _ = 7) ?_
  refine xv_iconst hX (v := nI 0) dc_CT_readExtension_7 (by decide) (rfl : _ = 8) ?_
  refine xv_sipush hX (v := nI 255) dc_CT_readExtension_8 (by decide) (rfl : _ = 11) ?_
  refine xv_calli hX (As := [.int (nI 0), .int (nI 255)]) (rest := []) (ct_RD_readInteger _ Y M3 0 255 i3 (by decide) (by decide)) ml_CT_133 li_RD_readInteger rfl (by decide) rfl rfl rfl (by decide) ⟨by decide, by decide⟩ ⟨Nat.le_refl _, Nat.le_refl _⟩ (Nat.le_of_ble_eq_true rfl) dc_CT_readExtension_11 (rfl : _ = 14) (fun r11 M11 p11 => ?_)
  obtain ⟨⟨i11, f11, e11⟩, w, z11, hw1, hw2, hw3⟩ := p11
  rw [z11]
  rw [b3, e3] at e11 hw3
  have h11 := rs_int (hd3.mono (by decide)) e11 hw3
  have f311 : rd_F M M11 := f3.tr f11
  have g10 : M11 c 10 = k := by rw [f311 c (by omega) (by omega)]; exact h10
  refine xv_istore_n hX [1, 2, 3, 0] dc_CT_readExtension_14 (by decide) (L' := [(0, .ref (Y.2.2.2 c)), (1, .ref (Y.2.2.2 1)), (2, .ref (Y.2.2.2 (c + 6 + 2 * k))), (3, .int (nI w))]) rfl (rfl : _ = 15) ?_
  refine xv_aload_n hX 0 dc_CT_readExtension_15 rfl (rfl : _ = 16) ?_
  refine xv_iload_n hX 3 dc_CT_readExtension_16 rfl (rfl : _ = 17) ?_
  refine xv_calli hX (As := [.int (nI w)]) (rest := []) (ct_CT_hasExtension _ Y M11 c w hc (by omega) (by omega) (fun j hj => by rw [f311 _ (by omega) (by omega)]; exact hnum j (by omega))) ml_CT_143 li_CT_hasExtension hc.1 (xk_N (by omega)) rfl rfl rfl (by decide) ⟨by decide, by decide⟩ ⟨Nat.le_refl _, Nat.le_refl _⟩ (Nat.le_of_ble_eq_true rfl) dc_CT_readExtension_17 (rfl : _ = 20) (fun r17 M17 p17 => ?_)
  obtain ⟨pM, t, pr, pt, pi⟩ := p17
  rw [pM, pr]
  rw [g10] at pi
  refine xv_if_eq hX (nI_toInt (by omega)) (tgt := 27) (pq := 23) dc_CT_readExtension_20 (by decide) rfl (fun c20 => ?_) (fun c20 => ?_)
  · skip
    have fx : rd_F M M11 := (f3.tr f11)
    have hs3 : rd_of M11 = if E.1.any (fun x => x.1 == w) = true then none else rd_of M11 := by
      by_cases h0 : rd_of M11 = none
      · rw [h0]; split <;> rfl
      · obtain ⟨q1, q2⟩ := hE (rd_open_sound (rs_sound h11 h0))
        rw [if_neg]
        intro z
        obtain ⟨j, hj, hz⟩ := (ct_any q1.1 q2).mp z
        exact absurd (pi.mpr ⟨j, by omega, by rw [f311 _ (by omega) (by omega)]; exact hz⟩) (by omega)
    have hcN : ∀ q, q < 6 → (xm_set M11 (c + 6 + 2 * k) 0 w) q = M11 q := fun q hq => xm_oth (by omega)
    have iN : rd_I (xm_set M11 (c + 6 + 2 * k) 0 w) := i11.cg hcN
    have oN : rd_of (xm_set M11 (c + 6 + 2 * k) 0 w) = rd_of M11 := rd_of_cg hcN
    have bN : (xm_set M11 (c + 6 + 2 * k) 0 w) 3 = M 3 := by rw [hcN 3 (by decide), fx 3 (by decide) (by decide)]
    have hd3x : rd_D 5 (rd_of M11) := by rw [hs3]; split; exact rd_D.none 5; exact rs_D h11 hd3
    refine xv_aload_n hX 2 dc_CT_readExtension_27 rfl (rfl : _ = 28) ?_
    refine xv_iload_n hX 3 dc_CT_readExtension_28 rfl (rfl : _ = 29) ?_
    refine xv_puti hX fl_CT_149 rfl (hc.2.2.2.1.2.2 _ (by omega)).2.1 (xk_N (by omega)) dc_CT_readExtension_29 (rfl : _ = 32) ?_
    refine xv_aload_n hX 2 dc_CT_readExtension_32 rfl (rfl : _ = 33) ?_
    refine xv_aload_n hX 1 dc_CT_readExtension_33 rfl (rfl : _ = 34) ?_
    refine xv_calli hX (As := []) (rest := [.ref (Y.2.2.2 (c + 6 + 2 * k))]) (ct_RD_readTrueIfThere _ Y (xm_set M11 (c + 6 + 2 * k) 0 w) iN) ml_CT_152 li_RD_readTrueIfThere rfl (by decide) rfl rfl rfl (by decide) ⟨by decide, by decide⟩ ⟨Nat.le_refl _, Nat.le_refl _⟩ (Nat.le_of_ble_eq_true rfl) dc_CT_readExtension_34 (rfl : _ = 37) (fun r34 M34 p34 => ?_)
    obtain ⟨⟨i34, f34, e34⟩, z34⟩ := p34
    rw [oN, bN] at e34 z34
    have h34 := rs_tru (hd3x.mono (by decide)) (fun i h => rd_of_nil h) e34
    rw [z34]
    have hif : (if (rd_is (M 3) 1 (rd_of M11)) = true then 1 else 0) < 2 := by split <;> decide
    have hcC : ∀ q, q < 6 → (xm_set M34 (c + 6 + 2 * k) 1 (if (rd_is (M 3) 1 (rd_of M11)) = true then 1 else 0)) q = M34 q := fun q hq => xm_oth (by omega)
    have iC : rd_I (xm_set M34 (c + 6 + 2 * k) 1 (if (rd_is (M 3) 1 (rd_of M11)) = true then 1 else 0)) := i34.cg hcC
    have oC : rd_of (xm_set M34 (c + 6 + 2 * k) 1 (if (rd_is (M 3) 1 (rd_of M11)) = true then 1 else 0)) = rd_of M34 := rd_of_cg hcC
    have bC : (xm_set M34 (c + 6 + 2 * k) 1 (if (rd_is (M 3) 1 (rd_of M11)) = true then 1 else 0)) 3 = M 3 := by rw [hcC 3 (by decide), f34 3 (by decide) (by decide), bN]
    have hd34 : rd_D 5 (rd_of M34) := rs_D h34 hd3x
    refine xv_putz hX fl_CT_84 rfl (hc.2.2.2.1.2.2 _ (by omega)).2.1 (xk_N (by omega)) (by omega) dc_CT_readExtension_37 (rfl : _ = 40) ?_
    refine xv_aload_n hX 1 dc_CT_readExtension_40 rfl (rfl : _ = 41) ?_
    refine xv_iconst hX (v := nI 4) dc_CT_readExtension_41 (by decide) (rfl : _ = 42) ?_
    refine xv_callv hX (As := [.int (nI 4)]) (rest := []) (ct_RD_open _ Y (xm_set M34 (c + 6 + 2 * k) 1 (if (rd_is (M 3) 1 (rd_of M11)) = true then 1 else 0)) 4 iC (by decide)) ml_CT_102 li_RD_open rfl (by decide) rfl rfl rfl (by decide) ⟨by decide, by decide⟩ ⟨Nat.le_refl _, Nat.le_refl _⟩ (Nat.le_of_ble_eq_true rfl) dc_CT_readExtension_42 (rfl : _ = 45) (fun M42 p42 => ?_)
    obtain ⟨i42, f42, e42⟩ := p42
    rw [oC, bC] at e42
    have b42 : M42 3 = M 3 := by rw [f42 3 (by decide) (by decide), bC]
    have hd42 : rd_D 4 (rd_of M42) := by rw [e42]; exact rd_D.opn hd34
    have g42 : ∀ q, q ≠ 1 → q ≠ 4 → q ≠ (c + 6 + 2 * k) → M42 q = M q := fun q a1 a2 a3 => by rw [f42 q a1 a2, xm_oth a3, f34 q a1 a2, xm_oth a3, fx q a1 a2]
    have gX0 : M42 (c + 6 + 2 * k) 0 = w := by rw [f42 _ (by omega) (by omega), xm_nk (by decide), f34 _ (by omega) (by omega), xm_eq]
    have gX1 : M42 (c + 6 + 2 * k) 1 = if (rd_is (M 3) 1 (rd_of M11)) = true then 1 else 0 := by rw [f42 _ (by omega) (by omega), xm_eq]
    refine xv_iload_n hX 3 dc_CT_readExtension_45 rfl (rfl : _ = 46) ?_
    by_cases sw46_1 : w = 1
    · skip
      refine xv_tsIn hX (nI_toInt (by omega)) (tgt := 72) dc_CT_readExtension_46 (by omega) (by omega) (by rw [sw46_1]; rfl) (by decide) ?_
      refine xv_aload_n hX 0 dc_CT_readExtension_72 rfl (rfl : _ = 73) ?_
      refine xv_aload_n hX 1 dc_CT_readExtension_73 rfl (rfl : _ = 74) ?_
      refine xv_callv hX (As := [.ref (Y.2.2.2 1)]) (rest := []) (ct_CT_readBasic _ Y M42 c hc i42 (hd42.mono (by decide))) ml_CT_155 li_CT_readBasic hc.1 (xk_N (by omega)) rfl rfl rfl (by decide) ⟨by decide, by decide⟩ ⟨Nat.le_refl _, Nat.le_refl _⟩ (Nat.le_of_ble_eq_true rfl) dc_CT_readExtension_74 (rfl : _ = 77) (fun M9 p74 => ?_)
      obtain ⟨i9, fS, fc, h9⟩ := p74
      rw [b42] at h9
      rw [e42] at h9
      refine xv_goto hX (pq := 101) dc_CT_readExtension_77 (by decide) ?_
      refine xv_aload_n hX 1 dc_CT_readExtension_101 rfl (rfl : _ = 102) ?_
      refine xv_callv hX (As := []) (rest := []) (ct_RD_close _ Y M9 i9) ml_CT_125 li_RD_close rfl (by decide) rfl rfl rfl (by decide) ⟨by decide, by decide⟩ ⟨Nat.le_refl _, Nat.le_refl _⟩ (Nat.le_of_ble_eq_true rfl) dc_CT_readExtension_102 (rfl : _ = 105) (fun M101 p102 => ?_)
      obtain ⟨i101, f101, e101⟩ := p102
      refine xv_aload_n hX 1 dc_CT_readExtension_105 rfl (rfl : _ = 106) ?_
      refine xv_callv hX (As := []) (rest := []) (ct_RD_close _ Y M101 i101) ml_CT_125 li_RD_close rfl (by decide) rfl rfl rfl (by decide) ⟨by decide, by decide⟩ ⟨Nat.le_refl _, Nat.le_refl _⟩ (Nat.le_of_ble_eq_true rfl) dc_CT_readExtension_106 (rfl : _ = 109) (fun M105 p106 => ?_)
      obtain ⟨i105, f105, e105⟩ := p106
      refine xv_retv hX hR dc_CT_readExtension_109 ?_
      have g9 : rd_F M9 M105 := f101.tr f105
      have hq : ∀ q, q ≠ 1 → q ≠ 4 → q ≠ c → q ≠ (c + 6 + 2 * k) → M105 q = M q := fun q a1 a2 a3 a4 => by rw [g9 q a1 a2, fS q a1 a2 a3, g42 q a1 a2 a4]
      have hcj : ∀ j, j ≠ 11 → j ≠ 12 → M105 c j = M c j := fun j a1 a2 => by rw [g9 c (by omega) (by omega), fc j a1 a2, g42 c (by omega) (by omega) (by omega)]
      have hX : ∀ j, M105 (c + 6 + 2 * k) j = M42 (c + 6 + 2 * k) j := fun j => by rw [g9 _ (by omega) (by omega), fS _ (by omega) (by omega) (by omega)]
      have hX0 : M105 (c + 6 + 2 * k) 0 = w := by rw [hX, gX0]
      have hX1 : M105 (c + 6 + 2 * k) 1 = if (rd_is (M 3) 1 (rd_of M11)) = true then 1 else 0 := by rw [hX, gX1]
      have h6 := rs_con1 (c := (rd_is (M 3) 1 (rd_of M11))) (E := E) h9
      have hw9 : w = 1 := sw46_1
      subst hw9
      have h7 := rs_ext (hd.mono (by decide)) h11 hs3 h34 h6
      rw [← e101, ← e105] at h7
      refine ⟨i105, fun q a1 a2 a3 => hq q a1 a2 (by omega) (by omega), (hcj 10 (by omega) (by omega)).trans h10, fun j hj => ?_, ⟨fun j a1 a2 a3 a4 => hcj j a2 a3, fun q a1 a2 => hq q (by omega) (by omega) (by omega) (by omega)⟩, ⟨by rw [hq _ (by omega) (by omega) (by omega) (by omega)]; exact hl5, by rw [hq _ (by omega) (by omega) (by omega) (by omega)]; exact hl6⟩, ?_⟩
      · by_cases hjk : j = k
        · rw [hjk, hX0]; omega
        · rw [hq _ (by omega) (by omega) (by omega) (by omega)]; exact hnum j (by omega)
      · rcases h7 with h7 | ⟨E', t, hE1, hE2, hE3⟩
        · exact Or.inl h7
        · refine Or.inr ⟨E', t, hE1, hE2, ?_⟩
          have hsnd : rd_of M ≠ none := fun e => by rw [e] at hE1; cases hE1
          obtain ⟨⟨q1, q2, q3, q4, q5, q6⟩, ql⟩ := hE hsnd
          obtain ⟨z, ⟨hz1, hz2⟩, rfl⟩ := hE3
          refine ⟨⟨ct_app q1 ql (fun j hj => ⟨hq _ (by omega) (by omega) (by omega) (by omega), hq _ (by omega) (by omega) (by omega) (by omega)⟩) ⟨hX0, hX1, ?_⟩, ?_, ?_, ?_, ?_, ?_⟩, by simp [ql]⟩
          · intro h; exact absurd (Or.inl rfl) h
          · rw [g9 c (by omega) (by omega)]; exact hz1
          · rw [g9 c (by omega) (by omega), hz2, g42 c (by omega) (by omega) (by omega)]
            obtain ⟨z1, z2⟩ := z
            cases z2 with
            | none => exact q3
            | some v => rfl
          · rw [hcj 13 (by omega) (by omega)]; exact q4
          · exact nl_is_cg2 hl5 (fun q a1 a2 => hq q (by omega) (by omega) (by omega) (by omega)) q5
          · exact nl_is_cg2 hl6 (fun q a1 a2 => hq q (by omega) (by omega) (by omega) (by omega)) q6
    by_cases sw46_2 : w = 2
    · skip
      refine xv_tsIn hX (nI_toInt (by omega)) (tgt := 80) dc_CT_readExtension_46 (by omega) (by omega) (by rw [sw46_2]; rfl) (by decide) ?_
      refine xv_aload_n hX 0 dc_CT_readExtension_80 rfl (rfl : _ = 81) ?_
      refine xv_aload_n hX 1 dc_CT_readExtension_81 rfl (rfl : _ = 82) ?_
      refine xv_callv hX (As := [.ref (Y.2.2.2 1)]) (rest := []) (ct_CT_readUsage _ Y M42 c hc i42 (hd42.mono (by decide))) ml_CT_158 li_CT_readUsage hc.1 (xk_N (by omega)) rfl rfl rfl (by decide) ⟨by decide, by decide⟩ ⟨Nat.le_refl _, Nat.le_refl _⟩ (Nat.le_of_ble_eq_true rfl) dc_CT_readExtension_82 (rfl : _ = 85) (fun M9 p82 => ?_)
      obtain ⟨i9, fS, fc, h9⟩ := p82
      rw [b42] at h9
      rw [e42] at h9
      refine xv_goto hX (pq := 101) dc_CT_readExtension_85 (by decide) ?_
      refine xv_aload_n hX 1 dc_CT_readExtension_101 rfl (rfl : _ = 102) ?_
      refine xv_callv hX (As := []) (rest := []) (ct_RD_close _ Y M9 i9) ml_CT_125 li_RD_close rfl (by decide) rfl rfl rfl (by decide) ⟨by decide, by decide⟩ ⟨Nat.le_refl _, Nat.le_refl _⟩ (Nat.le_of_ble_eq_true rfl) dc_CT_readExtension_102 (rfl : _ = 105) (fun M101 p102 => ?_)
      obtain ⟨i101, f101, e101⟩ := p102
      refine xv_aload_n hX 1 dc_CT_readExtension_105 rfl (rfl : _ = 106) ?_
      refine xv_callv hX (As := []) (rest := []) (ct_RD_close _ Y M101 i101) ml_CT_125 li_RD_close rfl (by decide) rfl rfl rfl (by decide) ⟨by decide, by decide⟩ ⟨Nat.le_refl _, Nat.le_refl _⟩ (Nat.le_of_ble_eq_true rfl) dc_CT_readExtension_106 (rfl : _ = 109) (fun M105 p106 => ?_)
      obtain ⟨i105, f105, e105⟩ := p106
      refine xv_retv hX hR dc_CT_readExtension_109 ?_
      have g9 : rd_F M9 M105 := f101.tr f105
      have hq : ∀ q, q ≠ 1 → q ≠ 4 → q ≠ c → q ≠ (c + 6 + 2 * k) → M105 q = M q := fun q a1 a2 a3 a4 => by rw [g9 q a1 a2, fS q a1 a2 a3, g42 q a1 a2 a4]
      have hcj : ∀ j, j ≠ 13 → M105 c j = M c j := fun j a1 => by rw [g9 c (by omega) (by omega), fc j a1, g42 c (by omega) (by omega) (by omega)]
      have hX : ∀ j, M105 (c + 6 + 2 * k) j = M42 (c + 6 + 2 * k) j := fun j => by rw [g9 _ (by omega) (by omega), fS _ (by omega) (by omega) (by omega)]
      have hX0 : M105 (c + 6 + 2 * k) 0 = w := by rw [hX, gX0]
      have hX1 : M105 (c + 6 + 2 * k) 1 = if (rd_is (M 3) 1 (rd_of M11)) = true then 1 else 0 := by rw [hX, gX1]
      have h6 := rs_con2 (c := (rd_is (M 3) 1 (rd_of M11))) (E := E) h9
      have hw9 : w = 2 := sw46_2
      subst hw9
      have h7 := rs_ext (hd.mono (by decide)) h11 hs3 h34 h6
      rw [← e101, ← e105] at h7
      refine ⟨i105, fun q a1 a2 a3 => hq q a1 a2 (by omega) (by omega), (hcj 10 (by omega)).trans h10, fun j hj => ?_, ⟨fun j a1 a2 a3 a4 => hcj j a4, fun q a1 a2 => hq q (by omega) (by omega) (by omega) (by omega)⟩, ⟨by rw [hq _ (by omega) (by omega) (by omega) (by omega)]; exact hl5, by rw [hq _ (by omega) (by omega) (by omega) (by omega)]; exact hl6⟩, ?_⟩
      · by_cases hjk : j = k
        · rw [hjk, hX0]; omega
        · rw [hq _ (by omega) (by omega) (by omega) (by omega)]; exact hnum j (by omega)
      · rcases h7 with h7 | ⟨E', t, hE1, hE2, hE3⟩
        · exact Or.inl h7
        · refine Or.inr ⟨E', t, hE1, hE2, ?_⟩
          have hsnd : rd_of M ≠ none := fun e => by rw [e] at hE1; cases hE1
          obtain ⟨⟨q1, q2, q3, q4, q5, q6⟩, ql⟩ := hE hsnd
          obtain ⟨z, hz1, rfl⟩ := hE3
          refine ⟨⟨ct_app q1 ql (fun j hj => ⟨hq _ (by omega) (by omega) (by omega) (by omega), hq _ (by omega) (by omega) (by omega) (by omega)⟩) ⟨hX0, hX1, ?_⟩, ?_, ?_, ?_, ?_, ?_⟩, by simp [ql]⟩
          · intro h; exact absurd (Or.inr (Or.inl rfl)) h
          · rw [hcj 11 (by omega)]; exact q2
          · rw [hcj 12 (by omega)]; exact q3
          · rw [g9 c (by omega) (by omega)]; exact hz1
          · exact nl_is_cg2 hl5 (fun q a1 a2 => hq q (by omega) (by omega) (by omega) (by omega)) q5
          · exact nl_is_cg2 hl6 (fun q a1 a2 => hq q (by omega) (by omega) (by omega) (by omega)) q6
    by_cases sw46_3 : w = 3
    · skip
      refine xv_tsIn hX (nI_toInt (by omega)) (tgt := 88) dc_CT_readExtension_46 (by omega) (by omega) (by rw [sw46_3]; rfl) (by decide) ?_
      refine xv_aload_n hX 0 dc_CT_readExtension_88 rfl (rfl : _ = 89) ?_
      refine xv_aload_n hX 1 dc_CT_readExtension_89 rfl (rfl : _ = 90) ?_
      refine xv_callv hX (As := [.ref (Y.2.2.2 1)]) (rest := []) (ct_CT_readBounds _ Y M42 c hc i42 hd42) ml_CT_161 li_CT_readBounds hc.1 (xk_N (by omega)) rfl rfl rfl (by decide) ⟨by decide, by decide⟩ ⟨Nat.le_refl _, Nat.le_refl _⟩ (Nat.le_of_ble_eq_true rfl) dc_CT_readExtension_90 (rfl : _ = 93) (fun M9 p90 => ?_)
      obtain ⟨i9, fS, z5, z6, h9⟩ := p90
      rw [b42] at h9
      rw [e42] at h9
      refine xv_goto hX (pq := 101) dc_CT_readExtension_93 (by decide) ?_
      refine xv_aload_n hX 1 dc_CT_readExtension_101 rfl (rfl : _ = 102) ?_
      refine xv_callv hX (As := []) (rest := []) (ct_RD_close _ Y M9 i9) ml_CT_125 li_RD_close rfl (by decide) rfl rfl rfl (by decide) ⟨by decide, by decide⟩ ⟨Nat.le_refl _, Nat.le_refl _⟩ (Nat.le_of_ble_eq_true rfl) dc_CT_readExtension_102 (rfl : _ = 105) (fun M101 p102 => ?_)
      obtain ⟨i101, f101, e101⟩ := p102
      refine xv_aload_n hX 1 dc_CT_readExtension_105 rfl (rfl : _ = 106) ?_
      refine xv_callv hX (As := []) (rest := []) (ct_RD_close _ Y M101 i101) ml_CT_125 li_RD_close rfl (by decide) rfl rfl rfl (by decide) ⟨by decide, by decide⟩ ⟨Nat.le_refl _, Nat.le_refl _⟩ (Nat.le_of_ble_eq_true rfl) dc_CT_readExtension_106 (rfl : _ = 109) (fun M105 p106 => ?_)
      obtain ⟨i105, f105, e105⟩ := p106
      refine xv_retv hX hR dc_CT_readExtension_109 ?_
      have g9 : rd_F M9 M105 := f101.tr f105
      have hq : ∀ q, q ≠ 1 → q ≠ 4 → (q < c + 14 ∨ c + 30 ≤ q) → q ≠ (c + 6 + 2 * k) → M105 q = M q := fun q a1 a2 a3 a4 => by rw [g9 q a1 a2, fS q a1 a2 a3, g42 q a1 a2 a4]
      have hcj : ∀ j, M105 c j = M c j := fun j => by rw [hq c (by omega) (by omega) (by omega) (by omega)]
      have hX : ∀ j, M105 (c + 6 + 2 * k) j = M42 (c + 6 + 2 * k) j := fun j => by rw [g9 _ (by omega) (by omega), fS _ (by omega) (by omega) (by omega)]
      have hX0 : M105 (c + 6 + 2 * k) 0 = w := by rw [hX, gX0]
      have hX1 : M105 (c + 6 + 2 * k) 1 = if (rd_is (M 3) 1 (rd_of M11)) = true then 1 else 0 := by rw [hX, gX1]
      have h6 := rs_con3 (c := (rd_is (M 3) 1 (rd_of M11))) (E := E) h9
      have hw9 : w = 3 := sw46_3
      subst hw9
      have h7 := rs_ext (hd.mono (by decide)) h11 hs3 h34 h6
      rw [← e101, ← e105] at h7
      refine ⟨i105, fun q a1 a2 a3 => hq q a1 a2 (by omega) (by omega), (hcj 10 ).trans h10, fun j hj => ?_, ⟨fun j a1 a2 a3 a4 => hcj j , fun q a1 a2 => hq q (by omega) (by omega) (by omega) (by omega)⟩, ⟨by rw [g9 _ (by omega) (by omega)]; exact z5, by rw [g9 _ (by omega) (by omega)]; exact z6⟩, ?_⟩
      · by_cases hjk : j = k
        · rw [hjk, hX0]; omega
        · rw [hq _ (by omega) (by omega) (by omega) (by omega)]; exact hnum j (by omega)
      · rcases h7 with h7 | ⟨E', t, hE1, hE2, hE3⟩
        · exact Or.inl h7
        · refine Or.inr ⟨E', t, hE1, hE2, ?_⟩
          have hsnd : rd_of M ≠ none := fun e => by rw [e] at hE1; cases hE1
          obtain ⟨⟨q1, q2, q3, q4, q5, q6⟩, ql⟩ := hE hsnd
          obtain ⟨z, ⟨hz1, hz2⟩, rfl⟩ := hE3
          refine ⟨⟨ct_app q1 ql (fun j hj => ⟨hq _ (by omega) (by omega) (by omega) (by omega), hq _ (by omega) (by omega) (by omega) (by omega)⟩) ⟨hX0, hX1, ?_⟩, ?_, ?_, ?_, ?_, ?_⟩, by simp [ql]⟩
          · intro h; exact absurd (Or.inr (Or.inr rfl)) h
          · rw [hcj 11]; exact q2
          · rw [hcj 12]; exact q3
          · rw [hcj 13]; exact q4
          · exact nl_is_cg2 z5 (fun q a1 a2 => g9 q (by omega) (by omega)) hz1
          · exact nl_is_cg2 z6 (fun q a1 a2 => g9 q (by omega) (by omega)) hz2
    refine xv_tsOut hX (nI_toInt (by omega)) (tgt := 96) dc_CT_readExtension_46 (by omega) (by decide) ?_
    refine xv_aload_n hX 2 dc_CT_readExtension_96 rfl (rfl : _ = 97) ?_
    refine xv_aload_n hX 1 dc_CT_readExtension_97 rfl (rfl : _ = 98) ?_
    refine xv_callv hX (As := [.ref (Y.2.2.2 1)]) (rest := []) (ct_EX_readOctets _ Y M42 (c + 6 + 2 * k) hxp i42) ml_CT_164 li_EX_readOctets (hc.2.2.2.1.2.2 _ (by omega)).2.1 (xk_N (by omega)) rfl rfl rfl (by decide) ⟨by decide, by decide⟩ ⟨Nat.le_refl _, Nat.le_refl _⟩ (Nat.le_of_ble_eq_true rfl) dc_CT_readExtension_98 (rfl : _ = 101) (fun M9 p98 => ?_)
    obtain ⟨i9, ⟨fS, fx0, fx1⟩, h9, ho9⟩ := p98
    rw [b42] at ho9
    rw [e42] at h9
    refine xv_aload_n hX 1 dc_CT_readExtension_101 rfl (rfl : _ = 102) ?_
    refine xv_callv hX (As := []) (rest := []) (ct_RD_close _ Y M9 i9) ml_CT_125 li_RD_close rfl (by decide) rfl rfl rfl (by decide) ⟨by decide, by decide⟩ ⟨Nat.le_refl _, Nat.le_refl _⟩ (Nat.le_of_ble_eq_true rfl) dc_CT_readExtension_102 (rfl : _ = 105) (fun M101 p102 => ?_)
    obtain ⟨i101, f101, e101⟩ := p102
    refine xv_aload_n hX 1 dc_CT_readExtension_105 rfl (rfl : _ = 106) ?_
    refine xv_callv hX (As := []) (rest := []) (ct_RD_close _ Y M101 i101) ml_CT_125 li_RD_close rfl (by decide) rfl rfl rfl (by decide) ⟨by decide, by decide⟩ ⟨Nat.le_refl _, Nat.le_refl _⟩ (Nat.le_of_ble_eq_true rfl) dc_CT_readExtension_106 (rfl : _ = 109) (fun M105 p106 => ?_)
    obtain ⟨i105, f105, e105⟩ := p106
    refine xv_retv hX hR dc_CT_readExtension_109 ?_
    have g9 : rd_F M9 M105 := f101.tr f105
    have hq : ∀ q, q ≠ 1 → q ≠ 4 → q ≠ (c + 6 + 2 * k) → q ≠ (c + 6 + 2 * k) + 1 → M105 q = M q := fun q a1 a2 a3 a4 => by rw [g9 q a1 a2, fS q a1 a2 a3 a4, g42 q a1 a2 a3]
    have hcj : ∀ j, M105 c j = M c j := fun j => by rw [hq c (by omega) (by omega) (by omega) (by omega)]
    have hX0 : M105 (c + 6 + 2 * k) 0 = w := by rw [g9 _ (by omega) (by omega), fx0, gX0]
    have hX1 : M105 (c + 6 + 2 * k) 1 = if (rd_is (M 3) 1 (rd_of M11)) = true then 1 else 0 := by rw [g9 _ (by omega) (by omega), fx1, gX1]
    have h6 := rs_con4 (b := M 3) (c := (rd_is (M 3) 1 (rd_of M11))) (E := E) (num := w) (by omega) h9
    have h7 := rs_ext (hd.mono (by decide)) h11 hs3 h34 h6
    rw [← e101, ← e105] at h7
    refine ⟨i105, fun q a1 a2 a3 => hq q a1 a2 (by omega) (by omega), (hcj 10 ).trans h10, fun j hj => ?_, ⟨fun j a1 a2 a3 a4 => hcj j , fun q a1 a2 => hq q (by omega) (by omega) (by omega) (by omega)⟩, ⟨by rw [hq _ (by omega) (by omega) (by omega) (by omega)]; exact hl5, by rw [hq _ (by omega) (by omega) (by omega) (by omega)]; exact hl6⟩, ?_⟩
    · by_cases hjk : j = k
      · rw [hjk, hX0]; omega
      · rw [hq _ (by omega) (by omega) (by omega) (by omega)]; exact hnum j (by omega)
    · rcases h7 with h7 | ⟨E', t, hE1, hE2, hE3⟩
      · exact Or.inl h7
      · refine Or.inr ⟨E', t, hE1, hE2, ?_⟩
        have hsnd : rd_of M ≠ none := fun e => by rw [e] at hE1; cases hE1
        obtain ⟨⟨q1, q2, q3, q4, q5, q6⟩, ql⟩ := hE hsnd
        obtain ⟨i, l, ls, hz1, hz2, rfl⟩ := hE3
        refine ⟨⟨ct_app q1 ql (fun j hj => ⟨hq _ (by omega) (by omega) (by omega) (by omega), hq _ (by omega) (by omega) (by omega) (by omega)⟩) ⟨hX0, hX1, ?_⟩, ?_, ?_, ?_, ?_, ?_⟩, by simp [ql]⟩
        · intro _
          obtain ⟨r1, r2⟩ := ho9 i l ls (by rw [e42]; exact hz1) hz2
          rw [g9 _ (by omega) (by omega), g9 _ (by omega) (by omega)]
          refine ⟨by rw [r1]; exact (ps_sl_len _ _ _).symm, fun j hj => ?_⟩
          have hj : j < (ps_sl (M 3) i l).length := hj
          rw [ps_sl_len] at hj
          rw [r2 j hj]
          simp [ps_sl, hj]
        · rw [hcj 11]; exact q2
        · rw [hcj 12]; exact q3
        · rw [hcj 13]; exact q4
        · exact nl_is_cg2 hl5 (fun q a1 a2 => hq q (by omega) (by omega) (by omega) (by omega)) q5
        · exact nl_is_cg2 hl6 (fun q a1 a2 => hq q (by omega) (by omega) (by omega) (by omega)) q6
  · skip
    refine xv_aload_n hX 1 dc_CT_readExtension_23 rfl (rfl : _ = 24) ?_
    refine xv_callv hX (As := []) (rest := []) (ct_RD_refuse _ Y M11 i11) ml_CT_146 li_RD_refuse rfl (by decide) rfl rfl rfl (by decide) ⟨by decide, by decide⟩ ⟨Nat.le_refl _, Nat.le_refl _⟩ (Nat.le_of_ble_eq_true rfl) dc_CT_readExtension_24 (rfl : _ = 27) (fun M24 p24 => ?_)
    obtain ⟨i24, f24, e24⟩ := p24
    have fx : rd_F M M24 := ((f3.tr f11).tr f24)
    have hs3 : rd_of M24 = if E.1.any (fun x => x.1 == w) = true then none else rd_of M11 := by
      rw [e24]
      by_cases h0 : rd_of M11 = none
      · rw [h0]; split <;> rfl
      · obtain ⟨q1, q2⟩ := hE (rd_open_sound (rs_sound h11 h0))
        rw [if_pos]
        obtain ⟨j, hj, hz⟩ := pi.mp (by omega)
        exact (ct_any q1.1 q2).mpr ⟨j, by omega, by rw [← hz, f311 _ (by omega) (by omega)]⟩
    have hcN : ∀ q, q < 6 → (xm_set M24 (c + 6 + 2 * k) 0 w) q = M24 q := fun q hq => xm_oth (by omega)
    have iN : rd_I (xm_set M24 (c + 6 + 2 * k) 0 w) := i24.cg hcN
    have oN : rd_of (xm_set M24 (c + 6 + 2 * k) 0 w) = rd_of M24 := rd_of_cg hcN
    have bN : (xm_set M24 (c + 6 + 2 * k) 0 w) 3 = M 3 := by rw [hcN 3 (by decide), fx 3 (by decide) (by decide)]
    have hd3x : rd_D 5 (rd_of M24) := by rw [hs3]; split; exact rd_D.none 5; exact rs_D h11 hd3
    refine xv_aload_n hX 2 dc_CT_readExtension_27 rfl (rfl : _ = 28) ?_
    refine xv_iload_n hX 3 dc_CT_readExtension_28 rfl (rfl : _ = 29) ?_
    refine xv_puti hX fl_CT_149 rfl (hc.2.2.2.1.2.2 _ (by omega)).2.1 (xk_N (by omega)) dc_CT_readExtension_29 (rfl : _ = 32) ?_
    refine xv_aload_n hX 2 dc_CT_readExtension_32 rfl (rfl : _ = 33) ?_
    refine xv_aload_n hX 1 dc_CT_readExtension_33 rfl (rfl : _ = 34) ?_
    refine xv_calli hX (As := []) (rest := [.ref (Y.2.2.2 (c + 6 + 2 * k))]) (ct_RD_readTrueIfThere _ Y (xm_set M24 (c + 6 + 2 * k) 0 w) iN) ml_CT_152 li_RD_readTrueIfThere rfl (by decide) rfl rfl rfl (by decide) ⟨by decide, by decide⟩ ⟨Nat.le_refl _, Nat.le_refl _⟩ (Nat.le_of_ble_eq_true rfl) dc_CT_readExtension_34 (rfl : _ = 37) (fun r34 M34 p34 => ?_)
    obtain ⟨⟨i34, f34, e34⟩, z34⟩ := p34
    rw [oN, bN] at e34 z34
    have h34 := rs_tru (hd3x.mono (by decide)) (fun i h => rd_of_nil h) e34
    rw [z34]
    have hif : (if (rd_is (M 3) 1 (rd_of M24)) = true then 1 else 0) < 2 := by split <;> decide
    have hcC : ∀ q, q < 6 → (xm_set M34 (c + 6 + 2 * k) 1 (if (rd_is (M 3) 1 (rd_of M24)) = true then 1 else 0)) q = M34 q := fun q hq => xm_oth (by omega)
    have iC : rd_I (xm_set M34 (c + 6 + 2 * k) 1 (if (rd_is (M 3) 1 (rd_of M24)) = true then 1 else 0)) := i34.cg hcC
    have oC : rd_of (xm_set M34 (c + 6 + 2 * k) 1 (if (rd_is (M 3) 1 (rd_of M24)) = true then 1 else 0)) = rd_of M34 := rd_of_cg hcC
    have bC : (xm_set M34 (c + 6 + 2 * k) 1 (if (rd_is (M 3) 1 (rd_of M24)) = true then 1 else 0)) 3 = M 3 := by rw [hcC 3 (by decide), f34 3 (by decide) (by decide), bN]
    have hd34 : rd_D 5 (rd_of M34) := rs_D h34 hd3x
    refine xv_putz hX fl_CT_84 rfl (hc.2.2.2.1.2.2 _ (by omega)).2.1 (xk_N (by omega)) (by omega) dc_CT_readExtension_37 (rfl : _ = 40) ?_
    refine xv_aload_n hX 1 dc_CT_readExtension_40 rfl (rfl : _ = 41) ?_
    refine xv_iconst hX (v := nI 4) dc_CT_readExtension_41 (by decide) (rfl : _ = 42) ?_
    refine xv_callv hX (As := [.int (nI 4)]) (rest := []) (ct_RD_open _ Y (xm_set M34 (c + 6 + 2 * k) 1 (if (rd_is (M 3) 1 (rd_of M24)) = true then 1 else 0)) 4 iC (by decide)) ml_CT_102 li_RD_open rfl (by decide) rfl rfl rfl (by decide) ⟨by decide, by decide⟩ ⟨Nat.le_refl _, Nat.le_refl _⟩ (Nat.le_of_ble_eq_true rfl) dc_CT_readExtension_42 (rfl : _ = 45) (fun M42 p42 => ?_)
    obtain ⟨i42, f42, e42⟩ := p42
    rw [oC, bC] at e42
    have b42 : M42 3 = M 3 := by rw [f42 3 (by decide) (by decide), bC]
    have hd42 : rd_D 4 (rd_of M42) := by rw [e42]; exact rd_D.opn hd34
    have g42 : ∀ q, q ≠ 1 → q ≠ 4 → q ≠ (c + 6 + 2 * k) → M42 q = M q := fun q a1 a2 a3 => by rw [f42 q a1 a2, xm_oth a3, f34 q a1 a2, xm_oth a3, fx q a1 a2]
    have gX0 : M42 (c + 6 + 2 * k) 0 = w := by rw [f42 _ (by omega) (by omega), xm_nk (by decide), f34 _ (by omega) (by omega), xm_eq]
    have gX1 : M42 (c + 6 + 2 * k) 1 = if (rd_is (M 3) 1 (rd_of M24)) = true then 1 else 0 := by rw [f42 _ (by omega) (by omega), xm_eq]
    refine xv_iload_n hX 3 dc_CT_readExtension_45 rfl (rfl : _ = 46) ?_
    by_cases sw46_1 : w = 1
    · skip
      refine xv_tsIn hX (nI_toInt (by omega)) (tgt := 72) dc_CT_readExtension_46 (by omega) (by omega) (by rw [sw46_1]; rfl) (by decide) ?_
      refine xv_aload_n hX 0 dc_CT_readExtension_72 rfl (rfl : _ = 73) ?_
      refine xv_aload_n hX 1 dc_CT_readExtension_73 rfl (rfl : _ = 74) ?_
      refine xv_callv hX (As := [.ref (Y.2.2.2 1)]) (rest := []) (ct_CT_readBasic _ Y M42 c hc i42 (hd42.mono (by decide))) ml_CT_155 li_CT_readBasic hc.1 (xk_N (by omega)) rfl rfl rfl (by decide) ⟨by decide, by decide⟩ ⟨Nat.le_refl _, Nat.le_refl _⟩ (Nat.le_of_ble_eq_true rfl) dc_CT_readExtension_74 (rfl : _ = 77) (fun M9 p74 => ?_)
      obtain ⟨i9, fS, fc, h9⟩ := p74
      rw [b42] at h9
      rw [e42] at h9
      refine xv_goto hX (pq := 101) dc_CT_readExtension_77 (by decide) ?_
      refine xv_aload_n hX 1 dc_CT_readExtension_101 rfl (rfl : _ = 102) ?_
      refine xv_callv hX (As := []) (rest := []) (ct_RD_close _ Y M9 i9) ml_CT_125 li_RD_close rfl (by decide) rfl rfl rfl (by decide) ⟨by decide, by decide⟩ ⟨Nat.le_refl _, Nat.le_refl _⟩ (Nat.le_of_ble_eq_true rfl) dc_CT_readExtension_102 (rfl : _ = 105) (fun M101 p102 => ?_)
      obtain ⟨i101, f101, e101⟩ := p102
      refine xv_aload_n hX 1 dc_CT_readExtension_105 rfl (rfl : _ = 106) ?_
      refine xv_callv hX (As := []) (rest := []) (ct_RD_close _ Y M101 i101) ml_CT_125 li_RD_close rfl (by decide) rfl rfl rfl (by decide) ⟨by decide, by decide⟩ ⟨Nat.le_refl _, Nat.le_refl _⟩ (Nat.le_of_ble_eq_true rfl) dc_CT_readExtension_106 (rfl : _ = 109) (fun M105 p106 => ?_)
      obtain ⟨i105, f105, e105⟩ := p106
      refine xv_retv hX hR dc_CT_readExtension_109 ?_
      have g9 : rd_F M9 M105 := f101.tr f105
      have hq : ∀ q, q ≠ 1 → q ≠ 4 → q ≠ c → q ≠ (c + 6 + 2 * k) → M105 q = M q := fun q a1 a2 a3 a4 => by rw [g9 q a1 a2, fS q a1 a2 a3, g42 q a1 a2 a4]
      have hcj : ∀ j, j ≠ 11 → j ≠ 12 → M105 c j = M c j := fun j a1 a2 => by rw [g9 c (by omega) (by omega), fc j a1 a2, g42 c (by omega) (by omega) (by omega)]
      have hX : ∀ j, M105 (c + 6 + 2 * k) j = M42 (c + 6 + 2 * k) j := fun j => by rw [g9 _ (by omega) (by omega), fS _ (by omega) (by omega) (by omega)]
      have hX0 : M105 (c + 6 + 2 * k) 0 = w := by rw [hX, gX0]
      have hX1 : M105 (c + 6 + 2 * k) 1 = if (rd_is (M 3) 1 (rd_of M24)) = true then 1 else 0 := by rw [hX, gX1]
      have h6 := rs_con1 (c := (rd_is (M 3) 1 (rd_of M24))) (E := E) h9
      have hw9 : w = 1 := sw46_1
      subst hw9
      have h7 := rs_ext (hd.mono (by decide)) h11 hs3 h34 h6
      rw [← e101, ← e105] at h7
      refine ⟨i105, fun q a1 a2 a3 => hq q a1 a2 (by omega) (by omega), (hcj 10 (by omega) (by omega)).trans h10, fun j hj => ?_, ⟨fun j a1 a2 a3 a4 => hcj j a2 a3, fun q a1 a2 => hq q (by omega) (by omega) (by omega) (by omega)⟩, ⟨by rw [hq _ (by omega) (by omega) (by omega) (by omega)]; exact hl5, by rw [hq _ (by omega) (by omega) (by omega) (by omega)]; exact hl6⟩, ?_⟩
      · by_cases hjk : j = k
        · rw [hjk, hX0]; omega
        · rw [hq _ (by omega) (by omega) (by omega) (by omega)]; exact hnum j (by omega)
      · rcases h7 with h7 | ⟨E', t, hE1, hE2, hE3⟩
        · exact Or.inl h7
        · refine Or.inr ⟨E', t, hE1, hE2, ?_⟩
          have hsnd : rd_of M ≠ none := fun e => by rw [e] at hE1; cases hE1
          obtain ⟨⟨q1, q2, q3, q4, q5, q6⟩, ql⟩ := hE hsnd
          obtain ⟨z, ⟨hz1, hz2⟩, rfl⟩ := hE3
          refine ⟨⟨ct_app q1 ql (fun j hj => ⟨hq _ (by omega) (by omega) (by omega) (by omega), hq _ (by omega) (by omega) (by omega) (by omega)⟩) ⟨hX0, hX1, ?_⟩, ?_, ?_, ?_, ?_, ?_⟩, by simp [ql]⟩
          · intro h; exact absurd (Or.inl rfl) h
          · rw [g9 c (by omega) (by omega)]; exact hz1
          · rw [g9 c (by omega) (by omega), hz2, g42 c (by omega) (by omega) (by omega)]
            obtain ⟨z1, z2⟩ := z
            cases z2 with
            | none => exact q3
            | some v => rfl
          · rw [hcj 13 (by omega) (by omega)]; exact q4
          · exact nl_is_cg2 hl5 (fun q a1 a2 => hq q (by omega) (by omega) (by omega) (by omega)) q5
          · exact nl_is_cg2 hl6 (fun q a1 a2 => hq q (by omega) (by omega) (by omega) (by omega)) q6
    by_cases sw46_2 : w = 2
    · skip
      refine xv_tsIn hX (nI_toInt (by omega)) (tgt := 80) dc_CT_readExtension_46 (by omega) (by omega) (by rw [sw46_2]; rfl) (by decide) ?_
      refine xv_aload_n hX 0 dc_CT_readExtension_80 rfl (rfl : _ = 81) ?_
      refine xv_aload_n hX 1 dc_CT_readExtension_81 rfl (rfl : _ = 82) ?_
      refine xv_callv hX (As := [.ref (Y.2.2.2 1)]) (rest := []) (ct_CT_readUsage _ Y M42 c hc i42 (hd42.mono (by decide))) ml_CT_158 li_CT_readUsage hc.1 (xk_N (by omega)) rfl rfl rfl (by decide) ⟨by decide, by decide⟩ ⟨Nat.le_refl _, Nat.le_refl _⟩ (Nat.le_of_ble_eq_true rfl) dc_CT_readExtension_82 (rfl : _ = 85) (fun M9 p82 => ?_)
      obtain ⟨i9, fS, fc, h9⟩ := p82
      rw [b42] at h9
      rw [e42] at h9
      refine xv_goto hX (pq := 101) dc_CT_readExtension_85 (by decide) ?_
      refine xv_aload_n hX 1 dc_CT_readExtension_101 rfl (rfl : _ = 102) ?_
      refine xv_callv hX (As := []) (rest := []) (ct_RD_close _ Y M9 i9) ml_CT_125 li_RD_close rfl (by decide) rfl rfl rfl (by decide) ⟨by decide, by decide⟩ ⟨Nat.le_refl _, Nat.le_refl _⟩ (Nat.le_of_ble_eq_true rfl) dc_CT_readExtension_102 (rfl : _ = 105) (fun M101 p102 => ?_)
      obtain ⟨i101, f101, e101⟩ := p102
      refine xv_aload_n hX 1 dc_CT_readExtension_105 rfl (rfl : _ = 106) ?_
      refine xv_callv hX (As := []) (rest := []) (ct_RD_close _ Y M101 i101) ml_CT_125 li_RD_close rfl (by decide) rfl rfl rfl (by decide) ⟨by decide, by decide⟩ ⟨Nat.le_refl _, Nat.le_refl _⟩ (Nat.le_of_ble_eq_true rfl) dc_CT_readExtension_106 (rfl : _ = 109) (fun M105 p106 => ?_)
      obtain ⟨i105, f105, e105⟩ := p106
      refine xv_retv hX hR dc_CT_readExtension_109 ?_
      have g9 : rd_F M9 M105 := f101.tr f105
      have hq : ∀ q, q ≠ 1 → q ≠ 4 → q ≠ c → q ≠ (c + 6 + 2 * k) → M105 q = M q := fun q a1 a2 a3 a4 => by rw [g9 q a1 a2, fS q a1 a2 a3, g42 q a1 a2 a4]
      have hcj : ∀ j, j ≠ 13 → M105 c j = M c j := fun j a1 => by rw [g9 c (by omega) (by omega), fc j a1, g42 c (by omega) (by omega) (by omega)]
      have hX : ∀ j, M105 (c + 6 + 2 * k) j = M42 (c + 6 + 2 * k) j := fun j => by rw [g9 _ (by omega) (by omega), fS _ (by omega) (by omega) (by omega)]
      have hX0 : M105 (c + 6 + 2 * k) 0 = w := by rw [hX, gX0]
      have hX1 : M105 (c + 6 + 2 * k) 1 = if (rd_is (M 3) 1 (rd_of M24)) = true then 1 else 0 := by rw [hX, gX1]
      have h6 := rs_con2 (c := (rd_is (M 3) 1 (rd_of M24))) (E := E) h9
      have hw9 : w = 2 := sw46_2
      subst hw9
      have h7 := rs_ext (hd.mono (by decide)) h11 hs3 h34 h6
      rw [← e101, ← e105] at h7
      refine ⟨i105, fun q a1 a2 a3 => hq q a1 a2 (by omega) (by omega), (hcj 10 (by omega)).trans h10, fun j hj => ?_, ⟨fun j a1 a2 a3 a4 => hcj j a4, fun q a1 a2 => hq q (by omega) (by omega) (by omega) (by omega)⟩, ⟨by rw [hq _ (by omega) (by omega) (by omega) (by omega)]; exact hl5, by rw [hq _ (by omega) (by omega) (by omega) (by omega)]; exact hl6⟩, ?_⟩
      · by_cases hjk : j = k
        · rw [hjk, hX0]; omega
        · rw [hq _ (by omega) (by omega) (by omega) (by omega)]; exact hnum j (by omega)
      · rcases h7 with h7 | ⟨E', t, hE1, hE2, hE3⟩
        · exact Or.inl h7
        · refine Or.inr ⟨E', t, hE1, hE2, ?_⟩
          have hsnd : rd_of M ≠ none := fun e => by rw [e] at hE1; cases hE1
          obtain ⟨⟨q1, q2, q3, q4, q5, q6⟩, ql⟩ := hE hsnd
          obtain ⟨z, hz1, rfl⟩ := hE3
          refine ⟨⟨ct_app q1 ql (fun j hj => ⟨hq _ (by omega) (by omega) (by omega) (by omega), hq _ (by omega) (by omega) (by omega) (by omega)⟩) ⟨hX0, hX1, ?_⟩, ?_, ?_, ?_, ?_, ?_⟩, by simp [ql]⟩
          · intro h; exact absurd (Or.inr (Or.inl rfl)) h
          · rw [hcj 11 (by omega)]; exact q2
          · rw [hcj 12 (by omega)]; exact q3
          · rw [g9 c (by omega) (by omega)]; exact hz1
          · exact nl_is_cg2 hl5 (fun q a1 a2 => hq q (by omega) (by omega) (by omega) (by omega)) q5
          · exact nl_is_cg2 hl6 (fun q a1 a2 => hq q (by omega) (by omega) (by omega) (by omega)) q6
    by_cases sw46_3 : w = 3
    · skip
      refine xv_tsIn hX (nI_toInt (by omega)) (tgt := 88) dc_CT_readExtension_46 (by omega) (by omega) (by rw [sw46_3]; rfl) (by decide) ?_
      refine xv_aload_n hX 0 dc_CT_readExtension_88 rfl (rfl : _ = 89) ?_
      refine xv_aload_n hX 1 dc_CT_readExtension_89 rfl (rfl : _ = 90) ?_
      refine xv_callv hX (As := [.ref (Y.2.2.2 1)]) (rest := []) (ct_CT_readBounds _ Y M42 c hc i42 hd42) ml_CT_161 li_CT_readBounds hc.1 (xk_N (by omega)) rfl rfl rfl (by decide) ⟨by decide, by decide⟩ ⟨Nat.le_refl _, Nat.le_refl _⟩ (Nat.le_of_ble_eq_true rfl) dc_CT_readExtension_90 (rfl : _ = 93) (fun M9 p90 => ?_)
      obtain ⟨i9, fS, z5, z6, h9⟩ := p90
      rw [b42] at h9
      rw [e42] at h9
      refine xv_goto hX (pq := 101) dc_CT_readExtension_93 (by decide) ?_
      refine xv_aload_n hX 1 dc_CT_readExtension_101 rfl (rfl : _ = 102) ?_
      refine xv_callv hX (As := []) (rest := []) (ct_RD_close _ Y M9 i9) ml_CT_125 li_RD_close rfl (by decide) rfl rfl rfl (by decide) ⟨by decide, by decide⟩ ⟨Nat.le_refl _, Nat.le_refl _⟩ (Nat.le_of_ble_eq_true rfl) dc_CT_readExtension_102 (rfl : _ = 105) (fun M101 p102 => ?_)
      obtain ⟨i101, f101, e101⟩ := p102
      refine xv_aload_n hX 1 dc_CT_readExtension_105 rfl (rfl : _ = 106) ?_
      refine xv_callv hX (As := []) (rest := []) (ct_RD_close _ Y M101 i101) ml_CT_125 li_RD_close rfl (by decide) rfl rfl rfl (by decide) ⟨by decide, by decide⟩ ⟨Nat.le_refl _, Nat.le_refl _⟩ (Nat.le_of_ble_eq_true rfl) dc_CT_readExtension_106 (rfl : _ = 109) (fun M105 p106 => ?_)
      obtain ⟨i105, f105, e105⟩ := p106
      refine xv_retv hX hR dc_CT_readExtension_109 ?_
      have g9 : rd_F M9 M105 := f101.tr f105
      have hq : ∀ q, q ≠ 1 → q ≠ 4 → (q < c + 14 ∨ c + 30 ≤ q) → q ≠ (c + 6 + 2 * k) → M105 q = M q := fun q a1 a2 a3 a4 => by rw [g9 q a1 a2, fS q a1 a2 a3, g42 q a1 a2 a4]
      have hcj : ∀ j, M105 c j = M c j := fun j => by rw [hq c (by omega) (by omega) (by omega) (by omega)]
      have hX : ∀ j, M105 (c + 6 + 2 * k) j = M42 (c + 6 + 2 * k) j := fun j => by rw [g9 _ (by omega) (by omega), fS _ (by omega) (by omega) (by omega)]
      have hX0 : M105 (c + 6 + 2 * k) 0 = w := by rw [hX, gX0]
      have hX1 : M105 (c + 6 + 2 * k) 1 = if (rd_is (M 3) 1 (rd_of M24)) = true then 1 else 0 := by rw [hX, gX1]
      have h6 := rs_con3 (c := (rd_is (M 3) 1 (rd_of M24))) (E := E) h9
      have hw9 : w = 3 := sw46_3
      subst hw9
      have h7 := rs_ext (hd.mono (by decide)) h11 hs3 h34 h6
      rw [← e101, ← e105] at h7
      refine ⟨i105, fun q a1 a2 a3 => hq q a1 a2 (by omega) (by omega), (hcj 10 ).trans h10, fun j hj => ?_, ⟨fun j a1 a2 a3 a4 => hcj j , fun q a1 a2 => hq q (by omega) (by omega) (by omega) (by omega)⟩, ⟨by rw [g9 _ (by omega) (by omega)]; exact z5, by rw [g9 _ (by omega) (by omega)]; exact z6⟩, ?_⟩
      · by_cases hjk : j = k
        · rw [hjk, hX0]; omega
        · rw [hq _ (by omega) (by omega) (by omega) (by omega)]; exact hnum j (by omega)
      · rcases h7 with h7 | ⟨E', t, hE1, hE2, hE3⟩
        · exact Or.inl h7
        · refine Or.inr ⟨E', t, hE1, hE2, ?_⟩
          have hsnd : rd_of M ≠ none := fun e => by rw [e] at hE1; cases hE1
          obtain ⟨⟨q1, q2, q3, q4, q5, q6⟩, ql⟩ := hE hsnd
          obtain ⟨z, ⟨hz1, hz2⟩, rfl⟩ := hE3
          refine ⟨⟨ct_app q1 ql (fun j hj => ⟨hq _ (by omega) (by omega) (by omega) (by omega), hq _ (by omega) (by omega) (by omega) (by omega)⟩) ⟨hX0, hX1, ?_⟩, ?_, ?_, ?_, ?_, ?_⟩, by simp [ql]⟩
          · intro h; exact absurd (Or.inr (Or.inr rfl)) h
          · rw [hcj 11]; exact q2
          · rw [hcj 12]; exact q3
          · rw [hcj 13]; exact q4
          · exact nl_is_cg2 z5 (fun q a1 a2 => g9 q (by omega) (by omega)) hz1
          · exact nl_is_cg2 z6 (fun q a1 a2 => g9 q (by omega) (by omega)) hz2
    refine xv_tsOut hX (nI_toInt (by omega)) (tgt := 96) dc_CT_readExtension_46 (by omega) (by decide) ?_
    refine xv_aload_n hX 2 dc_CT_readExtension_96 rfl (rfl : _ = 97) ?_
    refine xv_aload_n hX 1 dc_CT_readExtension_97 rfl (rfl : _ = 98) ?_
    refine xv_callv hX (As := [.ref (Y.2.2.2 1)]) (rest := []) (ct_EX_readOctets _ Y M42 (c + 6 + 2 * k) hxp i42) ml_CT_164 li_EX_readOctets (hc.2.2.2.1.2.2 _ (by omega)).2.1 (xk_N (by omega)) rfl rfl rfl (by decide) ⟨by decide, by decide⟩ ⟨Nat.le_refl _, Nat.le_refl _⟩ (Nat.le_of_ble_eq_true rfl) dc_CT_readExtension_98 (rfl : _ = 101) (fun M9 p98 => ?_)
    obtain ⟨i9, ⟨fS, fx0, fx1⟩, h9, ho9⟩ := p98
    rw [b42] at ho9
    rw [e42] at h9
    refine xv_aload_n hX 1 dc_CT_readExtension_101 rfl (rfl : _ = 102) ?_
    refine xv_callv hX (As := []) (rest := []) (ct_RD_close _ Y M9 i9) ml_CT_125 li_RD_close rfl (by decide) rfl rfl rfl (by decide) ⟨by decide, by decide⟩ ⟨Nat.le_refl _, Nat.le_refl _⟩ (Nat.le_of_ble_eq_true rfl) dc_CT_readExtension_102 (rfl : _ = 105) (fun M101 p102 => ?_)
    obtain ⟨i101, f101, e101⟩ := p102
    refine xv_aload_n hX 1 dc_CT_readExtension_105 rfl (rfl : _ = 106) ?_
    refine xv_callv hX (As := []) (rest := []) (ct_RD_close _ Y M101 i101) ml_CT_125 li_RD_close rfl (by decide) rfl rfl rfl (by decide) ⟨by decide, by decide⟩ ⟨Nat.le_refl _, Nat.le_refl _⟩ (Nat.le_of_ble_eq_true rfl) dc_CT_readExtension_106 (rfl : _ = 109) (fun M105 p106 => ?_)
    obtain ⟨i105, f105, e105⟩ := p106
    refine xv_retv hX hR dc_CT_readExtension_109 ?_
    have g9 : rd_F M9 M105 := f101.tr f105
    have hq : ∀ q, q ≠ 1 → q ≠ 4 → q ≠ (c + 6 + 2 * k) → q ≠ (c + 6 + 2 * k) + 1 → M105 q = M q := fun q a1 a2 a3 a4 => by rw [g9 q a1 a2, fS q a1 a2 a3 a4, g42 q a1 a2 a3]
    have hcj : ∀ j, M105 c j = M c j := fun j => by rw [hq c (by omega) (by omega) (by omega) (by omega)]
    have hX0 : M105 (c + 6 + 2 * k) 0 = w := by rw [g9 _ (by omega) (by omega), fx0, gX0]
    have hX1 : M105 (c + 6 + 2 * k) 1 = if (rd_is (M 3) 1 (rd_of M24)) = true then 1 else 0 := by rw [g9 _ (by omega) (by omega), fx1, gX1]
    have h6 := rs_con4 (b := M 3) (c := (rd_is (M 3) 1 (rd_of M24))) (E := E) (num := w) (by omega) h9
    have h7 := rs_ext (hd.mono (by decide)) h11 hs3 h34 h6
    rw [← e101, ← e105] at h7
    refine ⟨i105, fun q a1 a2 a3 => hq q a1 a2 (by omega) (by omega), (hcj 10 ).trans h10, fun j hj => ?_, ⟨fun j a1 a2 a3 a4 => hcj j , fun q a1 a2 => hq q (by omega) (by omega) (by omega) (by omega)⟩, ⟨by rw [hq _ (by omega) (by omega) (by omega) (by omega)]; exact hl5, by rw [hq _ (by omega) (by omega) (by omega) (by omega)]; exact hl6⟩, ?_⟩
    · by_cases hjk : j = k
      · rw [hjk, hX0]; omega
      · rw [hq _ (by omega) (by omega) (by omega) (by omega)]; exact hnum j (by omega)
    · rcases h7 with h7 | ⟨E', t, hE1, hE2, hE3⟩
      · exact Or.inl h7
      · refine Or.inr ⟨E', t, hE1, hE2, ?_⟩
        have hsnd : rd_of M ≠ none := fun e => by rw [e] at hE1; cases hE1
        obtain ⟨⟨q1, q2, q3, q4, q5, q6⟩, ql⟩ := hE hsnd
        obtain ⟨i, l, ls, hz1, hz2, rfl⟩ := hE3
        refine ⟨⟨ct_app q1 ql (fun j hj => ⟨hq _ (by omega) (by omega) (by omega) (by omega), hq _ (by omega) (by omega) (by omega) (by omega)⟩) ⟨hX0, hX1, ?_⟩, ?_, ?_, ?_, ?_, ?_⟩, by simp [ql]⟩
        · intro _
          obtain ⟨r1, r2⟩ := ho9 i l ls (by rw [e42]; exact hz1) hz2
          rw [g9 _ (by omega) (by omega), g9 _ (by omega) (by omega)]
          refine ⟨by rw [r1]; exact (ps_sl_len _ _ _).symm, fun j hj => ?_⟩
          have hj : j < (ps_sl (M 3) i l).length := hj
          rw [ps_sl_len] at hj
          rw [r2 j hj]
          simp [ps_sl, hj]
        · rw [hcj 11]; exact q2
        · rw [hcj 12]; exact q3
        · rw [hcj 13]; exact q4
        · exact nl_is_cg2 hl5 (fun q a1 a2 => hq q (by omega) (by omega) (by omega) (by omega)) q5
        · exact nl_is_cg2 hl6 (fun q a1 a2 => hq q (by omega) (by omega) (by omega) (by omega)) q6
