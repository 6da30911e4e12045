/-! Certificate: all of it is read -/
set_option maxRecDepth 100000 in
set_option maxHeartbeats 4000000 in
theorem ct_CT_readFrom (l : Launch) (Y : xw_Y) (M : xm_M) (c : Nat) (hc : xk_ct c) (h1 : M 2 1 ≤ 160) (h2 : ∀ j, j < 160 → M 3 j < 256) : xc_i l qm_CT_readFrom 5 Y [.ref (Y.2.2.2 c), .ref (Y.2.2.2 1)] M (fun r M1 => rd_I M1 ∧ ct_F c M M1 ∧ ∃ t : Nat, r = nI t ∧ t < 2 ∧ (t = 1 → ∃ C, ps_cert (M 3) 0 (M 2 1) = some C ∧ ct_C (M 3) M1 c C) ∧ (t = 0 → ps_cert (M 3) 0 (M 2 1) = none)) := by
  refine xc_i.mk .boolean rfl (by decide) (Nat.le_of_ble_eq_true rfl) ?_
  intro X hXl hX hR
  subst hXl
  have hX : xv_ok X Y prog_3_method_11_code "CertificatePath$Certificate" 3 (xc_rm 5) := hX
  show xv_V X Y 3 0 0 xw_lk xw_N M 0 [(0, .ref (Y.2.2.2 c)), (1, .ref (Y.2.2.2 1))] []
  have hc6 : 6 ≤ c := hc.2.2.2.2.2.2.1
  have hc29 : c + 29 < 276 := hc.2.2.2.2.2.2.2
  refine xv_aload_n hX 0 dc_CT_readFrom_0 rfl (rfl : _ = 1) ?_
  refine xv_callv hX (As := []) (rest := []) (ct_CT_forgetExtensions _ Y M c hc) ml_CT_38 li_CT_forgetExtensions hc.1 (xk_N (by omega)) rfl rfl rfl (by decide) ⟨by decide, by decide⟩ ⟨Nat.le_refl _, Nat.le_refl _⟩ (Nat.le_of_ble_eq_true rfl) dc_CT_readFrom_1 (rfl : _ = 4) (fun M1 p1 => ?_)
  have g1 : ∀ q, q ≠ c → q ≠ c + 14 → q ≠ c + 22 → M1 q = M q := fun q a1 a2 a3 => by rw [p1, xm_oth a3, xm_oth a2, xm_oth a1, xm_oth a1, xm_oth a1, xm_oth a1]
  have y10 : M1 c 10 = 0 := by rw [p1, xm_np (by omega), xm_np (by omega), xm_nk (by decide), xm_nk (by decide), xm_nk (by decide), xm_eq]
  have y11 : M1 c 11 = 0 := by rw [p1, xm_np (by omega), xm_np (by omega), xm_nk (by decide), xm_nk (by decide), xm_eq]
  have y12 : M1 c 12 = 4294967295 := by rw [p1, xm_np (by omega), xm_np (by omega), xm_nk (by decide), xm_eq]
  have y13 : M1 c 13 = 4294967295 := by rw [p1, xm_np (by omega), xm_np (by omega), xm_eq]
  have y14 : M1 (c + 14) 1 = 0 := by rw [p1, xm_np (by omega), xm_eq]
  have y22 : M1 (c + 22) 1 = 0 := by rw [p1, xm_eq]
  have v2 : M1 2 = M 2 := g1 2 (by omega) (by omega) (by omega)
  have v3 : M1 3 = M 3 := g1 3 (by omega) (by omega) (by omega)
  refine xv_aload_n hX 1 dc_CT_readFrom_4 rfl (rfl : _ = 5) ?_
  refine xv_callv hX (As := []) (rest := []) (ct_RD_start _ Y M1 (by rw [v2]; exact h1) (by rw [v3]; exact h2)) ml_CT_97 li_RD_start rfl (by decide) rfl rfl rfl (by decide) ⟨by decide, by decide⟩ ⟨Nat.le_refl _, Nat.le_refl _⟩ (Nat.le_of_ble_eq_true rfl) dc_CT_readFrom_5 (rfl : _ = 8) (fun M5 p5 => ?_)
  obtain ⟨i5, f5, e5⟩ := p5
  rw [v2] at e5
  have b5 : M5 3 = M 3 := by rw [f5 3 (by decide) (by decide), v3]
  have hd5 : rd_D 10 (some (0, [M 2 1])) := fun i l ls h => by simp only [Option.some.injEq, Prod.mk.injEq, List.cons.injEq] at h; rw [← h.2.2]; decide
  refine xv_aload_n hX 1 dc_CT_readFrom_8 rfl (rfl : _ = 9) ?_
  refine xv_bipush hX (v := nI 48) dc_CT_readFrom_9 (by decide) (rfl : _ = 11) ?_
  refine xv_callv hX (As := [.int (nI 48)]) (rest := []) (ct_RD_open _ Y M5 48 i5 (by decide)) ml_CT_102 li_RD_open rfl (by decide) rfl rfl rfl (by decide) ⟨by decide, by decide⟩ ⟨Nat.le_refl _, Nat.le_refl _⟩ (Nat.le_of_ble_eq_true rfl) dc_CT_readFrom_11 (rfl : _ = 14) (fun M11 p11 => ?_)
  obtain ⟨i11, f11, e11⟩ := p11
  rw [b5, e5] at e11
  have b11 : M11 3 = M 3 := by rw [f11 3 (by decide) (by decide), b5]
  have hd11 : rd_D 9 (rd_of M11) := by rw [e11]; exact rd_D.opn hd5
  have at11 : M11 1 3 ≤ 160 := by have h := i11.2.2.2.1; have h9 := i11.1; omega
  refine xv_aload_n hX 1 dc_CT_readFrom_14 rfl (rfl : _ = 15) ?_
  refine xv_geti hX fl_CT_106 rfl rfl (by decide) (v := M11 1 3) rfl dc_CT_readFrom_15 (rfl : _ = 18) ?_
  refine xv_istore_n hX [1, 2, 0] dc_CT_readFrom_18 (by decide) (L' := [(0, .ref (Y.2.2.2 c)), (1, .ref (Y.2.2.2 1)), (2, .int (nI (M11 1 3)))]) rfl (rfl : _ = 19) ?_
  refine xv_aload_n hX 1 dc_CT_readFrom_19 rfl (rfl : _ = 20) ?_
  refine xv_bipush hX (v := nI 48) dc_CT_readFrom_20 (by decide) (rfl : _ = 22) ?_
  refine xv_callv hX (As := [.int (nI 48)]) (rest := []) (ct_RD_open _ Y M11 48 i11 (by decide)) ml_CT_102 li_RD_open rfl (by decide) rfl rfl rfl (by decide) ⟨by decide, by decide⟩ ⟨Nat.le_refl _, Nat.le_refl _⟩ (Nat.le_of_ble_eq_true rfl) dc_CT_readFrom_22 (rfl : _ = 25) (fun M22 p22 => ?_)
  obtain ⟨i22, f22, e22⟩ := p22
  rw [b11] at e22
  have b22 : M22 3 = M 3 := by rw [f22 3 (by decide) (by decide), b11]
  have hd22 : rd_D 8 (rd_of M22) := by rw [e22]; exact rd_D.opn hd11
  refine xv_aload_n hX 0 dc_CT_readFrom_25 rfl (rfl : _ = 26) ?_
  refine xv_aload_n hX 1 dc_CT_readFrom_26 rfl (rfl : _ = 27) ?_
  refine xv_callv hX (As := [.ref (Y.2.2.2 1)]) (rest := []) (ct_CT_readHead _ Y M22 c hc i22 (hd22.mono (by decide))) ml_CT_109 li_CT_readHead hc.1 (xk_N (by omega)) rfl rfl rfl (by decide) ⟨by decide, by decide⟩ ⟨Nat.le_refl _, Nat.le_refl _⟩ (Nat.le_of_ble_eq_true rfl) dc_CT_readFrom_27 (rfl : _ = 30) (fun M27 p27 => ?_)
  obtain ⟨i27, f27, s27, h27⟩ := p27
  rw [b22, e22] at h27
  have b27 : M27 3 = M 3 := by rw [f27 3 (by decide) (by decide) (by omega), b22]
  have hd27 : rd_D 8 (rd_of M27) := rs_D h27 (by rw [← e22]; exact hd22)
  have g22 : rd_F M1 M22 := (f5.tr f11).tr f22
  have z27 : M27 c 10 = 0 := by rw [s27 10 (by decide) (by decide) (by decide) (by decide) (by decide), g22 c (by omega) (by omega)]; exact y10
  have l527 : M27 (c + 14) 1 ≤ 3 := by rw [f27 _ (by omega) (by omega) (by omega), g22 _ (by omega) (by omega), y14]; decide
  have l627 : M27 (c + 22) 1 ≤ 3 := by rw [f27 _ (by omega) (by omega) (by omega), g22 _ (by omega) (by omega), y22]; decide
  have hE27 : ct_E M27 c ps_E0 := ct_E00 (by rw [s27 11 (by decide) (by decide) (by decide) (by decide) (by decide), g22 c (by omega) (by omega)]; exact y11) (by rw [s27 12 (by decide) (by decide) (by decide) (by decide) (by decide), g22 c (by omega) (by omega)]; exact y12) (by rw [s27 13 (by decide) (by decide) (by decide) (by decide) (by decide), g22 c (by omega) (by omega)]; exact y13) (by rw [f27 _ (by omega) (by omega) (by omega), g22 _ (by omega) (by omega)]; exact y14) (by rw [f27 _ (by omega) (by omega) (by omega), g22 _ (by omega) (by omega)]; exact y22)
  have F27 : ct_F c M M27 := fun q a1 a2 a3 => by rw [f27 q a1 a2 (by omega), g22 q a1 a2, g1 q (by omega) (by omega) (by omega)]
  refine xv_aload_n hX 1 dc_CT_readFrom_30 rfl (rfl : _ = 31) ?_
  refine xv_sipush hX (v := nI 163) dc_CT_readFrom_31 (by decide) (rfl : _ = 34) ?_
  refine xv_calli hX (As := [.int (nI 163)]) (rest := []) (ct_RD_nextIs _ Y M27 163 i27 (by decide)) ml_CT_113 li_RD_nextIs rfl (by decide) rfl rfl rfl (by decide) ⟨by decide, by decide⟩ ⟨Nat.le_refl _, Nat.le_refl _⟩ (Nat.le_of_ble_eq_true rfl) dc_CT_readFrom_34 (rfl : _ = 37) (fun r34 M34 p34 => ?_)
  rw [b27] at p34
  rw [p34.1, p34.2]
  have hif : (if rd_is (M 3) 163 (rd_of M27) = true then 1 else 0) < 2 := by split <;> decide
  refine xv_if_eq hX (nI_toInt (by omega)) (tgt := 104) (pq := 40) dc_CT_readFrom_37 (by decide) rfl (fun c37 => ?_) (fun c37 => ?_)
  · skip
    have hnx : rd_is (M 3) 163 (rd_of M27) = false := by cases h : rd_is (M 3) 163 (rd_of M27) with
      | false => rfl
      | true => rw [h] at c37; simp at c37
    refine xv_aload_n hX 1 dc_CT_readFrom_104 rfl (rfl : _ = 105) ?_
    refine xv_callv hX (As := []) (rest := []) (ct_RD_close _ Y M27 i27) ml_CT_125 li_RD_close rfl (by decide) rfl rfl rfl (by decide) ⟨by decide, by decide⟩ ⟨Nat.le_refl _, Nat.le_refl _⟩ (Nat.le_of_ble_eq_true rfl) dc_CT_readFrom_105 (rfl : _ = 108) (fun M105 p105 => ?_)
    obtain ⟨i105, f105, e105⟩ := p105
    have hmore : rs_ok (rd_run (ps_more (M 3)) (rd_of M27)) (rd_of M27) (fun E => (ct_E M27 c E ∧ E.1.length ≤ 4) ∧ M27 c 10 = E.1.length) := (rs_moreF (fun i h => rd_of_nil h) hnx).imp (fun E hE => by rw [hE]; exact ⟨⟨hE27, by decide⟩, z27⟩)
    have F9 : ct_F c M27 M105 := ct_F.of f105
    have S9 : ct_S c M27 M105 := ⟨fun j _ _ _ _ => by rw [f105 c (by omega) (by omega)], fun q a1 a2 => f105 q (by omega) (by omega)⟩
    have hb := rs_in (hd11.mono (by decide)) (rs_and h27 hmore)
    rw [← e105] at hb
    have hb := rs_pos (hb.imp (W := fun z => ct_H M105 c z.1 ∧ ct_E M105 c z.2 ∧ M105 c 10 = z.2.1.length ∧ z.2.1.length ≤ 4 ∧ M105 (c + 14) 1 ≤ 3 ∧ M105 (c + 22) 1 ≤ 3) (fun z hz => ⟨⟨by rw [f105 c (by omega) (by omega)]; exact hz.1.1, nm_is_cg (f105 _ (by omega) (by omega)) (f105 _ (by omega) (by omega)) hz.1.2.1, ⟨by rw [f105 c (by omega) (by omega)]; exact hz.1.2.2.1.1, by rw [f105 c (by omega) (by omega)]; exact hz.1.2.2.1.2⟩, nm_is_cg (f105 _ (by omega) (by omega)) (f105 _ (by omega) (by omega)) hz.1.2.2.2.1, by rw [f105 c (by omega) (by omega)]; exact hz.1.2.2.2.2.1, by rw [f105 c (by omega) (by omega)]; exact hz.1.2.2.2.2.2⟩, ct_E_cg hz.2.1.1 (by rw [f105 c (by omega) (by omega)]) (by rw [f105 c (by omega) (by omega)]) (by rw [f105 c (by omega) (by omega)]) hz.2.1.2 l527 l627 (fun q a1 a2 => f105 q (by omega) (by omega)), by rw [f105 c (by omega) (by omega)]; exact hz.2.2, hz.2.1.2, by rw [f105 _ (by omega) (by omega)]; exact l527, by rw [f105 _ (by omega) (by omega)]; exact l627⟩))
    refine xv_aload_n hX 0 dc_CT_readFrom_108 rfl (rfl : _ = 109) ?_
    refine xv_aload_n hX 1 dc_CT_readFrom_109 rfl (rfl : _ = 110) ?_
    refine xv_iload_n hX 2 dc_CT_readFrom_110 rfl (rfl : _ = 111) ?_
    refine xv_calli hX (As := [.int (nI (M11 1 3))]) (rest := [.ref (Y.2.2.2 c)]) (ct_RD_hashSince _ Y M105 (M11 1 3) i105 at11) ml_CT_128 li_RD_hashSince rfl (by decide) rfl rfl rfl (by decide) ⟨by decide, by decide⟩ ⟨Nat.le_refl _, Nat.le_refl _⟩ (Nat.le_of_ble_eq_true rfl) dc_CT_readFrom_111 (rfl : _ = 114) (fun r111 M111 p111 => ?_)
    have b105 : M105 3 = M 3 := by rw [F9 3 (by decide) (by decide) (by omega), b27]
    rw [b105] at p111
    rw [p111.1, p111.2]
    have hcH : ∀ q, q < 6 → (xm_set M105 c 8 (ps_hash (M 3) (M11 1 3) (M105 1 3 - M11 1 3))) q = M105 q := fun q hq => xm_oth (by omega)
    have iH : rd_I (xm_set M105 c 8 (ps_hash (M 3) (M11 1 3) (M105 1 3 - M11 1 3))) := i105.cg hcH
    have oH : rd_of (xm_set M105 c 8 (ps_hash (M 3) (M11 1 3) (M105 1 3 - M11 1 3))) = rd_of M105 := rd_of_cg hcH
    have bH : (xm_set M105 c 8 (ps_hash (M 3) (M11 1 3) (M105 1 3 - M11 1 3))) 3 = M 3 := by rw [hcH 3 (by decide), b105]
    have hd105 : rd_D 9 (rd_of M105) := rs_D hb hd11
    refine xv_puti hX fl_CT_76 rfl hc.1 (xk_N (by omega)) dc_CT_readFrom_114 (rfl : _ = 117) ?_
    refine xv_aload_n hX 0 dc_CT_readFrom_117 rfl (rfl : _ = 118) ?_
    refine xv_aload_n hX 1 dc_CT_readFrom_118 rfl (rfl : _ = 119) ?_
    refine xv_iconst hX (v := nI 0) dc_CT_readFrom_119 (by decide) (rfl : _ = 120) ?_
    refine xv_ldc hX (v := nI 2147483647) kc_CT_132 dc_CT_readFrom_120 (rfl : _ = 122) ?_
    refine xv_calli hX (As := [.int (nI 0), .int (nI 2147483647)]) (rest := [.ref (Y.2.2.2 c)]) (ct_RD_readInteger _ Y (xm_set M105 c 8 (ps_hash (M 3) (M11 1 3) (M105 1 3 - M11 1 3))) 0 2147483647 iH (by decide) (by decide)) ml_CT_133 li_RD_readInteger rfl (by decide) rfl rfl rfl (by decide) ⟨by decide, by decide⟩ ⟨Nat.le_refl _, Nat.le_refl _⟩ (Nat.le_of_ble_eq_true rfl) dc_CT_readFrom_122 (rfl : _ = 125) (fun r122 M122 p122 => ?_)
    obtain ⟨⟨i122, f122, e122⟩, w, z122, hwa, hwb, hwc⟩ := p122
    rw [z122]
    rw [oH, bH] at e122 hwc
    have h122 := rs_int (hd105.mono (by decide)) e122 hwc
    have hcS : ∀ q, q < 6 → (xm_set M122 c 7 w) q = M122 q := fun q hq => xm_oth (by omega)
    have iS : rd_I (xm_set M122 c 7 w) := i122.cg hcS
    have oS : rd_of (xm_set M122 c 7 w) = rd_of M122 := rd_of_cg hcS
    refine xv_puti hX fl_CT_73 rfl hc.1 (xk_N (by omega)) dc_CT_readFrom_125 (rfl : _ = 128) ?_
    refine xv_aload_n hX 1 dc_CT_readFrom_128 rfl (rfl : _ = 129) ?_
    refine xv_callv hX (As := []) (rest := []) (ct_RD_close _ Y (xm_set M122 c 7 w) iS) ml_CT_125 li_RD_close rfl (by decide) rfl rfl rfl (by decide) ⟨by decide, by decide⟩ ⟨Nat.le_refl _, Nat.le_refl _⟩ (Nat.le_of_ble_eq_true rfl) dc_CT_readFrom_129 (rfl : _ = 132) (fun M129 p129 => ?_)
    obtain ⟨i129, f129, e129⟩ := p129
    rw [oS] at e129
    have hcrt := rs_and hb h122
    rw [e11] at hcrt
    have hcrt := rs_in (hd5.mono (by decide)) hcrt
    rw [← e129] at hcrt
    have hfin := rs_cert hcrt
    refine xv_aload_n hX 1 dc_CT_readFrom_132 rfl (rfl : _ = 133) ?_
    refine xv_calli hX (As := []) (rest := []) (ct_RD_isAtEndOfRow _ Y M129 i129) ml_CT_137 li_RD_isAtEndOfRow rfl (by decide) rfl rfl rfl (by decide) ⟨by decide, by decide⟩ ⟨Nat.le_refl _, Nat.le_refl _⟩ (Nat.le_of_ble_eq_true rfl) dc_CT_readFrom_133 (rfl : _ = 136) (fun r133 M133 p133 => ?_)
    rw [p133.1, p133.2]
    have hif9 : (if rd_end (rd_of M129) = true then 1 else 0) < 2 := by split <;> decide
    refine xv_reti hX hR (xi_z hif9) dc_CT_readFrom_136 ?_
    have F129 : ct_F c M M129 := fun q a1 a2 a3 => by rw [f129 q a1 a2, xm_oth (by omega), f122 q a1 a2, xm_oth (by omega), F9 q a1 a2 a3, F27 q a1 a2 a3]
    have u129 : ∀ j, j ≠ 7 → j ≠ 8 → M129 c j = M105 c j := fun j a1 a2 => by rw [f129 c (by omega) (by omega), xm_nk a1, f122 c (by omega) (by omega), xm_nk a2]
    have v129 : ∀ q, q ≠ 1 → q ≠ 4 → q ≠ c → M129 q = M105 q := fun q a1 a2 a3 => by rw [f129 q a1 a2, xm_oth a3, f122 q a1 a2, xm_oth a3]
    refine ⟨i129, F129, _, rfl, hif9, fun ht => ?_, fun ht => ?_⟩
    · rcases hfin with ⟨-, C, hC, ⟨⟨hV1, hV2, hV3, hle9, hl59, hl69⟩, ⟨L1, hL1⟩, ⟨L2, hL2⟩⟩, hw9⟩ | ⟨h0, -⟩
      · refine ⟨C, hC, ?_, ?_, ?_, ?_, ?_⟩
        · exact ⟨by rw [u129 0 (by decide) (by decide)]; exact hV1.1, nm_is_cg (v129 _ (by omega) (by omega) (by omega)) (v129 _ (by omega) (by omega) (by omega)) hV1.2.1, ⟨by rw [u129 2 (by decide) (by decide)]; exact hV1.2.2.1.1, by rw [u129 3 (by decide) (by decide)]; exact hV1.2.2.1.2⟩, nm_is_cg (v129 _ (by omega) (by omega) (by omega)) (v129 _ (by omega) (by omega) (by omega)) hV1.2.2.2.1, by rw [u129 5 (by decide) (by decide)]; exact hV1.2.2.2.2.1, by rw [u129 6 (by decide) (by decide)]; exact hV1.2.2.2.2.2⟩
        · exact ct_E_cg hV2 (u129 11 (by decide) (by decide)) (u129 12 (by decide) (by decide)) (u129 13 (by decide) (by decide)) hle9 hl59 hl69 (fun q a1 a2 => v129 q (by omega) (by omega) (by omega))
        · rw [u129 10 (by decide) (by decide)]; exact hV3
        · rw [f129 c (by omega) (by omega), xm_nk (by decide), f122 c (by omega) (by omega), xm_eq]
          rw [← e11] at hL1
          rw [rd_of_at hL1, rd_of_at hL2]
        · rw [f129 c (by omega) (by omega), xm_eq]; exact hw9.symm
      · rw [h0] at ht
        exact absurd ht (by decide)
    · rcases hfin with ⟨h0, -⟩ | ⟨-, hC⟩
      · rw [h0] at ht
        exact absurd ht (by decide)
      · exact hC
  · skip
    have hnx : rd_is (M 3) 163 (rd_of M27) = true := by cases h : rd_is (M 3) 163 (rd_of M27) with
      | true => rfl
      | false => rw [h] at c37; simp at c37
    refine xv_aload_n hX 1 dc_CT_readFrom_40 rfl (rfl : _ = 41) ?_
    refine xv_sipush hX (v := nI 163) dc_CT_readFrom_41 (by decide) (rfl : _ = 44) ?_
    refine xv_callv hX (As := [.int (nI 163)]) (rest := []) (ct_RD_open _ Y M27 163 i27 (by decide)) ml_CT_102 li_RD_open rfl (by decide) rfl rfl rfl (by decide) ⟨by decide, by decide⟩ ⟨Nat.le_refl _, Nat.le_refl _⟩ (Nat.le_of_ble_eq_true rfl) dc_CT_readFrom_44 (rfl : _ = 47) (fun M44 p44 => ?_)
    obtain ⟨i44, f44, e44⟩ := p44
    rw [b27] at e44
    have b44 : M44 3 = M 3 := by rw [f44 3 (by decide) (by decide), b27]
    have hd44 : rd_D 7 (rd_of M44) := by rw [e44]; exact rd_D.opn hd27
    refine xv_aload_n hX 1 dc_CT_readFrom_47 rfl (rfl : _ = 48) ?_
    refine xv_bipush hX (v := nI 48) dc_CT_readFrom_48 (by decide) (rfl : _ = 50) ?_
    refine xv_callv hX (As := [.int (nI 48)]) (rest := []) (ct_RD_open _ Y M44 48 i44 (by decide)) ml_CT_102 li_RD_open rfl (by decide) rfl rfl rfl (by decide) ⟨by decide, by decide⟩ ⟨Nat.le_refl _, Nat.le_refl _⟩ (Nat.le_of_ble_eq_true rfl) dc_CT_readFrom_50 (rfl : _ = 53) (fun M50 p50 => ?_)
    obtain ⟨i50, f50, e50⟩ := p50
    rw [b44] at e50
    have b50 : M50 3 = M 3 := by rw [f50 3 (by decide) (by decide), b44]
    have hd50 : rd_D 6 (rd_of M50) := by rw [e50]; exact rd_D.opn hd44
    have g50 : rd_F M27 M50 := f44.tr f50
    have lp53 : ∀ (n : Nat) (Mk : xm_M) (k : Nat) (E : ps_E) (hk : k ≤ 3) (hz : Mk c 10 = k) (hIk : rd_I Mk) (hdk : rd_D 6 (rd_of Mk)) (hF : ct_F c M27 Mk) (hS : ct_S c M27 Mk) (hnum : ∀ j, j < k → Mk (c + 6 + 2 * j) 0 < 256) (hl5 : Mk (c + 14) 1 ≤ 3) (hl6 : Mk (c + 22) 1 ≤ 3) (hE : rd_of Mk ≠ none → ct_E Mk c E ∧ E.1.length = k) (hXE : (rd_run (ps_exts (M 3) 3 ps_E0) (rd_of M50)) = rd_run (ps_exts (M 3) (3 - k) E) (rd_of Mk)), 3 - k < n → xv_V X Y 3 0 0 xw_lk xw_N Mk 53 [(0, .ref (Y.2.2.2 c)), (1, .ref (Y.2.2.2 1)), (2, .int (nI (M11 1 3)))] [] := by
      intro n53
      induction n53 with
      | zero => intro Mk k E hk hz hIk hdk hF hS hnum hl5 hl6 hE hXE hm53; exact absurd hm53 (Nat.not_lt_zero _)
      | succ n53 ih53 =>
        intro Mk k E hk hz hIk hdk hF hS hnum hl5 hl6 hE hXE hm53
        refine xv_aload_n hX 0 dc_CT_readFrom_53 rfl (rfl : _ = 54) ?_
        refine xv_aload_n hX 1 dc_CT_readFrom_54 rfl (rfl : _ = 55) ?_
        refine xv_aload_n hX 0 dc_CT_readFrom_55 rfl (rfl : _ = 56) ?_
        refine xv_getr hX fl_CT_23 rfl hc.1 (xk_N (by omega)) hc.2.2.2.1.1 dc_CT_readFrom_56 (rfl : _ = 59) ?_
        refine xv_aload_n hX 0 dc_CT_readFrom_59 rfl (rfl : _ = 60) ?_
        refine xv_geti hX fl_CT_41 rfl hc.1 (xk_N (by omega)) (v := Mk c 10) rfl dc_CT_readFrom_60 (rfl : _ = 63) ?_
        have bk : Mk 3 = M 3 := by rw [hF 3 (by decide) (by decide) (by omega), b27]
        refine xv_aald hX hc.2.2.2.1.2.1 (C := xw_A4) rfl (xk_N (by omega)) (by omega) (by decide) (v := c + 6 + 2 * (Mk c 10)) ((hc.2.2.2.1.2.2 _ (by omega)).1) dc_CT_readFrom_63 (rfl : _ = 64) ?_
        rw [hz]
        refine xv_callv hX (As := [.ref (Y.2.2.2 1), .ref (Y.2.2.2 (c + 6 + 2 * k))]) (rest := []) (ct_CT_readExtension _ Y Mk c k E hc (by omega) hIk hdk hz hnum hl5 hl6 hE) ml_CT_117 li_CT_readExtension hc.1 (xk_N (by omega)) rfl rfl rfl (by decide) ⟨by decide, by decide⟩ ⟨Nat.le_refl _, Nat.le_refl _⟩ (Nat.le_of_ble_eq_true rfl) dc_CT_readFrom_64 (rfl : _ = 67) (fun M64 p64 => ?_)
        obtain ⟨i64, f64, z64, n64, s64, ⟨l564, l664⟩, h64⟩ := p64
        rw [bk] at h64
        have b64 : M64 3 = M 3 := by rw [f64 3 (by decide) (by decide) (by omega), bk]
        have hcI : ∀ q, q < 6 → (xm_set M64 c 10 (M64 c 10 + 1)) q = M64 q := fun q hq => xm_oth (by omega)
        have iI : rd_I (xm_set M64 c 10 (M64 c 10 + 1)) := i64.cg hcI
        have oI : rd_of (xm_set M64 c 10 (M64 c 10 + 1)) = rd_of M64 := rd_of_cg hcI
        have hd64 : rd_D 6 (rd_of M64) := rs_D h64 hdk
        have hEI : ∀ E', ct_E M64 c E' ∧ E'.1.length = k + 1 → ct_E (xm_set M64 c 10 (M64 c 10 + 1)) c E' ∧ E'.1.length = k + 1 := fun E' hq => ⟨ct_E_cg hq.1 (xm_nk (by decide)) (xm_nk (by decide)) (xm_nk (by decide)) (by omega) l564 l664 (fun q a1 a2 => xm_oth (by omega)), hq.2⟩
        have FI : ct_F c M27 (xm_set M64 c 10 (M64 c 10 + 1)) := fun q a1 a2 a3 => by rw [xm_oth (by omega), f64 q a1 a2 a3]; exact hF q a1 a2 a3
        have SI : ct_S c M27 (xm_set M64 c 10 (M64 c 10 + 1)) := ⟨fun j a1 a2 a3 a4 => by rw [xm_nk a1]; exact (hS.tr s64).1 j a1 a2 a3 a4, fun q a1 a2 => by rw [xm_oth (by omega)]; exact (hS.tr s64).2 q a1 a2⟩
        refine xv_aload_n hX 0 dc_CT_readFrom_67 rfl (rfl : _ = 68) ?_
        refine xv_dup hX dc_CT_readFrom_68 rfl (rfl : _ = 69) ?_
        refine xv_geti hX fl_CT_41 rfl hc.1 (xk_N (by omega)) (v := M64 c 10) rfl dc_CT_readFrom_69 (rfl : _ = 72) ?_
        refine xv_iconst hX (v := nI 1) dc_CT_readFrom_72 (by decide) (rfl : _ = 73) ?_
        refine xv_iadd hX dc_CT_readFrom_73 (nI_add (M64 c 10) 1) (rfl : _ = 74) ?_
        refine xv_puti hX fl_CT_41 rfl hc.1 (xk_N (by omega)) dc_CT_readFrom_74 (rfl : _ = 77) ?_
        refine xv_aload_n hX 1 dc_CT_readFrom_77 rfl (rfl : _ = 78) ?_
        refine xv_calli hX (As := []) (rest := []) (ct_RD_remaining _ Y (xm_set M64 c 10 (M64 c 10 + 1)) iI) ml_CT_121 li_RD_remaining rfl (by decide) rfl rfl rfl (by decide) ⟨by decide, by decide⟩ ⟨Nat.le_refl _, Nat.le_refl _⟩ (Nat.le_of_ble_eq_true rfl) dc_CT_readFrom_78 (rfl : _ = 81) (fun r78 M78 p78 => ?_)
        rw [p78.1, p78.2]
        have hn := rd_rem_le iI
        refine xv_if_le hX (nI_toInt (by omega)) (tgt := 96) (pq := 84) dc_CT_readFrom_81 (by decide) rfl (fun c81 => ?_) (fun c81 => ?_)
        · skip
          refine xv_aload_n hX 1 dc_CT_readFrom_96 rfl (rfl : _ = 97) ?_
          refine xv_callv hX (As := []) (rest := []) (ct_RD_close _ Y (xm_set M64 c 10 (M64 c 10 + 1)) iI) ml_CT_125 li_RD_close rfl (by decide) rfl rfl rfl (by decide) ⟨by decide, by decide⟩ ⟨Nat.le_refl _, Nat.le_refl _⟩ (Nat.le_of_ble_eq_true rfl) dc_CT_readFrom_97 (rfl : _ = 100) (fun M97 p97 => ?_)
          obtain ⟨i97, f97, e97⟩ := p97
          refine xv_aload_n hX 1 dc_CT_readFrom_100 rfl (rfl : _ = 101) ?_
          refine xv_callv hX (As := []) (rest := []) (ct_RD_close _ Y M97 i97) ml_CT_125 li_RD_close rfl (by decide) rfl rfl rfl (by decide) ⟨by decide, by decide⟩ ⟨Nat.le_refl _, Nat.le_refl _⟩ (Nat.le_of_ble_eq_true rfl) dc_CT_readFrom_101 (rfl : _ = 104) (fun M101 p101 => ?_)
          obtain ⟨i101, f101, e101⟩ := p101
          refine xv_aload_n hX 1 dc_CT_readFrom_104 rfl (rfl : _ = 105) ?_
          refine xv_callv hX (As := []) (rest := []) (ct_RD_close _ Y M101 i101) ml_CT_125 li_RD_close rfl (by decide) rfl rfl rfl (by decide) ⟨by decide, by decide⟩ ⟨Nat.le_refl _, Nat.le_refl _⟩ (Nat.le_of_ble_eq_true rfl) dc_CT_readFrom_105 (rfl : _ = 108) (fun M105 p105 => ?_)
          obtain ⟨i105, f105, e105⟩ := p105
          have g9 : rd_F (xm_set M64 c 10 (M64 c 10 + 1)) M105 := (f97.tr f101).tr f105
          have hx0 := rs_exts0 (k := k) (by omega) h64 (by rw [← oI]; omega)
          rw [← hXE, e50] at hx0
          have hx1 := rs_in (hd44.mono (by decide)) hx0
          rw [← oI, ← e97, e44] at hx1
          have hx2 := rs_in (hd27.mono (by decide)) hx1
          rw [← e101] at hx2
          have hmore := rs_moreT hnx hx2
          have F9 : ct_F c M27 M105 := FI.tr (ct_F.of g9)
          have S9 : ct_S c M27 M105 := ⟨fun j a1 a2 a3 a4 => by rw [g9 c (by omega) (by omega)]; exact SI.1 j a1 a2 a3 a4, fun q a1 a2 => by rw [g9 q (by omega) (by omega)]; exact SI.2 q a1 a2⟩
          have hb := rs_in (hd11.mono (by decide)) (rs_and h27 hmore)
          rw [← e105] at hb
          have hb := rs_pos (hb.imp (W := fun z => ct_H M105 c z.1 ∧ ct_E M105 c z.2 ∧ M105 c 10 = z.2.1.length ∧ z.2.1.length ≤ 4 ∧ M105 (c + 14) 1 ≤ 3 ∧ M105 (c + 22) 1 ≤ 3) (fun z hz => ⟨⟨by rw [S9.1 0 (by decide) (by decide) (by decide) (by decide)]; exact hz.1.1, nm_is_cg (S9.2 _ (by omega) (by omega)) (S9.2 _ (by omega) (by omega)) hz.1.2.1, ⟨by rw [S9.1 2 (by decide) (by decide) (by decide) (by decide)]; exact hz.1.2.2.1.1, by rw [S9.1 3 (by decide) (by decide) (by decide) (by decide)]; exact hz.1.2.2.1.2⟩, nm_is_cg (S9.2 _ (by omega) (by omega)) (S9.2 _ (by omega) (by omega)) hz.1.2.2.2.1, by rw [S9.1 5 (by decide) (by decide) (by decide) (by decide)]; exact hz.1.2.2.2.2.1, by rw [S9.1 6 (by decide) (by decide) (by decide) (by decide)]; exact hz.1.2.2.2.2.2⟩, ct_E_cg (hEI _ hz.2).1 (by rw [g9 c (by omega) (by omega)]) (by rw [g9 c (by omega) (by omega)]) (by rw [g9 c (by omega) (by omega)]) (by have := hz.2.2; omega) (by rw [xm_oth (by omega)]; exact l564) (by rw [xm_oth (by omega)]; exact l664) (fun q a1 a2 => g9 q (by omega) (by omega)), by rw [g9 c (by omega) (by omega), xm_eq, z64]; exact hz.2.2.symm, by have := hz.2.2; omega, by rw [g9 _ (by omega) (by omega), xm_oth (by omega)]; exact l564, by rw [g9 _ (by omega) (by omega), xm_oth (by omega)]; exact l664⟩))
          refine xv_aload_n hX 0 dc_CT_readFrom_108 rfl (rfl : _ = 109) ?_
          refine xv_aload_n hX 1 dc_CT_readFrom_109 rfl (rfl : _ = 110) ?_
          refine xv_iload_n hX 2 dc_CT_readFrom_110 rfl (rfl : _ = 111) ?_
          refine xv_calli hX (As := [.int (nI (M11 1 3))]) (rest := [.ref (Y.2.2.2 c)]) (ct_RD_hashSince _ Y M105 (M11 1 3) i105 at11) ml_CT_128 li_RD_hashSince rfl (by decide) rfl rfl rfl (by decide) ⟨by decide, by decide⟩ ⟨Nat.le_refl _, Nat.le_refl _⟩ (Nat.le_of_ble_eq_true rfl) dc_CT_readFrom_111 (rfl : _ = 114) (fun r111 M111 p111 => ?_)
          have b105 : M105 3 = M 3 := by rw [F9 3 (by decide) (by decide) (by omega), b27]
          rw [b105] at p111
          rw [p111.1, p111.2]
          have hcH : ∀ q, q < 6 → (xm_set M105 c 8 (ps_hash (M 3) (M11 1 3) (M105 1 3 - M11 1 3))) q = M105 q := fun q hq => xm_oth (by omega)
          have iH : rd_I (xm_set M105 c 8 (ps_hash (M 3) (M11 1 3) (M105 1 3 - M11 1 3))) := i105.cg hcH
          have oH : rd_of (xm_set M105 c 8 (ps_hash (M 3) (M11 1 3) (M105 1 3 - M11 1 3))) = rd_of M105 := rd_of_cg hcH
          have bH : (xm_set M105 c 8 (ps_hash (M 3) (M11 1 3) (M105 1 3 - M11 1 3))) 3 = M 3 := by rw [hcH 3 (by decide), b105]
          have hd105 : rd_D 9 (rd_of M105) := rs_D hb hd11
          refine xv_puti hX fl_CT_76 rfl hc.1 (xk_N (by omega)) dc_CT_readFrom_114 (rfl : _ = 117) ?_
          refine xv_aload_n hX 0 dc_CT_readFrom_117 rfl (rfl : _ = 118) ?_
          refine xv_aload_n hX 1 dc_CT_readFrom_118 rfl (rfl : _ = 119) ?_
          refine xv_iconst hX (v := nI 0) dc_CT_readFrom_119 (by decide) (rfl : _ = 120) ?_
          refine xv_ldc hX (v := nI 2147483647) kc_CT_132 dc_CT_readFrom_120 (rfl : _ = 122) ?_
          refine xv_calli hX (As := [.int (nI 0), .int (nI 2147483647)]) (rest := [.ref (Y.2.2.2 c)]) (ct_RD_readInteger _ Y (xm_set M105 c 8 (ps_hash (M 3) (M11 1 3) (M105 1 3 - M11 1 3))) 0 2147483647 iH (by decide) (by decide)) ml_CT_133 li_RD_readInteger rfl (by decide) rfl rfl rfl (by decide) ⟨by decide, by decide⟩ ⟨Nat.le_refl _, Nat.le_refl _⟩ (Nat.le_of_ble_eq_true rfl) dc_CT_readFrom_122 (rfl : _ = 125) (fun r122 M122 p122 => ?_)
          obtain ⟨⟨i122, f122, e122⟩, w, z122, hwa, hwb, hwc⟩ := p122
          rw [z122]
          rw [oH, bH] at e122 hwc
          have h122 := rs_int (hd105.mono (by decide)) e122 hwc
          have hcS : ∀ q, q < 6 → (xm_set M122 c 7 w) q = M122 q := fun q hq => xm_oth (by omega)
          have iS : rd_I (xm_set M122 c 7 w) := i122.cg hcS
          have oS : rd_of (xm_set M122 c 7 w) = rd_of M122 := rd_of_cg hcS
          refine xv_puti hX fl_CT_73 rfl hc.1 (xk_N (by omega)) dc_CT_readFrom_125 (rfl : _ = 128) ?_
          refine xv_aload_n hX 1 dc_CT_readFrom_128 rfl (rfl : _ = 129) ?_
          refine xv_callv hX (As := []) (rest := []) (ct_RD_close _ Y (xm_set M122 c 7 w) iS) ml_CT_125 li_RD_close rfl (by decide) rfl rfl rfl (by decide) ⟨by decide, by decide⟩ ⟨Nat.le_refl _, Nat.le_refl _⟩ (Nat.le_of_ble_eq_true rfl) dc_CT_readFrom_129 (rfl : _ = 132) (fun M129 p129 => ?_)
          obtain ⟨i129, f129, e129⟩ := p129
          rw [oS] at e129
          have hcrt := rs_and hb h122
          rw [e11] at hcrt
          have hcrt := rs_in (hd5.mono (by decide)) hcrt
          rw [← e129] at hcrt
          have hfin := rs_cert hcrt
          refine xv_aload_n hX 1 dc_CT_readFrom_132 rfl (rfl : _ = 133) ?_
          refine xv_calli hX (As := []) (rest := []) (ct_RD_isAtEndOfRow _ Y M129 i129) ml_CT_137 li_RD_isAtEndOfRow rfl (by decide) rfl rfl rfl (by decide) ⟨by decide, by decide⟩ ⟨Nat.le_refl _, Nat.le_refl _⟩ (Nat.le_of_ble_eq_true rfl) dc_CT_readFrom_133 (rfl : _ = 136) (fun r133 M133 p133 => ?_)
          rw [p133.1, p133.2]
          have hif9 : (if rd_end (rd_of M129) = true then 1 else 0) < 2 := by split <;> decide
          refine xv_reti hX hR (xi_z hif9) dc_CT_readFrom_136 ?_
          have F129 : ct_F c M M129 := fun q a1 a2 a3 => by rw [f129 q a1 a2, xm_oth (by omega), f122 q a1 a2, xm_oth (by omega), F9 q a1 a2 a3, F27 q a1 a2 a3]
          have u129 : ∀ j, j ≠ 7 → j ≠ 8 → M129 c j = M105 c j := fun j a1 a2 => by rw [f129 c (by omega) (by omega), xm_nk a1, f122 c (by omega) (by omega), xm_nk a2]
          have v129 : ∀ q, q ≠ 1 → q ≠ 4 → q ≠ c → M129 q = M105 q := fun q a1 a2 a3 => by rw [f129 q a1 a2, xm_oth a3, f122 q a1 a2, xm_oth a3]
          refine ⟨i129, F129, _, rfl, hif9, fun ht => ?_, fun ht => ?_⟩
          · rcases hfin with ⟨-, C, hC, ⟨⟨hV1, hV2, hV3, hle9, hl59, hl69⟩, ⟨L1, hL1⟩, ⟨L2, hL2⟩⟩, hw9⟩ | ⟨h0, -⟩
            · refine ⟨C, hC, ?_, ?_, ?_, ?_, ?_⟩
              · exact ⟨by rw [u129 0 (by decide) (by decide)]; exact hV1.1, nm_is_cg (v129 _ (by omega) (by omega) (by omega)) (v129 _ (by omega) (by omega) (by omega)) hV1.2.1, ⟨by rw [u129 2 (by decide) (by decide)]; exact hV1.2.2.1.1, by rw [u129 3 (by decide) (by decide)]; exact hV1.2.2.1.2⟩, nm_is_cg (v129 _ (by omega) (by omega) (by omega)) (v129 _ (by omega) (by omega) (by omega)) hV1.2.2.2.1, by rw [u129 5 (by decide) (by decide)]; exact hV1.2.2.2.2.1, by rw [u129 6 (by decide) (by decide)]; exact hV1.2.2.2.2.2⟩
              · exact ct_E_cg hV2 (u129 11 (by decide) (by decide)) (u129 12 (by decide) (by decide)) (u129 13 (by decide) (by decide)) hle9 hl59 hl69 (fun q a1 a2 => v129 q (by omega) (by omega) (by omega))
              · rw [u129 10 (by decide) (by decide)]; exact hV3
              · rw [f129 c (by omega) (by omega), xm_nk (by decide), f122 c (by omega) (by omega), xm_eq]
                rw [← e11] at hL1
                rw [rd_of_at hL1, rd_of_at hL2]
              · rw [f129 c (by omega) (by omega), xm_eq]; exact hw9.symm
            · rw [h0] at ht
              exact absurd ht (by decide)
          · rcases hfin with ⟨h0, -⟩ | ⟨-, hC⟩
            · rw [h0] at ht
              exact absurd ht (by decide)
            · exact hC
        · skip
          refine xv_aload_n hX 0 dc_CT_readFrom_84 rfl (rfl : _ = 85) ?_
          refine xv_geti hX fl_CT_41 rfl hc.1 (xk_N (by omega)) (v := M64 c 10 + 1) xm_eq dc_CT_readFrom_85 (rfl : _ = 88) ?_
          refine xv_aload_n hX 0 dc_CT_readFrom_88 rfl (rfl : _ = 89) ?_
          refine xv_getr hX fl_CT_23 rfl hc.1 (xk_N (by omega)) hc.2.2.2.1.1 dc_CT_readFrom_89 (rfl : _ = 92) ?_
          refine xv_alen hX (n := 4) hc.2.2.2.1.2.1 ⟨_, rfl⟩ (xk_N (by omega)) dc_CT_readFrom_92 (rfl : _ = 93) ?_
          refine xv_icmp_lt hX (nI_toInt (by omega)) (show (nI 4).toInt = 4 by decide) (tgt := 53) (pq := 96) dc_CT_readFrom_93 (by decide) rfl (fun c93 => ?_) (fun c93 => ?_)
          · skip
            obtain ⟨E9, hE9, hX9⟩ := rs_exts1 (k := k) (by omega) h64 (by rw [← oI]; omega)
            refine xv_sub (L' := [(0, .ref (Y.2.2.2 c)), (1, .ref (Y.2.2.2 1)), (2, .int (nI (M11 1 3)))]) [0, 1, 2] rfl ?_
            exact ih53 (xm_set M64 c 10 (M64 c 10 + 1)) (k + 1) E9 (by omega) (by rw [xm_eq, z64]) iI (by rw [oI]; exact hd64) FI SI (fun j hj => by rw [xm_oth (by omega)]; exact n64 j (by omega)) (by rw [xm_oth (by omega)]; exact l564) (by rw [xm_oth (by omega)]; exact l664) (fun _ => hEI _ hE9) (by rw [hXE, oI]; exact hX9) (by omega)
          · skip
            refine xv_aload_n hX 1 dc_CT_readFrom_96 rfl (rfl : _ = 97) ?_
            refine xv_callv hX (As := []) (rest := []) (ct_RD_close _ Y (xm_set M64 c 10 (M64 c 10 + 1)) iI) ml_CT_125 li_RD_close rfl (by decide) rfl rfl rfl (by decide) ⟨by decide, by decide⟩ ⟨Nat.le_refl _, Nat.le_refl _⟩ (Nat.le_of_ble_eq_true rfl) dc_CT_readFrom_97 (rfl : _ = 100) (fun M97 p97 => ?_)
            obtain ⟨i97, f97, e97⟩ := p97
            refine xv_aload_n hX 1 dc_CT_readFrom_100 rfl (rfl : _ = 101) ?_
            refine xv_callv hX (As := []) (rest := []) (ct_RD_close _ Y M97 i97) ml_CT_125 li_RD_close rfl (by decide) rfl rfl rfl (by decide) ⟨by decide, by decide⟩ ⟨Nat.le_refl _, Nat.le_refl _⟩ (Nat.le_of_ble_eq_true rfl) dc_CT_readFrom_101 (rfl : _ = 104) (fun M101 p101 => ?_)
            obtain ⟨i101, f101, e101⟩ := p101
            refine xv_aload_n hX 1 dc_CT_readFrom_104 rfl (rfl : _ = 105) ?_
            refine xv_callv hX (As := []) (rest := []) (ct_RD_close _ Y M101 i101) ml_CT_125 li_RD_close rfl (by decide) rfl rfl rfl (by decide) ⟨by decide, by decide⟩ ⟨Nat.le_refl _, Nat.le_refl _⟩ (Nat.le_of_ble_eq_true rfl) dc_CT_readFrom_105 (rfl : _ = 108) (fun M105 p105 => ?_)
            obtain ⟨i105, f105, e105⟩ := p105
            have g9 : rd_F (xm_set M64 c 10 (M64 c 10 + 1)) M105 := (f97.tr f101).tr f105
            have hx0 := rs_exts0 (k := k) (by omega) h64 (by rw [← oI]; omega)
            rw [← hXE, e50] at hx0
            have hx1 := rs_in (hd44.mono (by decide)) hx0
            rw [← oI, ← e97, e44] at hx1
            have hx2 := rs_in (hd27.mono (by decide)) hx1
            rw [← e101] at hx2
            have hmore := rs_moreT hnx hx2
            have F9 : ct_F c M27 M105 := FI.tr (ct_F.of g9)
            have S9 : ct_S c M27 M105 := ⟨fun j a1 a2 a3 a4 => by rw [g9 c (by omega) (by omega)]; exact SI.1 j a1 a2 a3 a4, fun q a1 a2 => by rw [g9 q (by omega) (by omega)]; exact SI.2 q a1 a2⟩
            have hb := rs_in (hd11.mono (by decide)) (rs_and h27 hmore)
            rw [← e105] at hb
            have hb := rs_pos (hb.imp (W := fun z => ct_H M105 c z.1 ∧ ct_E M105 c z.2 ∧ M105 c 10 = z.2.1.length ∧ z.2.1.length ≤ 4 ∧ M105 (c + 14) 1 ≤ 3 ∧ M105 (c + 22) 1 ≤ 3) (fun z hz => ⟨⟨by rw [S9.1 0 (by decide) (by decide) (by decide) (by decide)]; exact hz.1.1, nm_is_cg (S9.2 _ (by omega) (by omega)) (S9.2 _ (by omega) (by omega)) hz.1.2.1, ⟨by rw [S9.1 2 (by decide) (by decide) (by decide) (by decide)]; exact hz.1.2.2.1.1, by rw [S9.1 3 (by decide) (by decide) (by decide) (by decide)]; exact hz.1.2.2.1.2⟩, nm_is_cg (S9.2 _ (by omega) (by omega)) (S9.2 _ (by omega) (by omega)) hz.1.2.2.2.1, by rw [S9.1 5 (by decide) (by decide) (by decide) (by decide)]; exact hz.1.2.2.2.2.1, by rw [S9.1 6 (by decide) (by decide) (by decide) (by decide)]; exact hz.1.2.2.2.2.2⟩, ct_E_cg (hEI _ hz.2).1 (by rw [g9 c (by omega) (by omega)]) (by rw [g9 c (by omega) (by omega)]) (by rw [g9 c (by omega) (by omega)]) (by have := hz.2.2; omega) (by rw [xm_oth (by omega)]; exact l564) (by rw [xm_oth (by omega)]; exact l664) (fun q a1 a2 => g9 q (by omega) (by omega)), by rw [g9 c (by omega) (by omega), xm_eq, z64]; exact hz.2.2.symm, by have := hz.2.2; omega, by rw [g9 _ (by omega) (by omega), xm_oth (by omega)]; exact l564, by rw [g9 _ (by omega) (by omega), xm_oth (by omega)]; exact l664⟩))
            refine xv_aload_n hX 0 dc_CT_readFrom_108 rfl (rfl : _ = 109) ?_
            refine xv_aload_n hX 1 dc_CT_readFrom_109 rfl (rfl : _ = 110) ?_
            refine xv_iload_n hX 2 dc_CT_readFrom_110 rfl (rfl : _ = 111) ?_
            refine xv_calli hX (As := [.int (nI (M11 1 3))]) (rest := [.ref (Y.2.2.2 c)]) (ct_RD_hashSince _ Y M105 (M11 1 3) i105 at11) ml_CT_128 li_RD_hashSince rfl (by decide) rfl rfl rfl (by decide) ⟨by decide, by decide⟩ ⟨Nat.le_refl _, Nat.le_refl _⟩ (Nat.le_of_ble_eq_true rfl) dc_CT_readFrom_111 (rfl : _ = 114) (fun r111 M111 p111 => ?_)
            have b105 : M105 3 = M 3 := by rw [F9 3 (by decide) (by decide) (by omega), b27]
            rw [b105] at p111
            rw [p111.1, p111.2]
            have hcH : ∀ q, q < 6 → (xm_set M105 c 8 (ps_hash (M 3) (M11 1 3) (M105 1 3 - M11 1 3))) q = M105 q := fun q hq => xm_oth (by omega)
            have iH : rd_I (xm_set M105 c 8 (ps_hash (M 3) (M11 1 3) (M105 1 3 - M11 1 3))) := i105.cg hcH
            have oH : rd_of (xm_set M105 c 8 (ps_hash (M 3) (M11 1 3) (M105 1 3 - M11 1 3))) = rd_of M105 := rd_of_cg hcH
            have bH : (xm_set M105 c 8 (ps_hash (M 3) (M11 1 3) (M105 1 3 - M11 1 3))) 3 = M 3 := by rw [hcH 3 (by decide), b105]
            have hd105 : rd_D 9 (rd_of M105) := rs_D hb hd11
            refine xv_puti hX fl_CT_76 rfl hc.1 (xk_N (by omega)) dc_CT_readFrom_114 (rfl : _ = 117) ?_
            refine xv_aload_n hX 0 dc_CT_readFrom_117 rfl (rfl : _ = 118) ?_
            refine xv_aload_n hX 1 dc_CT_readFrom_118 rfl (rfl : _ = 119) ?_
            refine xv_iconst hX (v := nI 0) dc_CT_readFrom_119 (by decide) (rfl : _ = 120) ?_
            refine xv_ldc hX (v := nI 2147483647) kc_CT_132 dc_CT_readFrom_120 (rfl : _ = 122) ?_
            refine xv_calli hX (As := [.int (nI 0), .int (nI 2147483647)]) (rest := [.ref (Y.2.2.2 c)]) (ct_RD_readInteger _ Y (xm_set M105 c 8 (ps_hash (M 3) (M11 1 3) (M105 1 3 - M11 1 3))) 0 2147483647 iH (by decide) (by decide)) ml_CT_133 li_RD_readInteger rfl (by decide) rfl rfl rfl (by decide) ⟨by decide, by decide⟩ ⟨Nat.le_refl _, Nat.le_refl _⟩ (Nat.le_of_ble_eq_true rfl) dc_CT_readFrom_122 (rfl : _ = 125) (fun r122 M122 p122 => ?_)
            obtain ⟨⟨i122, f122, e122⟩, w, z122, hwa, hwb, hwc⟩ := p122
            rw [z122]
            rw [oH, bH] at e122 hwc
            have h122 := rs_int (hd105.mono (by decide)) e122 hwc
            have hcS : ∀ q, q < 6 → (xm_set M122 c 7 w) q = M122 q := fun q hq => xm_oth (by omega)
            have iS : rd_I (xm_set M122 c 7 w) := i122.cg hcS
            have oS : rd_of (xm_set M122 c 7 w) = rd_of M122 := rd_of_cg hcS
            refine xv_puti hX fl_CT_73 rfl hc.1 (xk_N (by omega)) dc_CT_readFrom_125 (rfl : _ = 128) ?_
            refine xv_aload_n hX 1 dc_CT_readFrom_128 rfl (rfl : _ = 129) ?_
            refine xv_callv hX (As := []) (rest := []) (ct_RD_close _ Y (xm_set M122 c 7 w) iS) ml_CT_125 li_RD_close rfl (by decide) rfl rfl rfl (by decide) ⟨by decide, by decide⟩ ⟨Nat.le_refl _, Nat.le_refl _⟩ (Nat.le_of_ble_eq_true rfl) dc_CT_readFrom_129 (rfl : _ = 132) (fun M129 p129 => ?_)
            obtain ⟨i129, f129, e129⟩ := p129
            rw [oS] at e129
            have hcrt := rs_and hb h122
            rw [e11] at hcrt
            have hcrt := rs_in (hd5.mono (by decide)) hcrt
            rw [← e129] at hcrt
            have hfin := rs_cert hcrt
            refine xv_aload_n hX 1 dc_CT_readFrom_132 rfl (rfl : _ = 133) ?_
            refine xv_calli hX (As := []) (rest := []) (ct_RD_isAtEndOfRow _ Y M129 i129) ml_CT_137 li_RD_isAtEndOfRow rfl (by decide) rfl rfl rfl (by decide) ⟨by decide, by decide⟩ ⟨Nat.le_refl _, Nat.le_refl _⟩ (Nat.le_of_ble_eq_true rfl) dc_CT_readFrom_133 (rfl : _ = 136) (fun r133 M133 p133 => ?_)
            rw [p133.1, p133.2]
            have hif9 : (if rd_end (rd_of M129) = true then 1 else 0) < 2 := by split <;> decide
            refine xv_reti hX hR (xi_z hif9) dc_CT_readFrom_136 ?_
            have F129 : ct_F c M M129 := fun q a1 a2 a3 => by rw [f129 q a1 a2, xm_oth (by omega), f122 q a1 a2, xm_oth (by omega), F9 q a1 a2 a3, F27 q a1 a2 a3]
            have u129 : ∀ j, j ≠ 7 → j ≠ 8 → M129 c j = M105 c j := fun j a1 a2 => by rw [f129 c (by omega) (by omega), xm_nk a1, f122 c (by omega) (by omega), xm_nk a2]
            have v129 : ∀ q, q ≠ 1 → q ≠ 4 → q ≠ c → M129 q = M105 q := fun q a1 a2 a3 => by rw [f129 q a1 a2, xm_oth a3, f122 q a1 a2, xm_oth a3]
            refine ⟨i129, F129, _, rfl, hif9, fun ht => ?_, fun ht => ?_⟩
            · rcases hfin with ⟨-, C, hC, ⟨⟨hV1, hV2, hV3, hle9, hl59, hl69⟩, ⟨L1, hL1⟩, ⟨L2, hL2⟩⟩, hw9⟩ | ⟨h0, -⟩
              · refine ⟨C, hC, ?_, ?_, ?_, ?_, ?_⟩
                · exact ⟨by rw [u129 0 (by decide) (by decide)]; exact hV1.1, nm_is_cg (v129 _ (by omega) (by omega) (by omega)) (v129 _ (by omega) (by omega) (by omega)) hV1.2.1, ⟨by rw [u129 2 (by decide) (by decide)]; exact hV1.2.2.1.1, by rw [u129 3 (by decide) (by decide)]; exact hV1.2.2.1.2⟩, nm_is_cg (v129 _ (by omega) (by omega) (by omega)) (v129 _ (by omega) (by omega) (by omega)) hV1.2.2.2.1, by rw [u129 5 (by decide) (by decide)]; exact hV1.2.2.2.2.1, by rw [u129 6 (by decide) (by decide)]; exact hV1.2.2.2.2.2⟩
                · exact ct_E_cg hV2 (u129 11 (by decide) (by decide)) (u129 12 (by decide) (by decide)) (u129 13 (by decide) (by decide)) hle9 hl59 hl69 (fun q a1 a2 => v129 q (by omega) (by omega) (by omega))
                · rw [u129 10 (by decide) (by decide)]; exact hV3
                · rw [f129 c (by omega) (by omega), xm_nk (by decide), f122 c (by omega) (by omega), xm_eq]
                  rw [← e11] at hL1
                  rw [rd_of_at hL1, rd_of_at hL2]
                · rw [f129 c (by omega) (by omega), xm_eq]; exact hw9.symm
              · rw [h0] at ht
                exact absurd ht (by decide)
            · rcases hfin with ⟨h0, -⟩ | ⟨-, hC⟩
              · rw [h0] at ht
                exact absurd ht (by decide)
              · exact hC
    refine xv_sub (L' := [(0, .ref (Y.2.2.2 c)), (1, .ref (Y.2.2.2 1)), (2, .int (nI (M11 1 3)))]) [0, 1, 2] rfl ?_
    exact lp53 _ M50 0 ps_E0 (by decide) (by rw [g50 c (by omega) (by omega)]; exact z27) i50 hd50 (ct_F.of g50) ⟨fun j _ _ _ _ => by rw [g50 c (by omega) (by omega)], fun q a1 a2 => g50 q (by omega) (by omega)⟩ (fun j hj => absurd hj (Nat.not_lt_zero _)) (by rw [g50 _ (by omega) (by omega)]; exact l527) (by rw [g50 _ (by omega) (by omega)]; exact l627) (fun _ => ⟨ct_E_cg hE27 (by rw [g50 c (by omega) (by omega)]) (by rw [g50 c (by omega) (by omega)]) (by rw [g50 c (by omega) (by omega)]) (by decide) l527 l627 (fun q a1 a2 => g50 q (by omega) (by omega)), rfl⟩) rfl (Nat.lt_succ_self _)
