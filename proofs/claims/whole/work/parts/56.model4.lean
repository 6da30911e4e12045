/-! the reference: TRUE, BASIC -/
set_option maxRecDepth 100000 in
set_option maxHeartbeats 4000000 in
theorem ct_MD_truth (ln : Launch) (Y : xw_Y) (M : xm_M) (l : Nat) (hI : md_I M) (hl : l ≤ 1440) : xc_i ln qm_MD_truth 2 Y [.ref (Y.2.2.2 277), .int (nI l)] M (fun r M1 => md_I M1 ∧ md_F M M1 ∧ ∃ t : Nat, r = nI t ∧ t < 2 ∧ mo_ok (mo_run (ps_tru (M 278)) l (md_s M)) (md_s M1) (fun x => t = if x = true then 1 else 0)) := by
  refine xc_i.mk .boolean rfl (by decide) (Nat.le_of_ble_eq_true rfl) ?_
  intro X hXl hX hR
  subst hXl
  have hX : xv_ok X Y prog_9_method_13_code "CertificatePathModel" 3 (xc_rm 2) := hX
  show xv_V X Y 3 0 0 xw_lk xw_N M 0 [(0, .ref (Y.2.2.2 277)), (1, .int (nI l))] []
  obtain ⟨k6, k7, k8⟩ := id hI
  refine xv_aload_n hX 0 dc_MD_truth_0 rfl (rfl : _ = 1) ?_
  refine xv_iconst hX (v := nI 1) dc_MD_truth_1 (by decide) (rfl : _ = 2) ?_
  refine xv_iload_n hX 1 dc_MD_truth_2 rfl (rfl : _ = 3) ?_
  refine xv_calli hX (As := [.int (nI 1), .int (nI l)]) (rest := []) (ct_MD_tagged _ Y M 1 l hI hl (by decide)) ml_MD_41 li_MD_tagged rfl (by decide) rfl rfl rfl (by decide) ⟨by decide, by decide⟩ ⟨Nat.le_refl _, Nat.le_refl _⟩ (Nat.le_of_ble_eq_true rfl) dc_MD_truth_3 (rfl : _ = 6) (fun r3 M3 p3 => ?_)
  obtain ⟨pM, t, pr, pt, pi⟩ := p3
  rw [pM, pr]
  refine xv_if_ne hX (nI_toInt (by omega)) (tgt := 11) (pq := 9) dc_MD_truth_6 (by decide) rfl (fun c6 => ?_) (fun c6 => ?_)
  · skip
    refine xv_aload_n hX 0 dc_MD_truth_11 rfl (rfl : _ = 12) ?_
    refine xv_iconst hX (v := nI 1) dc_MD_truth_12 (by decide) (rfl : _ = 13) ?_
    refine xv_iload_n hX 1 dc_MD_truth_13 rfl (rfl : _ = 14) ?_
    refine xv_calli hX (As := [.int (nI 1), .int (nI l)]) (rest := []) (ct_MD_enter _ Y M 1 l hI hl (by decide)) ml_MD_45 li_MD_enter rfl (by decide) rfl rfl rfl (by decide) ⟨by decide, by decide⟩ ⟨Nat.le_refl _, Nat.le_refl _⟩ (Nat.le_of_ble_eq_true rfl) dc_MD_truth_14 (rfl : _ = 17) (fun r14 M14 p14 => ?_)
    obtain ⟨i14, f14, h14⟩ := p14
    have b14 : M14 278 = M 278 := f14.1 278 (by decide)
    rcases h14 with ⟨w14a, w14b, w14c⟩ | ⟨f, e, g14a, g14b, g14c⟩
    · skip
      rw [w14c]
      have w147 := md_w i14 w14a
      refine xv_istore_n hX [1, 2, 0] dc_MD_truth_17 (by decide) (L' := [(0, .ref (Y.2.2.2 277)), (1, .int (nI l)), (2, .int (nI l))]) rfl (rfl : _ = 18) ?_
      have htg := pi.mp (by omega)
      have hsM : md_s M = some (M 277 6) := md_s0 htg.1
      have hhd : ps_hd (M 278) 1 (M 277 6) l = none := by rw [hsM] at w14b; exact w14b
      have hJ := mo_tru2 htg.2 hhd
      rw [← hsM] at hJ
      have hk14 := i14.1
      refine xv_aload_n hX 0 dc_MD_truth_18 rfl (rfl : _ = 19) ?_
      refine xv_aload_n hX 0 dc_MD_truth_19 rfl (rfl : _ = 20) ?_
      refine xv_geti hX fl_MD_34 rfl rfl (by decide) (v := 1) w147 dc_MD_truth_20 (rfl : _ = 23) ?_
      refine xv_if_ne hX (show (nI 1).toInt = 1 by decide) (tgt := 51) (pq := 26) dc_MD_truth_23 (by decide) rfl (fun c23 => ?_) (fun c23 => ?_)
      · skip
        refine xv_iconst hX (v := nI 1) dc_MD_truth_51 (by decide) (rfl : _ = 52) ?_
        refine xv_goto hX (pq := 56) dc_MD_truth_52 (by decide) ?_
        refine xv_putz hX fl_MD_34 rfl rfl (by decide) (by decide) dc_MD_truth_56 (rfl : _ = 59) ?_
        refine xv_aload_n hX 0 dc_MD_truth_59 rfl (rfl : _ = 60) ?_
        refine xv_iload_n hX 2 dc_MD_truth_60 rfl (rfl : _ = 61) ?_
        refine xv_puti hX fl_MD_38 rfl rfl (by decide) dc_MD_truth_61 (rfl : _ = 64) ?_
        refine xv_iconst hX (v := nI 1) dc_MD_truth_64 (by decide) (rfl : _ = 65) ?_
        refine xv_reti hX hR (by decide) dc_MD_truth_65 ?_
        obtain ⟨a1, a2, a3⟩ := md_done (M := M14) (M' := (xm_set (xm_set M14 277 7 1) 277 6 l)) (v := l) (w := 1) xm_eq ((xm_nk (by decide)).trans xm_eq) (fun q a => by simp only [xm_oth a]) (fun j a b => by simp only [xm_nk a, xm_nk b]) i14 (by omega) (by decide)
        exact ⟨a1, f14.tr a2, 1, rfl, by decide, Or.inl ⟨a3.trans (if_neg (by decide)), hJ⟩⟩
      · skip
        exact absurd c23 (by decide)
    · skip
      rw [g14c]
      obtain ⟨g147, g146⟩ := md_g g14b
      obtain ⟨g14fe, g14el, -⟩ := mo_hd_some g14a
      refine xv_istore_n hX [1, 2, 0] dc_MD_truth_17 (by decide) (L' := [(0, .ref (Y.2.2.2 277)), (1, .int (nI l)), (2, .int (nI e))]) rfl (rfl : _ = 18) ?_
      have htg := pi.mp (by omega)
      have hsM : md_s M = some (M 277 6) := md_s0 htg.1
      have hhd : ps_hd (M 278) 1 (M 277 6) l = some (f, e) := by rw [hsM] at g14a; exact g14a
      have hJ := mo_tru1 htg.2 hhd
      rw [← hsM] at hJ
      have hd0 : M14 278 f = M 278 f := by rw [b14]
      refine xv_aload_n hX 0 dc_MD_truth_18 rfl (rfl : _ = 19) ?_
      refine xv_aload_n hX 0 dc_MD_truth_19 rfl (rfl : _ = 20) ?_
      refine xv_geti hX fl_MD_34 rfl rfl (by decide) (v := 0) g147 dc_MD_truth_20 (rfl : _ = 23) ?_
      refine xv_if_ne hX (show (nI 0).toInt = 0 by decide) (tgt := 51) (pq := 26) dc_MD_truth_23 (by decide) rfl (fun c23 => ?_) (fun c23 => ?_)
      · skip
        exact absurd c23 (by decide)
      · skip
        refine xv_iload_n hX 2 dc_MD_truth_26 rfl (rfl : _ = 27) ?_
        refine xv_aload_n hX 0 dc_MD_truth_27 rfl (rfl : _ = 28) ?_
        refine xv_geti hX fl_MD_38 rfl rfl (by decide) (v := f) g146 dc_MD_truth_28 (rfl : _ = 31) ?_
        refine xv_iconst hX (v := nI 1) dc_MD_truth_31 (by decide) (rfl : _ = 32) ?_
        refine xv_iadd hX dc_MD_truth_32 (nI_add f 1) (rfl : _ = 33) ?_
        refine xv_icmp_ne hX (nI_toInt (by omega)) (nI_toInt (by omega)) (tgt := 51) (pq := 36) dc_MD_truth_33 (by decide) rfl (fun c33 => ?_) (fun c33 => ?_)
        · skip
          refine xv_iconst hX (v := nI 1) dc_MD_truth_51 (by decide) (rfl : _ = 52) ?_
          refine xv_goto hX (pq := 56) dc_MD_truth_52 (by decide) ?_
          refine xv_putz hX fl_MD_34 rfl rfl (by decide) (by decide) dc_MD_truth_56 (rfl : _ = 59) ?_
          refine xv_aload_n hX 0 dc_MD_truth_59 rfl (rfl : _ = 60) ?_
          refine xv_iload_n hX 2 dc_MD_truth_60 rfl (rfl : _ = 61) ?_
          refine xv_puti hX fl_MD_38 rfl rfl (by decide) dc_MD_truth_61 (rfl : _ = 64) ?_
          refine xv_iconst hX (v := nI 1) dc_MD_truth_64 (by decide) (rfl : _ = 65) ?_
          refine xv_reti hX hR (by decide) dc_MD_truth_65 ?_
          rw [if_neg (by omega)] at hJ
          obtain ⟨a1, a2, a3⟩ := md_done (M := M14) (M' := (xm_set (xm_set M14 277 7 1) 277 6 e)) (v := e) (w := 1) xm_eq ((xm_nk (by decide)).trans xm_eq) (fun q a => by simp only [xm_oth a]) (fun j a b => by simp only [xm_nk a, xm_nk b]) i14 (by omega) (by decide)
          exact ⟨a1, f14.tr a2, 1, rfl, by decide, Or.inl ⟨a3.trans (if_neg (by decide)), hJ⟩⟩
        · skip
          have hb0 := k8 f (by omega)
          refine xv_aload_n hX 0 dc_MD_truth_36 rfl (rfl : _ = 37) ?_
          refine xv_getr hX fl_MD_7 rfl rfl (by decide) rfl dc_MD_truth_37 (rfl : _ = 40) ?_
          refine xv_aload_n hX 0 dc_MD_truth_40 rfl (rfl : _ = 41) ?_
          refine xv_geti hX fl_MD_38 rfl rfl (by decide) (v := f) g146 dc_MD_truth_41 (rfl : _ = 44) ?_
          refine xv_iald hX rfl (by decide) (by omega) (by decide) (v := M 278 f) hd0 dc_MD_truth_44 (rfl : _ = 45) ?_
          refine xv_sipush hX (v := nI 255) dc_MD_truth_45 (by decide) (rfl : _ = 48) ?_
          refine xv_icmp_eq hX (nI_toInt (by omega)) (show (nI 255).toInt = 255 by decide) (tgt := 55) (pq := 51) dc_MD_truth_48 (by decide) rfl (fun c48 => ?_) (fun c48 => ?_)
          · skip
            refine xv_iconst hX (v := nI 0) dc_MD_truth_55 (by decide) (rfl : _ = 56) ?_
            refine xv_putz hX fl_MD_34 rfl rfl (by decide) (by decide) dc_MD_truth_56 (rfl : _ = 59) ?_
            refine xv_aload_n hX 0 dc_MD_truth_59 rfl (rfl : _ = 60) ?_
            refine xv_iload_n hX 2 dc_MD_truth_60 rfl (rfl : _ = 61) ?_
            refine xv_puti hX fl_MD_38 rfl rfl (by decide) dc_MD_truth_61 (rfl : _ = 64) ?_
            refine xv_iconst hX (v := nI 1) dc_MD_truth_64 (by decide) (rfl : _ = 65) ?_
            refine xv_reti hX hR (by decide) dc_MD_truth_65 ?_
            rw [if_pos (by omega)] at hJ
            obtain ⟨a1, a2, a3⟩ := md_done (M := M14) (M' := (xm_set (xm_set M14 277 7 0) 277 6 e)) (v := e) (w := 0) xm_eq ((xm_nk (by decide)).trans xm_eq) (fun q a => by simp only [xm_oth a]) (fun j a b => by simp only [xm_nk a, xm_nk b]) i14 (by omega) (by decide)
            exact ⟨a1, f14.tr a2, 1, rfl, by decide, Or.inr ⟨true, e, hJ, a3.trans (if_pos rfl), rfl⟩⟩
          · skip
            refine xv_iconst hX (v := nI 1) dc_MD_truth_51 (by decide) (rfl : _ = 52) ?_
            refine xv_goto hX (pq := 56) dc_MD_truth_52 (by decide) ?_
            refine xv_putz hX fl_MD_34 rfl rfl (by decide) (by decide) dc_MD_truth_56 (rfl : _ = 59) ?_
            refine xv_aload_n hX 0 dc_MD_truth_59 rfl (rfl : _ = 60) ?_
            refine xv_iload_n hX 2 dc_MD_truth_60 rfl (rfl : _ = 61) ?_
            refine xv_puti hX fl_MD_38 rfl rfl (by decide) dc_MD_truth_61 (rfl : _ = 64) ?_
            refine xv_iconst hX (v := nI 1) dc_MD_truth_64 (by decide) (rfl : _ = 65) ?_
            refine xv_reti hX hR (by decide) dc_MD_truth_65 ?_
            rw [if_neg (by omega)] at hJ
            obtain ⟨a1, a2, a3⟩ := md_done (M := M14) (M' := (xm_set (xm_set M14 277 7 1) 277 6 e)) (v := e) (w := 1) xm_eq ((xm_nk (by decide)).trans xm_eq) (fun q a => by simp only [xm_oth a]) (fun j a b => by simp only [xm_nk a, xm_nk b]) i14 (by omega) (by decide)
            exact ⟨a1, f14.tr a2, 1, rfl, by decide, Or.inl ⟨a3.trans (if_neg (by decide)), hJ⟩⟩
  · skip
    refine xv_iconst hX (v := nI 0) dc_MD_truth_9 (by decide) (rfl : _ = 10) ?_
    refine xv_reti hX hR (by decide) dc_MD_truth_10 ?_
    refine ⟨hI, md_F.rf M, 0, rfl, by decide, (mo_tru0 (fun i hi => ?_)).imp (fun x hx => by rw [hx]; rfl)⟩
    obtain ⟨h7, h6⟩ := md_g hi
    rw [← h6]
    intro z
    exact absurd (pi.mpr ⟨h7, z⟩) (by omega)

set_option maxRecDepth 100000 in
set_option maxHeartbeats 4000000 in
theorem ct_MD_basicContent (ln : Launch) (Y : xw_Y) (M : xm_M) (l : Nat) (hI : md_I M) (hl : l ≤ 1440) : xc_v ln qm_MD_basicContent 3 Y [.ref (Y.2.2.2 277), .int (nI l)] M (fun M1 => md_I M1 ∧ md_X [6, 7, 28, 29, 30] M M1 ∧ M1 277 28 = 1 ∧ mo_ok (mo_run (ps_basic (M 278)) l (md_s M)) (md_s M1) (fun z => M1 277 29 = (if z.1 = true then 1 else 0) ∧ M1 277 30 = (match z.2 with | some v => v | none => M 277 30))) := by
  refine xc_v.mk rfl (by decide) (Nat.le_of_ble_eq_true rfl) ?_
  intro X hXl hX hR
  subst hXl
  have hX : xv_ok X Y prog_9_method_16_code "CertificatePathModel" 3 (xc_rm 3) := hX
  show xv_V X Y 3 0 0 xw_lk xw_N M 0 [(0, .ref (Y.2.2.2 277)), (1, .int (nI l))] []
  obtain ⟨k6, k7, k8⟩ := id hI
  refine xv_aload_n hX 0 dc_MD_basicContent_0 rfl (rfl : _ = 1) ?_
  refine xv_bipush hX (v := nI 48) dc_MD_basicContent_1 (by decide) (rfl : _ = 3) ?_
  refine xv_iload_n hX 1 dc_MD_basicContent_3 rfl (rfl : _ = 4) ?_
  refine xv_calli hX (As := [.int (nI 48), .int (nI l)]) (rest := []) (ct_MD_enter _ Y M 48 l hI hl (by decide)) ml_MD_45 li_MD_enter rfl (by decide) rfl rfl rfl (by decide) ⟨by decide, by decide⟩ ⟨Nat.le_refl _, Nat.le_refl _⟩ (Nat.le_of_ble_eq_true rfl) dc_MD_basicContent_4 (rfl : _ = 7) (fun r4 M4 p4 => ?_)
  obtain ⟨i4, f4, h4⟩ := p4
  obtain ⟨e, z4, hel, hen⟩ := mo_enter h4
  rw [z4]
  have b4 : M4 278 = M 278 := f4.1 278 (by decide)
  obtain ⟨iB, oB⟩ := md_put (M := M4) (k := 28) (v := 1) (by decide) (by decide) i4
  refine xv_istore_n hX [1, 2, 0] dc_MD_basicContent_7 (by decide) (L' := [(0, .ref (Y.2.2.2 277)), (1, .int (nI l)), (2, .int (nI e))]) rfl (rfl : _ = 8) ?_
  refine xv_aload_n hX 0 dc_MD_basicContent_8 rfl (rfl : _ = 9) ?_
  refine xv_iconst hX (v := nI 1) dc_MD_basicContent_9 (by decide) (rfl : _ = 10) ?_
  refine xv_putz hX fl_MD_60 rfl rfl (by decide) (by decide) dc_MD_basicContent_10 (rfl : _ = 13) ?_
  refine xv_aload_n hX 0 dc_MD_basicContent_13 rfl (rfl : _ = 14) ?_
  refine xv_aload_n hX 0 dc_MD_basicContent_14 rfl (rfl : _ = 15) ?_
  refine xv_iload_n hX 2 dc_MD_basicContent_15 rfl (rfl : _ = 16) ?_
  refine xv_calli hX (As := [.int (nI e)]) (rest := [.ref (Y.2.2.2 277)]) (ct_MD_truth _ Y (xm_set M4 277 28 1) e iB (by omega)) ml_MD_63 li_MD_truth rfl (by decide) rfl rfl rfl (by decide) ⟨by decide, by decide⟩ ⟨Nat.le_refl _, Nat.le_refl _⟩ (Nat.le_of_ble_eq_true rfl) dc_MD_basicContent_16 (rfl : _ = 19) (fun r16 M16 p16 => ?_)
  obtain ⟨i16, f16, t, z16, ht2, h16⟩ := p16
  rw [z16]
  rw [xm_oth (by decide), b4] at h16
  obtain ⟨iA, oA⟩ := md_put (M := M16) (k := 29) (v := t) (by decide) (by decide) i16
  have k166 := i16.1
  have k167 := i16.2.1
  refine xv_putz hX fl_MD_67 rfl rfl (by decide) (by omega) dc_MD_basicContent_19 (rfl : _ = 22) ?_
  refine xv_aload_n hX 0 dc_MD_basicContent_22 rfl (rfl : _ = 23) ?_
  refine xv_geti hX fl_MD_67 rfl rfl (by decide) (v := t) xm_eq dc_MD_basicContent_23 (rfl : _ = 26) ?_
  refine xv_if_eq hX (nI_toInt (by omega)) (tgt := 53) (pq := 29) dc_MD_basicContent_26 (by decide) rfl (fun c26 => ?_) (fun c26 => ?_)
  · skip
    refine xv_aload_n hX 0 dc_MD_basicContent_53 rfl (rfl : _ = 54) ?_
    refine xv_iload_n hX 2 dc_MD_basicContent_54 rfl (rfl : _ = 55) ?_
    refine xv_callv hX (As := [.int (nI e)]) (rest := []) (ct_MD_leave _ Y (xm_set M16 277 29 t) e iA (by omega)) ml_MD_77 li_MD_leave rfl (by decide) rfl rfl rfl (by decide) ⟨by decide, by decide⟩ ⟨Nat.le_refl _, Nat.le_refl _⟩ (Nat.le_of_ble_eq_true rfl) dc_MD_basicContent_55 (rfl : _ = 58) (fun M55 p55 => ?_)
    obtain ⟨i55, f55, h55⟩ := p55
    rw [oA] at h55
    refine xv_retv hX hR dc_MD_basicContent_58 ?_
    have X47 : md_X [6, 7, 28, 29, 30] M M55 := (md_X.tt (f4.x.up (by decide)) (md_X.tt ((md_X.set M4 28 1).up (by decide)) (md_X.tt (f16.x.up (by decide)) (md_X.tt ((md_X.set M16 29 t).up (by decide)) (f55.x.up (by decide))))))
    rw [oB] at h16
    have hb := mo_in hen (mo_bas1 (b := M 278) (t := decide (t = 1)) (h16.imp (fun x hx => by rw [hx]; cases x <;> rfl)) (fun ht i hi => by have ht := of_decide_eq_true ht; obtain ⟨q7, q6⟩ := md_g hi; omega))
    rw [← h55] at hb
    refine ⟨i55, X47, ?_, hb.imp (fun z hz => ?_)⟩
    · rw [f55.2 28 (by decide) (by decide), xm_nk (by decide), f16.2 28 (by decide) (by decide), xm_eq]
    · rw [hz]
      have g1 : M55 277 29 = t := by rw [f55.2 29 (by decide) (by decide), xm_eq]
      have g2 : M55 277 30 = M 277 30 := by rw [f55.2 30 (by decide) (by decide), xm_nk (by decide), f16.2 30 (by decide) (by decide), xm_nk (by decide), f4.2 30 (by decide) (by decide)]
      exact ⟨by rw [g1]; rcases (show t = 0 ∨ t = 1 by omega) with h | h <;> rw [h] <;> rfl, g2⟩
  · skip
    have htt : t = 1 := by omega
    refine xv_aload_n hX 0 dc_MD_basicContent_29 rfl (rfl : _ = 30) ?_
    refine xv_geti hX fl_MD_34 rfl rfl (by decide) (v := M16 277 7) (xm_nk (by decide)) dc_MD_basicContent_30 (rfl : _ = 33) ?_
    refine xv_if_ne hX (nI_toInt (by omega)) (tgt := 53) (pq := 36) dc_MD_basicContent_33 (by decide) rfl (fun c33 => ?_) (fun c33 => ?_)
    · skip
      refine xv_aload_n hX 0 dc_MD_basicContent_53 rfl (rfl : _ = 54) ?_
      refine xv_iload_n hX 2 dc_MD_basicContent_54 rfl (rfl : _ = 55) ?_
      refine xv_callv hX (As := [.int (nI e)]) (rest := []) (ct_MD_leave _ Y (xm_set M16 277 29 t) e iA (by omega)) ml_MD_77 li_MD_leave rfl (by decide) rfl rfl rfl (by decide) ⟨by decide, by decide⟩ ⟨Nat.le_refl _, Nat.le_refl _⟩ (Nat.le_of_ble_eq_true rfl) dc_MD_basicContent_55 (rfl : _ = 58) (fun M55 p55 => ?_)
      obtain ⟨i55, f55, h55⟩ := p55
      rw [oA] at h55
      refine xv_retv hX hR dc_MD_basicContent_58 ?_
      have X47 : md_X [6, 7, 28, 29, 30] M M55 := (md_X.tt (f4.x.up (by decide)) (md_X.tt ((md_X.set M4 28 1).up (by decide)) (md_X.tt (f16.x.up (by decide)) (md_X.tt ((md_X.set M16 29 t).up (by decide)) (f55.x.up (by decide))))))
      rw [oB] at h16
      have hb := mo_in hen (mo_bas1 (b := M 278) (t := decide (t = 1)) (h16.imp (fun x hx => by rw [hx]; cases x <;> rfl)) (fun ht i hi => by have ht := of_decide_eq_true ht; obtain ⟨q7, q6⟩ := md_g hi; omega))
      rw [← h55] at hb
      refine ⟨i55, X47, ?_, hb.imp (fun z hz => ?_)⟩
      · rw [f55.2 28 (by decide) (by decide), xm_nk (by decide), f16.2 28 (by decide) (by decide), xm_eq]
      · rw [hz]
        have g1 : M55 277 29 = t := by rw [f55.2 29 (by decide) (by decide), xm_eq]
        have g2 : M55 277 30 = M 277 30 := by rw [f55.2 30 (by decide) (by decide), xm_nk (by decide), f16.2 30 (by decide) (by decide), xm_nk (by decide), f4.2 30 (by decide) (by decide)]
        exact ⟨by rw [g1]; rcases (show t = 0 ∨ t = 1 by omega) with h | h <;> rw [h] <;> rfl, g2⟩
    · skip
      refine xv_aload_n hX 0 dc_MD_basicContent_36 rfl (rfl : _ = 37) ?_
      refine xv_geti hX fl_MD_38 rfl rfl (by decide) (v := M16 277 6) (xm_nk (by decide)) dc_MD_basicContent_37 (rfl : _ = 40) ?_
      refine xv_iload_n hX 2 dc_MD_basicContent_40 rfl (rfl : _ = 41) ?_
      refine xv_icmp_ge hX (nI_toInt (by omega)) (nI_toInt (by omega)) (tgt := 53) (pq := 44) dc_MD_basicContent_41 (by decide) rfl (fun c41 => ?_) (fun c41 => ?_)
      · skip
        refine xv_aload_n hX 0 dc_MD_basicContent_53 rfl (rfl : _ = 54) ?_
        refine xv_iload_n hX 2 dc_MD_basicContent_54 rfl (rfl : _ = 55) ?_
        refine xv_callv hX (As := [.int (nI e)]) (rest := []) (ct_MD_leave _ Y (xm_set M16 277 29 t) e iA (by omega)) ml_MD_77 li_MD_leave rfl (by decide) rfl rfl rfl (by decide) ⟨by decide, by decide⟩ ⟨Nat.le_refl _, Nat.le_refl _⟩ (Nat.le_of_ble_eq_true rfl) dc_MD_basicContent_55 (rfl : _ = 58) (fun M55 p55 => ?_)
        obtain ⟨i55, f55, h55⟩ := p55
        rw [oA] at h55
        refine xv_retv hX hR dc_MD_basicContent_58 ?_
        have X47 : md_X [6, 7, 28, 29, 30] M M55 := (md_X.tt (f4.x.up (by decide)) (md_X.tt ((md_X.set M4 28 1).up (by decide)) (md_X.tt (f16.x.up (by decide)) (md_X.tt ((md_X.set M16 29 t).up (by decide)) (f55.x.up (by decide))))))
        rw [oB] at h16
        have hb := mo_in hen (mo_bas1 (b := M 278) (t := decide (t = 1)) (h16.imp (fun x hx => by rw [hx]; cases x <;> rfl)) (fun ht i hi => by have ht := of_decide_eq_true ht; obtain ⟨q7, q6⟩ := md_g hi; omega))
        rw [← h55] at hb
        refine ⟨i55, X47, ?_, hb.imp (fun z hz => ?_)⟩
        · rw [f55.2 28 (by decide) (by decide), xm_nk (by decide), f16.2 28 (by decide) (by decide), xm_eq]
        · rw [hz]
          have g1 : M55 277 29 = t := by rw [f55.2 29 (by decide) (by decide), xm_eq]
          have g2 : M55 277 30 = M 277 30 := by rw [f55.2 30 (by decide) (by decide), xm_nk (by decide), f16.2 30 (by decide) (by decide), xm_nk (by decide), f4.2 30 (by decide) (by decide)]
          exact ⟨by rw [g1]; rcases (show t = 0 ∨ t = 1 by omega) with h | h <;> rw [h] <;> rfl, g2⟩
      · skip
        have hs16 : md_s M16 = some (M16 277 6) := md_s0 (by omega)
        refine xv_aload_n hX 0 dc_MD_basicContent_44 rfl (rfl : _ = 45) ?_
        refine xv_aload_n hX 0 dc_MD_basicContent_45 rfl (rfl : _ = 46) ?_
        refine xv_iload_n hX 2 dc_MD_basicContent_46 rfl (rfl : _ = 47) ?_
        refine xv_calli hX (As := [.int (nI e)]) (rest := [.ref (Y.2.2.2 277)]) (ct_MD_integer _ Y (xm_set M16 277 29 t) e iA (by omega)) ml_MD_70 li_MD_integer rfl (by decide) rfl rfl rfl (by decide) ⟨by decide, by decide⟩ ⟨Nat.le_refl _, Nat.le_refl _⟩ (Nat.le_of_ble_eq_true rfl) dc_MD_basicContent_47 (rfl : _ = 50) (fun r47 M47 p47 => ?_)
        obtain ⟨i47, f47, w, z47, hw31, h47⟩ := p47
        rw [z47]
        rw [xm_oth (by decide), f16.1 278 (by decide), xm_oth (by decide), b4] at h47
        obtain ⟨iR, oR⟩ := md_put (M := M47) (k := 30) (v := w) (by decide) (by decide) i47
        refine xv_puti hX fl_MD_74 rfl rfl (by decide) dc_MD_basicContent_50 (rfl : _ = 53) ?_
        refine xv_aload_n hX 0 dc_MD_basicContent_53 rfl (rfl : _ = 54) ?_
        refine xv_iload_n hX 2 dc_MD_basicContent_54 rfl (rfl : _ = 55) ?_
        refine xv_callv hX (As := [.int (nI e)]) (rest := []) (ct_MD_leave _ Y (xm_set M47 277 30 w) e iR (by omega)) ml_MD_77 li_MD_leave rfl (by decide) rfl rfl rfl (by decide) ⟨by decide, by decide⟩ ⟨Nat.le_refl _, Nat.le_refl _⟩ (Nat.le_of_ble_eq_true rfl) dc_MD_basicContent_55 (rfl : _ = 58) (fun M55 p55 => ?_)
        obtain ⟨i55, f55, h55⟩ := p55
        rw [oR] at h55
        refine xv_retv hX hR dc_MD_basicContent_58 ?_
        have hb := mo_in hen (mo_bas2 (b := M 278) (by rw [← hs16]; rw [oB] at h16; exact h16.imp (fun x hx => by cases x; rw [htt] at hx; exact absurd hx (by decide); rfl)) (by omega) (by rw [← hs16, ← oA]; exact mo_intr h47 (by rw [if_pos ⟨Nat.zero_le _, by omega⟩])))
        rw [← h55] at hb
        have X47 : md_X [6, 7, 28, 29, 30] M M55 := (md_X.tt (f4.x.up (by decide)) (md_X.tt ((md_X.set M4 28 1).up (by decide)) (md_X.tt (f16.x.up (by decide)) (md_X.tt ((md_X.set M16 29 t).up (by decide)) (md_X.tt (f47.x.up (by decide)) (md_X.tt ((md_X.set M47 30 w).up (by decide)) (f55.x.up (by decide))))))))
        refine ⟨i55, X47, ?_, hb.imp (fun z hz => ?_)⟩
        · rw [f55.2 28 (by decide) (by decide), xm_nk (by decide), f47.2 28 (by decide) (by decide), xm_nk (by decide), f16.2 28 (by decide) (by decide), xm_eq]
        · rw [hz]
          have g1 : M55 277 29 = 1 := by rw [f55.2 29 (by decide) (by decide), xm_nk (by decide), f47.2 29 (by decide) (by decide), xm_eq]; exact htt
          have g2 : M55 277 30 = w := by rw [f55.2 30 (by decide) (by decide), xm_eq]
          exact ⟨g1, g2⟩
