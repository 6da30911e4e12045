/-! the reference: a certificate -/
set_option maxRecDepth 100000 in
set_option maxHeartbeats 4000000 in
theorem ct_MD_body (ln : Launch) (Y : xw_Y) (M : xm_M) (l : Nat) (hI : md_I M) (hl : l ≤ 1440) (hE : md_E (M 278) M ps_E0) : xc_v ln qm_MD_body 7 Y [.ref (Y.2.2.2 277), .int (nI l)] M (fun M1 => md_I M1 ∧ md_Y md_al M M1 ∧ mo_ok (mo_run (pq_pos (pq_in (M 278) 48 (pq_and (ps_head (M 278)) (ps_more (M 278))))) l (md_s M)) (md_s M1) (fun z => md_H (M 278) M1 z.1.1 ∧ md_E (M 278) M1 z.1.2 ∧ M1 277 14 = z.2.1 ∧ M1 277 15 = z.2.2)) := by
  refine xc_v.mk rfl (by decide) (Nat.le_of_ble_eq_true rfl) ?_
  intro X hXl hX hR
  subst hXl
  have hX : xv_ok X Y prog_9_method_22_code "CertificatePathModel" 4 (xc_rm 7) := hX
  show xv_V X Y 4 0 0 xw_lk xw_N M 0 [(0, .ref (Y.2.2.2 277)), (1, .int (nI l))] []
  obtain ⟨k6, k7, k8⟩ := id hI
  refine xv_aload_n hX 0 dc_MD_body_0 rfl (rfl : _ = 1) ?_
  refine xv_aload_n hX 0 dc_MD_body_1 rfl (rfl : _ = 2) ?_
  refine xv_geti hX fl_MD_38 rfl rfl (by decide) (v := M 277 6) rfl dc_MD_body_2 (rfl : _ = 5) ?_
  refine xv_puti hX fl_MD_129 rfl rfl (by decide) dc_MD_body_5 (rfl : _ = 8) ?_
  refine xv_aload_n hX 0 dc_MD_body_8 rfl (rfl : _ = 9) ?_
  refine xv_bipush hX (v := nI 48) dc_MD_body_9 (by decide) (rfl : _ = 11) ?_
  refine xv_iload_n hX 1 dc_MD_body_11 rfl (rfl : _ = 12) ?_
  obtain ⟨iA0_0, oA0_0⟩ := md_put (M := M) (k := 14) (v := (M 277 6)) (by decide) (by decide) hI
  have iA0 := iA0_0
  have oA0 : md_s (xm_set M 277 14 (M 277 6)) = md_s M := oA0_0
  have bA0 : (xm_set M 277 14 (M 277 6)) 278 = M 278 := by rw [xm_oth (by decide)]
  refine xv_calli hX (As := [.int (nI 48), .int (nI l)]) (rest := []) (ct_MD_enter _ Y (xm_set M 277 14 (M 277 6)) 48 l iA0 hl (by decide)) ml_MD_45 li_MD_enter rfl (by decide) rfl rfl rfl (by decide) ⟨by decide, by decide⟩ ⟨Nat.le_refl _, Nat.le_refl _⟩ (Nat.le_of_ble_eq_true rfl) dc_MD_body_12 (rfl : _ = 15) (fun r12 M12 p12 => ?_)
  obtain ⟨i12, f12, h12⟩ := p12
  rw [oA0, bA0] at h12
  obtain ⟨e, z12, hel, hen⟩ := mo_enter h12
  rw [z12]
  have b12 : M12 278 = M 278 := by rw [f12.1 278 (by decide)]; exact bA0
  refine xv_istore_n hX [1, 2, 0] dc_MD_body_15 (by decide) (L' := [(0, .ref (Y.2.2.2 277)), (1, .int (nI l)), (2, .int (nI e))]) rfl (rfl : _ = 16) ?_
  refine xv_aload_n hX 0 dc_MD_body_16 rfl (rfl : _ = 17) ?_
  refine xv_aload_n hX 0 dc_MD_body_17 rfl (rfl : _ = 18) ?_
  refine xv_iload_n hX 2 dc_MD_body_18 rfl (rfl : _ = 19) ?_
  refine xv_calli hX (As := [.int (nI e)]) (rest := [.ref (Y.2.2.2 277)]) (ct_MD_integer _ Y M12 e i12 (by omega)) ml_MD_70 li_MD_integer rfl (by decide) rfl rfl rfl (by decide) ⟨by decide, by decide⟩ ⟨Nat.le_refl _, Nat.le_refl _⟩ (Nat.le_of_ble_eq_true rfl) dc_MD_body_19 (rfl : _ = 22) (fun r19 M19 p19 => ?_)
  obtain ⟨i19, f19, sr, z19, hsr, h19⟩ := p19
  rw [z19]
  rw [b12] at h19
  have b19 : M19 278 = M 278 := by rw [f19.1 278 (by decide)]; exact b12
  refine xv_puti hX fl_MD_132 rfl rfl (by decide) dc_MD_body_22 (rfl : _ = 25) ?_
  refine xv_aload_n hX 0 dc_MD_body_25 rfl (rfl : _ = 26) ?_
  refine xv_iload_n hX 2 dc_MD_body_26 rfl (rfl : _ = 27) ?_
  obtain ⟨iA1_0, oA1_0⟩ := md_put (M := M19) (k := 8) (v := sr) (by decide) (by decide) i19
  have iA1 := iA1_0
  have oA1 : md_s (xm_set M19 277 8 sr) = md_s M19 := oA1_0
  have bA1 : (xm_set M19 277 8 sr) 278 = M 278 := by rw [xm_oth (by decide)]; exact b19
  refine xv_callv hX (As := [.int (nI e)]) (rest := []) (ct_MD_name _ Y (xm_set M19 277 8 sr) e iA1 (by omega)) ml_MD_81 li_MD_name rfl (by decide) rfl rfl rfl (by decide) ⟨by decide, by decide⟩ ⟨Nat.le_refl _, Nat.le_refl _⟩ (Nat.le_of_ble_eq_true rfl) dc_MD_body_27 (rfl : _ = 30) (fun M27 p27 => ?_)
  obtain ⟨i27, f27, -, -, -, h27⟩ := p27
  rw [oA1, bA1] at h27
  have n1 := mo_nm (by omega) h27
  have b27 : M27 278 = M 278 := by rw [f27.1 278 (by decide)]; exact bA1
  refine xv_aload_n hX 0 dc_MD_body_30 rfl (rfl : _ = 31) ?_
  refine xv_aload_n hX 0 dc_MD_body_31 rfl (rfl : _ = 32) ?_
  refine xv_geti hX fl_MD_48 rfl rfl (by decide) (v := M27 277 16) rfl dc_MD_body_32 (rfl : _ = 35) ?_
  refine xv_puti hX fl_MD_135 rfl rfl (by decide) dc_MD_body_35 (rfl : _ = 38) ?_
  refine xv_aload_n hX 0 dc_MD_body_38 rfl (rfl : _ = 39) ?_
  refine xv_aload_n hX 0 dc_MD_body_39 rfl (rfl : _ = 40) ?_
  refine xv_geti hX fl_MD_51 rfl rfl (by decide) (v := M27 277 17) (xm_nk (by decide)) dc_MD_body_40 (rfl : _ = 43) ?_
  refine xv_puti hX fl_MD_138 rfl rfl (by decide) dc_MD_body_43 (rfl : _ = 46) ?_
  refine xv_aload_n hX 0 dc_MD_body_46 rfl (rfl : _ = 47) ?_
  refine xv_aload_n hX 0 dc_MD_body_47 rfl (rfl : _ = 48) ?_
  refine xv_geti hX fl_MD_54 rfl rfl (by decide) (v := M27 277 18) ((xm_nk (by decide)).trans (xm_nk (by decide))) dc_MD_body_48 (rfl : _ = 51) ?_
  refine xv_puti hX fl_MD_141 rfl rfl (by decide) dc_MD_body_51 (rfl : _ = 54) ?_
  refine xv_aload_n hX 0 dc_MD_body_54 rfl (rfl : _ = 55) ?_
  refine xv_bipush hX (v := nI 48) dc_MD_body_55 (by decide) (rfl : _ = 57) ?_
  refine xv_iload_n hX 2 dc_MD_body_57 rfl (rfl : _ = 58) ?_
  obtain ⟨iA2_0, oA2_0⟩ := md_put (M := M27) (k := 19) (v := (M27 277 16)) (by decide) (by decide) i27
  obtain ⟨iA2_1, oA2_1⟩ := md_put (M := (xm_set M27 277 19 (M27 277 16))) (k := 20) (v := (M27 277 17)) (by decide) (by decide) iA2_0
  obtain ⟨iA2_2, oA2_2⟩ := md_put (M := (xm_set (xm_set M27 277 19 (M27 277 16)) 277 20 (M27 277 17))) (k := 21) (v := (M27 277 18)) (by decide) (by decide) iA2_1
  have iA2 := iA2_2
  have oA2 : md_s (xm_set (xm_set (xm_set M27 277 19 (M27 277 16)) 277 20 (M27 277 17)) 277 21 (M27 277 18)) = md_s M27 := (oA2_2.trans (oA2_1.trans oA2_0))
  have bA2 : (xm_set (xm_set (xm_set M27 277 19 (M27 277 16)) 277 20 (M27 277 17)) 277 21 (M27 277 18)) 278 = M 278 := by rw [xm_oth (by decide), xm_oth (by decide), xm_oth (by decide)]; exact b27
  refine xv_calli hX (As := [.int (nI 48), .int (nI e)]) (rest := []) (ct_MD_enter _ Y (xm_set (xm_set (xm_set M27 277 19 (M27 277 16)) 277 20 (M27 277 17)) 277 21 (M27 277 18)) 48 e iA2 (by omega) (by decide)) ml_MD_45 li_MD_enter rfl (by decide) rfl rfl rfl (by decide) ⟨by decide, by decide⟩ ⟨Nat.le_refl _, Nat.le_refl _⟩ (Nat.le_of_ble_eq_true rfl) dc_MD_body_58 (rfl : _ = 61) (fun r58 M58 p58 => ?_)
  obtain ⟨i58, f58, h58⟩ := p58
  rw [oA2, bA2] at h58
  obtain ⟨g, z58, hge, hen2⟩ := mo_enter h58
  rw [z58]
  have b58 : M58 278 = M 278 := by rw [f58.1 278 (by decide)]; exact bA2
  refine xv_istore_n hX [1, 2, 3, 0] dc_MD_body_61 (by decide) (L' := [(0, .ref (Y.2.2.2 277)), (1, .int (nI l)), (2, .int (nI e)), (3, .int (nI g))]) rfl (rfl : _ = 62) ?_
  refine xv_aload_n hX 0 dc_MD_body_62 rfl (rfl : _ = 63) ?_
  refine xv_aload_n hX 0 dc_MD_body_63 rfl (rfl : _ = 64) ?_
  refine xv_iload_n hX 3 dc_MD_body_64 rfl (rfl : _ = 65) ?_
  refine xv_calli hX (As := [.int (nI g)]) (rest := [.ref (Y.2.2.2 277)]) (ct_MD_integer _ Y M58 g i58 (by omega)) ml_MD_70 li_MD_integer rfl (by decide) rfl rfl rfl (by decide) ⟨by decide, by decide⟩ ⟨Nat.le_refl _, Nat.le_refl _⟩ (Nat.le_of_ble_eq_true rfl) dc_MD_body_65 (rfl : _ = 68) (fun r65 M65 p65 => ?_)
  obtain ⟨i65, f65, sn, z65, hsn, h65⟩ := p65
  rw [z65]
  rw [b58] at h65
  have b65 : M65 278 = M 278 := by rw [f65.1 278 (by decide)]; exact b58
  refine xv_puti hX fl_MD_144 rfl rfl (by decide) dc_MD_body_68 (rfl : _ = 71) ?_
  refine xv_aload_n hX 0 dc_MD_body_71 rfl (rfl : _ = 72) ?_
  refine xv_aload_n hX 0 dc_MD_body_72 rfl (rfl : _ = 73) ?_
  refine xv_iload_n hX 3 dc_MD_body_73 rfl (rfl : _ = 74) ?_
  obtain ⟨iA3_0, oA3_0⟩ := md_put (M := M65) (k := 9) (v := sn) (by decide) (by decide) i65
  have iA3 := iA3_0
  have oA3 : md_s (xm_set M65 277 9 sn) = md_s M65 := oA3_0
  have bA3 : (xm_set M65 277 9 sn) 278 = M 278 := by rw [xm_oth (by decide)]; exact b65
  refine xv_calli hX (As := [.int (nI g)]) (rest := [.ref (Y.2.2.2 277)]) (ct_MD_integer _ Y (xm_set M65 277 9 sn) g iA3 (by omega)) ml_MD_70 li_MD_integer rfl (by decide) rfl rfl rfl (by decide) ⟨by decide, by decide⟩ ⟨Nat.le_refl _, Nat.le_refl _⟩ (Nat.le_of_ble_eq_true rfl) dc_MD_body_74 (rfl : _ = 77) (fun r74 M74 p74 => ?_)
  obtain ⟨i74, f74, un, z74, hun, h74⟩ := p74
  rw [z74]
  rw [bA3] at h74
  have b74 : M74 278 = M 278 := by rw [f74.1 278 (by decide)]; exact bA3
  refine xv_puti hX fl_MD_147 rfl rfl (by decide) dc_MD_body_77 (rfl : _ = 80) ?_
  refine xv_aload_n hX 0 dc_MD_body_80 rfl (rfl : _ = 81) ?_
  refine xv_iload_n hX 3 dc_MD_body_81 rfl (rfl : _ = 82) ?_
  obtain ⟨iA4_0, oA4_0⟩ := md_put (M := M74) (k := 10) (v := un) (by decide) (by decide) i74
  have iA4 := iA4_0
  have oA4 : md_s (xm_set M74 277 10 un) = md_s M74 := oA4_0
  have bA4 : (xm_set M74 277 10 un) 278 = M 278 := by rw [xm_oth (by decide)]; exact b74
  refine xv_callv hX (As := [.int (nI g)]) (rest := []) (ct_MD_leave _ Y (xm_set M74 277 10 un) g iA4 (by omega)) ml_MD_77 li_MD_leave rfl (by decide) rfl rfl rfl (by decide) ⟨by decide, by decide⟩ ⟨Nat.le_refl _, Nat.le_refl _⟩ (Nat.le_of_ble_eq_true rfl) dc_MD_body_82 (rfl : _ = 85) (fun M82 p82 => ?_)
  obtain ⟨i82, f82, h82⟩ := p82
  rw [oA4] at h82
  have b82 : M82 278 = M 278 := by rw [f82.1 278 (by decide)]; exact bA4
  refine xv_aload_n hX 0 dc_MD_body_85 rfl (rfl : _ = 86) ?_
  refine xv_iload_n hX 2 dc_MD_body_86 rfl (rfl : _ = 87) ?_
  refine xv_callv hX (As := [.int (nI e)]) (rest := []) (ct_MD_name _ Y M82 e i82 (by omega)) ml_MD_81 li_MD_name rfl (by decide) rfl rfl rfl (by decide) ⟨by decide, by decide⟩ ⟨Nat.le_refl _, Nat.le_refl _⟩ (Nat.le_of_ble_eq_true rfl) dc_MD_body_87 (rfl : _ = 90) (fun M87 p87 => ?_)
  obtain ⟨i87, f87, -, -, -, h87⟩ := p87
  rw [b82, h82] at h87
  have n2 := mo_nm (by omega) h87
  have b87 : M87 278 = M 278 := by rw [f87.1 278 (by decide)]; exact b82
  refine xv_aload_n hX 0 dc_MD_body_90 rfl (rfl : _ = 91) ?_
  refine xv_aload_n hX 0 dc_MD_body_91 rfl (rfl : _ = 92) ?_
  refine xv_geti hX fl_MD_48 rfl rfl (by decide) (v := M87 277 16) rfl dc_MD_body_92 (rfl : _ = 95) ?_
  refine xv_puti hX fl_MD_150 rfl rfl (by decide) dc_MD_body_95 (rfl : _ = 98) ?_
  refine xv_aload_n hX 0 dc_MD_body_98 rfl (rfl : _ = 99) ?_
  refine xv_aload_n hX 0 dc_MD_body_99 rfl (rfl : _ = 100) ?_
  refine xv_geti hX fl_MD_51 rfl rfl (by decide) (v := M87 277 17) (xm_nk (by decide)) dc_MD_body_100 (rfl : _ = 103) ?_
  refine xv_puti hX fl_MD_153 rfl rfl (by decide) dc_MD_body_103 (rfl : _ = 106) ?_
  refine xv_aload_n hX 0 dc_MD_body_106 rfl (rfl : _ = 107) ?_
  refine xv_aload_n hX 0 dc_MD_body_107 rfl (rfl : _ = 108) ?_
  refine xv_geti hX fl_MD_54 rfl rfl (by decide) (v := M87 277 18) ((xm_nk (by decide)).trans (xm_nk (by decide))) dc_MD_body_108 (rfl : _ = 111) ?_
  refine xv_puti hX fl_MD_156 rfl rfl (by decide) dc_MD_body_111 (rfl : _ = 114) ?_
  refine xv_aload_n hX 0 dc_MD_body_114 rfl (rfl : _ = 115) ?_
  refine xv_iload_n hX 2 dc_MD_body_115 rfl (rfl : _ = 116) ?_
  obtain ⟨iA5_0, oA5_0⟩ := md_put (M := M87) (k := 22) (v := (M87 277 16)) (by decide) (by decide) i87
  obtain ⟨iA5_1, oA5_1⟩ := md_put (M := (xm_set M87 277 22 (M87 277 16))) (k := 23) (v := (M87 277 17)) (by decide) (by decide) iA5_0
  obtain ⟨iA5_2, oA5_2⟩ := md_put (M := (xm_set (xm_set M87 277 22 (M87 277 16)) 277 23 (M87 277 17))) (k := 24) (v := (M87 277 18)) (by decide) (by decide) iA5_1
  have iA5 := iA5_2
  have oA5 : md_s (xm_set (xm_set (xm_set M87 277 22 (M87 277 16)) 277 23 (M87 277 17)) 277 24 (M87 277 18)) = md_s M87 := (oA5_2.trans (oA5_1.trans oA5_0))
  have bA5 : (xm_set (xm_set (xm_set M87 277 22 (M87 277 16)) 277 23 (M87 277 17)) 277 24 (M87 277 18)) 278 = M 278 := by rw [xm_oth (by decide), xm_oth (by decide), xm_oth (by decide)]; exact b87
  refine xv_callv hX (As := [.int (nI e)]) (rest := []) (ct_MD_key _ Y (xm_set (xm_set (xm_set M87 277 22 (M87 277 16)) 277 23 (M87 277 17)) 277 24 (M87 277 18)) e iA5 (by omega)) ml_MD_159 li_MD_key rfl (by decide) rfl rfl rfl (by decide) ⟨by decide, by decide⟩ ⟨Nat.le_refl _, Nat.le_refl _⟩ (Nat.le_of_ble_eq_true rfl) dc_MD_body_116 (rfl : _ = 119) (fun M116 p116 => ?_)
  obtain ⟨i116, f116, h116⟩ := p116
  rw [bA5] at h116
  have b116 : M116 278 = M 278 := by rw [f116.1 278 (by decide)]; exact bA5
  have X116 : md_X [6, 7, 8, 9, 10, 11, 12, 14, 16, 17, 18, 19, 20, 21, 22, 23, 24] M M116 := (md_X.tt ((md_X.set M 14 (M 277 6)).up (by decide)) (md_X.tt (f12.x.up (by decide)) (md_X.tt (f19.x.up (by decide)) (md_X.tt ((md_X.set M19 8 sr).up (by decide)) (md_X.tt (f27.x.up (by decide)) (md_X.tt ((md_X.set M27 19 (M27 277 16)).up (by decide)) (md_X.tt ((md_X.set (xm_set M27 277 19 (M27 277 16)) 20 (M27 277 17)).up (by decide)) (md_X.tt ((md_X.set (xm_set (xm_set M27 277 19 (M27 277 16)) 277 20 (M27 277 17)) 21 (M27 277 18)).up (by decide)) (md_X.tt (f58.x.up (by decide)) (md_X.tt (f65.x.up (by decide)) (md_X.tt ((md_X.set M65 9 sn).up (by decide)) (md_X.tt (f74.x.up (by decide)) (md_X.tt ((md_X.set M74 10 un).up (by decide)) (md_X.tt (f82.x.up (by decide)) (md_X.tt (f87.x.up (by decide)) (md_X.tt ((md_X.set M87 22 (M87 277 16)).up (by decide)) (md_X.tt ((md_X.set (xm_set M87 277 22 (M87 277 16)) 23 (M87 277 17)).up (by decide)) (md_X.tt ((md_X.set (xm_set (xm_set M87 277 22 (M87 277 16)) 277 23 (M87 277 17)) 24 (M87 277 18)).up (by decide)) (f116.up (by decide))))))))))))))))))))
  have E116 : md_E (M 278) M116 ps_E0 := md_E_cg (X116.1 281 (by decide)) (fun j hj => X116.2 j (fun z => by simp at z; omega)) hE
  have hHd := mo_and (mo_intr (lo := 0) (hi := 2147483647) h19 (if_pos ⟨Nat.zero_le _, (by omega)⟩).symm) (mo_and n1 (mo_and (mo_in hen2 (mo_and (mo_intr (lo := 0) (hi := 2147483647) h65 (if_pos ⟨Nat.zero_le _, (by omega)⟩).symm) (by rw [← oA3]; exact (mo_intr (lo := 0) (hi := 2147483647) h74 (if_pos ⟨Nat.zero_le _, (by omega)⟩).symm)))) (mo_and n2 (by rw [← oA5]; exact h116))))
  have r8 : M116 277 8 = sr := by rw [f116.2 8 (by decide), xm_nk (by decide), xm_nk (by decide), xm_nk (by decide), f87.x.2 8 (by decide), f82.2 8 (by decide) (by decide), xm_nk (by decide), f74.2 8 (by decide) (by decide), xm_nk (by decide), f65.2 8 (by decide) (by decide), f58.2 8 (by decide) (by decide), xm_nk (by decide), xm_nk (by decide), xm_nk (by decide), f27.x.2 8 (by decide), xm_eq]
  have r9 : M116 277 9 = sn := by rw [f116.2 9 (by decide), xm_nk (by decide), xm_nk (by decide), xm_nk (by decide), f87.x.2 9 (by decide), f82.2 9 (by decide) (by decide), xm_nk (by decide), f74.2 9 (by decide) (by decide), xm_eq]
  have r10 : M116 277 10 = un := by rw [f116.2 10 (by decide), xm_nk (by decide), xm_nk (by decide), xm_nk (by decide), f87.x.2 10 (by decide), f82.2 10 (by decide) (by decide), xm_eq]
  have r14 : M116 277 14 = M 277 6 := by rw [f116.2 14 (by decide), xm_nk (by decide), xm_nk (by decide), xm_nk (by decide), f87.x.2 14 (by decide), f82.2 14 (by decide) (by decide), xm_nk (by decide), f74.2 14 (by decide) (by decide), xm_nk (by decide), f65.2 14 (by decide) (by decide), f58.2 14 (by decide) (by decide), xm_nk (by decide), xm_nk (by decide), xm_nk (by decide), f27.x.2 14 (by decide), xm_nk (by decide), f19.2 14 (by decide) (by decide), f12.2 14 (by decide) (by decide), xm_eq]
  have r19 : M116 277 19 = M27 277 16 := by rw [f116.2 19 (by decide), xm_nk (by decide), xm_nk (by decide), xm_nk (by decide), f87.x.2 19 (by decide), f82.2 19 (by decide) (by decide), xm_nk (by decide), f74.2 19 (by decide) (by decide), xm_nk (by decide), f65.2 19 (by decide) (by decide), f58.2 19 (by decide) (by decide), xm_nk (by decide), xm_nk (by decide), xm_eq]
  have r20 : M116 277 20 = M27 277 17 := by rw [f116.2 20 (by decide), xm_nk (by decide), xm_nk (by decide), xm_nk (by decide), f87.x.2 20 (by decide), f82.2 20 (by decide) (by decide), xm_nk (by decide), f74.2 20 (by decide) (by decide), xm_nk (by decide), f65.2 20 (by decide) (by decide), f58.2 20 (by decide) (by decide), xm_nk (by decide), xm_eq]
  have r21 : M116 277 21 = M27 277 18 := by rw [f116.2 21 (by decide), xm_nk (by decide), xm_nk (by decide), xm_nk (by decide), f87.x.2 21 (by decide), f82.2 21 (by decide) (by decide), xm_nk (by decide), f74.2 21 (by decide) (by decide), xm_nk (by decide), f65.2 21 (by decide) (by decide), f58.2 21 (by decide) (by decide), xm_eq]
  have r22 : M116 277 22 = M87 277 16 := by rw [f116.2 22 (by decide), xm_nk (by decide), xm_nk (by decide), xm_eq]
  have r23 : M116 277 23 = M87 277 17 := by rw [f116.2 23 (by decide), xm_nk (by decide), xm_eq]
  have r24 : M116 277 24 = M87 277 18 := by rw [f116.2 24 (by decide), xm_eq]
  have k1166 := i116.1
  have k1167 := i116.2.1
  have j139 : ∀ (Mm : xm_M) (im : md_I Mm) (fm : md_Y md_sl M116 Mm) (hm : ∃ s9, mo_ok (mo_run (ps_more (M 278)) e (md_s M116)) s9 (fun E2 => md_s Mm ≠ none → md_E (M 278) Mm E2) ∧ mo_lv e s9 = mo_lv e (md_s Mm)), xv_V X Y 4 0 0 xw_lk xw_N Mm 139 [(0, .ref (Y.2.2.2 277)), (1, .int (nI l)), (2, .int (nI e)), (3, .int (nI g))] [] := by
    intro Mm im fm hm
    refine xv_aload_n hX 0 dc_MD_body_139 rfl (rfl : _ = 140) ?_
    refine xv_iload_n hX 2 dc_MD_body_140 rfl (rfl : _ = 141) ?_
    refine xv_callv hX (As := [.int (nI e)]) (rest := []) (ct_MD_leave _ Y Mm e im (by omega)) ml_MD_77 li_MD_leave rfl (by decide) rfl rfl rfl (by decide) ⟨by decide, by decide⟩ ⟨Nat.le_refl _, Nat.le_refl _⟩ (Nat.le_of_ble_eq_true rfl) dc_MD_body_141 (rfl : _ = 144) (fun M141 p141 => ?_)
    obtain ⟨i141, f141, h141⟩ := p141
    refine xv_aload_n hX 0 dc_MD_body_144 rfl (rfl : _ = 145) ?_
    refine xv_aload_n hX 0 dc_MD_body_145 rfl (rfl : _ = 146) ?_
    refine xv_geti hX fl_MD_38 rfl rfl (by decide) (v := M141 277 6) rfl dc_MD_body_146 (rfl : _ = 149) ?_
    refine xv_puti hX fl_MD_165 rfl rfl (by decide) dc_MD_body_149 (rfl : _ = 152) ?_
    refine xv_retv hX hR dc_MD_body_152 ?_
    obtain ⟨s9, hm9, hl9⟩ := hm
    have hfin := mo_pos (mo_in hen (mo_and hHd hm9))
    rw [hl9, ← h141] at hfin
    obtain ⟨iZ, oZ⟩ := md_put (M := M141) (k := 15) (v := M141 277 6) (by decide) (by decide) i141
    refine ⟨iZ, (md_Y.tt (X116.y.up (by decide)) (md_Y.tt (fm.up (by decide)) (md_Y.tt (f141.x.y.up (by decide)) ((md_X.set M141 15 (M141 277 6)).y.up (by decide))))), ?_⟩
    rw [oZ]
    have q1 : ∀ j, j ∉ md_sl → j ≠ 15 → xm_set M141 277 15 (M141 277 6) 277 j = M116 277 j := fun j a b => by rw [xm_nk b, f141.2 j (fun z => a (by rw [z]; decide)) (fun z => a (by rw [z]; decide)), fm.2 j a]
    rcases hfin with h | ⟨z, j, h, hj, ⟨⟨hz1, hz2, ⟨hz3, hz3b⟩, hz4, hz5, hz6⟩, hz7⟩, hz8, hz9⟩
    · exact Or.inl h
    · refine Or.inr ⟨z, j, h, hj, ⟨?_, ?_, ⟨?_, ?_⟩, ?_, ?_, ?_⟩, ?_, ?_, ?_⟩
      · rw [q1 8 (by decide) (by decide), r8]; exact hz1.symm
      · rw [q1 19 (by decide) (by decide), q1 20 (by decide) (by decide), q1 21 (by decide) (by decide), r19, r20, r21]; exact hz2
      · rw [q1 9 (by decide) (by decide), r9]; exact hz3.symm
      · rw [q1 10 (by decide) (by decide), r10]; exact hz3b.symm
      · rw [q1 22 (by decide) (by decide), q1 23 (by decide) (by decide), q1 24 (by decide) (by decide), r22, r23, r24]; exact hz4
      · rw [q1 11 (by decide) (by decide)]; exact hz5
      · rw [q1 12 (by decide) (by decide)]; exact hz6
      · have hn : md_s Mm ≠ none := fun z => by rw [h141, z] at hj; cases hj
        exact md_E_cg (by rw [xm_oth (by decide), f141.1 281 (by decide)]) (fun j hj => by rw [xm_nk (by omega), f141.2 j (by omega) (by omega)]) (hz7 hn)
      · rw [q1 14 (by decide) (by decide), r14]; exact (md_g hz8).2
      · rw [xm_eq]; exact (md_g hz9).2
  refine xv_aload_n hX 0 dc_MD_body_119 rfl (rfl : _ = 120) ?_
  refine xv_geti hX fl_MD_34 rfl rfl (by decide) (v := M116 277 7) rfl dc_MD_body_120 (rfl : _ = 123) ?_
  refine xv_if_ne hX (nI_toInt (by omega)) (tgt := 139) (pq := 126) dc_MD_body_123 (by decide) rfl (fun c123 => ?_) (fun c123 => ?_)
  · skip
    refine xv_sub (L' := [(0, .ref (Y.2.2.2 277)), (1, .int (nI l)), (2, .int (nI e)), (3, .int (nI g))]) [0, 1, 2, 3] rfl ?_
    exact j139 M116 i116 (md_Y.rf _ _) ⟨md_s M116, (mo_more0 (fun i hi => by obtain ⟨q7, q6⟩ := md_g hi; omega)).imp (fun x hx _ => by rw [hx]; exact E116), rfl⟩
  · skip
    refine xv_aload_n hX 0 dc_MD_body_126 rfl (rfl : _ = 127) ?_
    refine xv_geti hX fl_MD_38 rfl rfl (by decide) (v := M116 277 6) rfl dc_MD_body_127 (rfl : _ = 130) ?_
    refine xv_iload_n hX 2 dc_MD_body_130 rfl (rfl : _ = 131) ?_
    refine xv_icmp_ge hX (nI_toInt (by omega)) (nI_toInt (by omega)) (tgt := 139) (pq := 134) dc_MD_body_131 (by decide) rfl (fun c131 => ?_) (fun c131 => ?_)
    · skip
      refine xv_sub (L' := [(0, .ref (Y.2.2.2 277)), (1, .int (nI l)), (2, .int (nI e)), (3, .int (nI g))]) [0, 1, 2, 3] rfl ?_
      exact j139 M116 i116 (md_Y.rf _ _) ⟨md_s M116, (mo_more0 (fun i hi => by obtain ⟨q7, q6⟩ := md_g hi; omega)).imp (fun x hx _ => by rw [hx]; exact E116), rfl⟩
    · skip
      refine xv_aload_n hX 0 dc_MD_body_134 rfl (rfl : _ = 135) ?_
      refine xv_iload_n hX 2 dc_MD_body_135 rfl (rfl : _ = 136) ?_
      refine xv_callv hX (As := [.int (nI e)]) (rest := []) (ct_MD_more _ Y M116 e i116 (by omega) (by rw [b116]; exact E116)) ml_MD_162 li_MD_more rfl (by decide) rfl rfl rfl (by decide) ⟨by decide, by decide⟩ ⟨Nat.le_refl _, Nat.le_refl _⟩ (Nat.le_of_ble_eq_true rfl) dc_MD_body_136 (rfl : _ = 139) (fun M136 p136 => ?_)
      obtain ⟨i136, f136, h136⟩ := p136
      rw [b116] at h136
      have hs116 : md_s M116 = some (M116 277 6) := md_s0 (by omega)
      rw [hs116] at h136 hHd
      refine xv_sub (L' := [(0, .ref (Y.2.2.2 277)), (1, .int (nI l)), (2, .int (nI e)), (3, .int (nI g))]) [0, 1, 2, 3] rfl ?_
      exact j139 M136 i136 f136 (by rw [hs116]; exact mo_more1 (by omega) h136)

set_option maxRecDepth 100000 in
set_option maxHeartbeats 4000000 in
theorem ct_MD_read (ln : Launch) (Y : xw_Y) (M : xm_M) (f n : Nat) (hb : ∀ j, j < 1440 → M 278 j < 256) (hfn : f + n ≤ 1440) : xc_i ln qm_MD_read 8 Y [.ref (Y.2.2.2 277), .int (nI f), .int (nI n)] M (fun r M1 => md_I M1 ∧ md_Y md_al M M1 ∧ ((r = nI 0 ∧ ps_cert (M 278) f (f + n) = none) ∨ (r = nI 1 ∧ ∃ C, ps_cert (M 278) f (f + n) = some C ∧ md_C (M 278) M1 C))) := by
  refine xc_i.mk .boolean rfl (by decide) (Nat.le_of_ble_eq_true rfl) ?_
  intro X hXl hX hR
  subst hXl
  have hX : xv_ok X Y prog_9_method_23_code "CertificatePathModel" 4 (xc_rm 8) := hX
  show xv_V X Y 4 0 0 xw_lk xw_N M 0 [(0, .ref (Y.2.2.2 277)), (1, .int (nI f)), (2, .int (nI n))] []
  refine xv_aload_n hX 0 dc_MD_read_0 rfl (rfl : _ = 1) ?_
  refine xv_iload_n hX 1 dc_MD_read_1 rfl (rfl : _ = 2) ?_
  refine xv_puti hX fl_MD_38 rfl rfl (by decide) dc_MD_read_2 (rfl : _ = 5) ?_
  refine xv_aload_n hX 0 dc_MD_read_5 rfl (rfl : _ = 6) ?_
  refine xv_iconst hX (v := nI 0) dc_MD_read_6 (by decide) (rfl : _ = 7) ?_
  refine xv_putz hX fl_MD_34 rfl rfl (by decide) (by decide) dc_MD_read_7 (rfl : _ = 10) ?_
  refine xv_aload_n hX 0 dc_MD_read_10 rfl (rfl : _ = 11) ?_
  refine xv_iconst hX (v := nI 0) dc_MD_read_11 (by decide) (rfl : _ = 12) ?_
  refine xv_puti hX fl_MD_105 rfl rfl (by decide) dc_MD_read_12 (rfl : _ = 15) ?_
  refine xv_aload_n hX 0 dc_MD_read_15 rfl (rfl : _ = 16) ?_
  refine xv_iconst hX (v := nI 0) dc_MD_read_16 (by decide) (rfl : _ = 17) ?_
  refine xv_putz hX fl_MD_108 rfl rfl (by decide) (by decide) dc_MD_read_17 (rfl : _ = 20) ?_
  refine xv_aload_n hX 0 dc_MD_read_20 rfl (rfl : _ = 21) ?_
  refine xv_iconst hX (v := nI 0) dc_MD_read_21 (by decide) (rfl : _ = 22) ?_
  refine xv_putz hX fl_MD_60 rfl rfl (by decide) (by decide) dc_MD_read_22 (rfl : _ = 25) ?_
  refine xv_aload_n hX 0 dc_MD_read_25 rfl (rfl : _ = 26) ?_
  refine xv_iconst hX (v := nI 0) dc_MD_read_26 (by decide) (rfl : _ = 27) ?_
  refine xv_putz hX fl_MD_67 rfl rfl (by decide) (by decide) dc_MD_read_27 (rfl : _ = 30) ?_
  refine xv_aload_n hX 0 dc_MD_read_30 rfl (rfl : _ = 31) ?_
  refine xv_iconst hX (v := nI 4294967295) dc_MD_read_31 (by decide) (rfl : _ = 32) ?_
  refine xv_puti hX fl_MD_74 rfl rfl (by decide) dc_MD_read_32 (rfl : _ = 35) ?_
  refine xv_aload_n hX 0 dc_MD_read_35 rfl (rfl : _ = 36) ?_
  refine xv_iconst hX (v := nI 4294967295) dc_MD_read_36 (by decide) (rfl : _ = 37) ?_
  refine xv_puti hX fl_MD_57 rfl rfl (by decide) dc_MD_read_37 (rfl : _ = 40) ?_
  refine xv_aload_n hX 0 dc_MD_read_40 rfl (rfl : _ = 41) ?_
  refine xv_iconst hX (v := nI 0) dc_MD_read_41 (by decide) (rfl : _ = 42) ?_
  refine xv_puti hX fl_MD_90 rfl rfl (by decide) dc_MD_read_42 (rfl : _ = 45) ?_
  refine xv_aload_n hX 0 dc_MD_read_45 rfl (rfl : _ = 46) ?_
  refine xv_iconst hX (v := nI 0) dc_MD_read_46 (by decide) (rfl : _ = 47) ?_
  refine xv_puti hX fl_MD_99 rfl rfl (by decide) dc_MD_read_47 (rfl : _ = 50) ?_
  refine xv_aload_n hX 0 dc_MD_read_50 rfl (rfl : _ = 51) ?_
  refine xv_bipush hX (v := nI 48) dc_MD_read_51 (by decide) (rfl : _ = 53) ?_
  refine xv_iload_n hX 1 dc_MD_read_53 rfl (rfl : _ = 54) ?_
  refine xv_iload_n hX 2 dc_MD_read_54 rfl (rfl : _ = 55) ?_
  refine xv_iadd hX dc_MD_read_55 (nI_add f n) (rfl : _ = 56) ?_
  obtain ⟨B, hB⟩ : ∃ B, B = (xm_set (xm_set (xm_set (xm_set (xm_set (xm_set (xm_set (xm_set (xm_set (xm_set M 277 6 f) 277 7 0) 277 25 0) 277 27 0) 277 28 0) 277 29 0) 277 30 4294967295) 277 31 4294967295) 277 32 0) 277 35 0) := ⟨_, rfl⟩
  rw [← hB]
  have B6 : B 277 6 = f := by rw [hB]; rw [xm_nk (by decide), xm_nk (by decide), xm_nk (by decide), xm_nk (by decide), xm_nk (by decide), xm_nk (by decide), xm_nk (by decide), xm_nk (by decide), xm_nk (by decide), xm_eq]
  have B7 : B 277 7 = 0 := by rw [hB]; rw [xm_nk (by decide), xm_nk (by decide), xm_nk (by decide), xm_nk (by decide), xm_nk (by decide), xm_nk (by decide), xm_nk (by decide), xm_nk (by decide), xm_eq]
  have B25 : B 277 25 = 0 := by rw [hB]; rw [xm_nk (by decide), xm_nk (by decide), xm_nk (by decide), xm_nk (by decide), xm_nk (by decide), xm_nk (by decide), xm_nk (by decide), xm_eq]
  have B27 : B 277 27 = 0 := by rw [hB]; rw [xm_nk (by decide), xm_nk (by decide), xm_nk (by decide), xm_nk (by decide), xm_nk (by decide), xm_nk (by decide), xm_eq]
  have B28 : B 277 28 = 0 := by rw [hB]; rw [xm_nk (by decide), xm_nk (by decide), xm_nk (by decide), xm_nk (by decide), xm_nk (by decide), xm_eq]
  have B29 : B 277 29 = 0 := by rw [hB]; rw [xm_nk (by decide), xm_nk (by decide), xm_nk (by decide), xm_nk (by decide), xm_eq]
  have B30 : B 277 30 = 4294967295 := by rw [hB]; rw [xm_nk (by decide), xm_nk (by decide), xm_nk (by decide), xm_eq]
  have B31 : B 277 31 = 4294967295 := by rw [hB]; rw [xm_nk (by decide), xm_nk (by decide), xm_eq]
  have B32 : B 277 32 = 0 := by rw [hB]; rw [xm_nk (by decide), xm_eq]
  have B35 : B 277 35 = 0 := by rw [hB]; rw [xm_eq]
  have Bq : ∀ q, q ≠ 277 → B q = M q := fun q a => by rw [hB, xm_oth a, xm_oth a, xm_oth a, xm_oth a, xm_oth a, xm_oth a, xm_oth a, xm_oth a, xm_oth a, xm_oth a]
  have BY : md_Y md_al M B := ⟨fun q a _ => Bq q a, fun j a => by rw [hB, xm_nk (fun z => a (by rw [z]; decide)), xm_nk (fun z => a (by rw [z]; decide)), xm_nk (fun z => a (by rw [z]; decide)), xm_nk (fun z => a (by rw [z]; decide)), xm_nk (fun z => a (by rw [z]; decide)), xm_nk (fun z => a (by rw [z]; decide)), xm_nk (fun z => a (by rw [z]; decide)), xm_nk (fun z => a (by rw [z]; decide)), xm_nk (fun z => a (by rw [z]; decide)), xm_nk (fun z => a (by rw [z]; decide))]⟩
  have iB : md_I B := ⟨by omega, by omega, by rw [Bq 278 (by decide)]; exact hb⟩
  have sB : md_s B = some f := by rw [md_s0 B7, B6]
  have EB : md_E (M 278) B ps_E0 := md_E00 B25 B27 B28 B29 B30 B31 B32 B35
  refine xv_calli hX (As := [.int (nI 48), .int (nI (f + n))]) (rest := []) (ct_MD_enter _ Y B 48 (f + n) iB (by omega) (by decide)) ml_MD_45 li_MD_enter rfl (by decide) rfl rfl rfl (by decide) ⟨by decide, by decide⟩ ⟨Nat.le_refl _, Nat.le_refl _⟩ (Nat.le_of_ble_eq_true rfl) dc_MD_read_56 (rfl : _ = 59) (fun r56 M56 p56 => ?_)
  obtain ⟨i56, f56, h56⟩ := p56
  rw [sB, Bq 278 (by decide)] at h56
  obtain ⟨e, z56, hel, hen⟩ := mo_enter h56
  rw [z56]
  have b56 : M56 278 = M 278 := by rw [f56.1 278 (by decide)]; exact Bq 278 (by decide)
  have E56 : md_E (M 278) M56 ps_E0 := md_E_cg (by rw [f56.1 281 (by decide)]) (fun j hj => f56.2 j (by omega) (by omega)) EB
  refine xv_istore_n hX [1, 2, 3, 0] dc_MD_read_59 (by decide) (L' := [(0, .ref (Y.2.2.2 277)), (1, .int (nI f)), (2, .int (nI n)), (3, .int (nI e))]) rfl (rfl : _ = 60) ?_
  refine xv_aload_n hX 0 dc_MD_read_60 rfl (rfl : _ = 61) ?_
  refine xv_iload_n hX 3 dc_MD_read_61 rfl (rfl : _ = 62) ?_
  refine xv_callv hX (As := [.int (nI e)]) (rest := []) (ct_MD_body _ Y M56 e i56 (by omega) (by rw [b56]; exact E56)) ml_MD_168 li_MD_body rfl (by decide) rfl rfl rfl (by decide) ⟨by decide, by decide⟩ ⟨Nat.le_refl _, Nat.le_refl _⟩ (Nat.le_of_ble_eq_true rfl) dc_MD_read_62 (rfl : _ = 65) (fun M62 p62 => ?_)
  obtain ⟨i62, f62, h62⟩ := p62
  rw [b56] at h62
  have b62 : M62 278 = M 278 := by rw [f62.1 278 (by decide) (by decide)]; exact b56
  refine xv_aload_n hX 0 dc_MD_read_65 rfl (rfl : _ = 66) ?_
  refine xv_aload_n hX 0 dc_MD_read_66 rfl (rfl : _ = 67) ?_
  refine xv_iload_n hX 3 dc_MD_read_67 rfl (rfl : _ = 68) ?_
  refine xv_calli hX (As := [.int (nI e)]) (rest := [.ref (Y.2.2.2 277)]) (ct_MD_integer _ Y M62 e i62 (by omega)) ml_MD_70 li_MD_integer rfl (by decide) rfl rfl rfl (by decide) ⟨by decide, by decide⟩ ⟨Nat.le_refl _, Nat.le_refl _⟩ (Nat.le_of_ble_eq_true rfl) dc_MD_read_68 (rfl : _ = 71) (fun r68 M68 p68 => ?_)
  obtain ⟨i68, f68, sg, z68, hsg, h68⟩ := p68
  rw [z68]
  rw [b62] at h68
  obtain ⟨iG, oG⟩ := md_put (M := M68) (k := 13) (v := sg) (by decide) (by decide) i68
  refine xv_puti hX fl_MD_171 rfl rfl (by decide) dc_MD_read_71 (rfl : _ = 74) ?_
  refine xv_aload_n hX 0 dc_MD_read_74 rfl (rfl : _ = 75) ?_
  refine xv_iload_n hX 3 dc_MD_read_75 rfl (rfl : _ = 76) ?_
  refine xv_callv hX (As := [.int (nI e)]) (rest := []) (ct_MD_leave _ Y (xm_set M68 277 13 sg) e iG (by omega)) ml_MD_77 li_MD_leave rfl (by decide) rfl rfl rfl (by decide) ⟨by decide, by decide⟩ ⟨Nat.le_refl _, Nat.le_refl _⟩ (Nat.le_of_ble_eq_true rfl) dc_MD_read_76 (rfl : _ = 79) (fun M76 p76 => ?_)
  obtain ⟨i76, f76, h76⟩ := p76
  rw [oG] at h76
  refine xv_aload_n hX 0 dc_MD_read_79 rfl (rfl : _ = 80) ?_
  refine xv_iload_n hX 1 dc_MD_read_80 rfl (rfl : _ = 81) ?_
  refine xv_iload_n hX 2 dc_MD_read_81 rfl (rfl : _ = 82) ?_
  refine xv_iadd hX dc_MD_read_82 (nI_add f n) (rfl : _ = 83) ?_
  refine xv_callv hX (As := [.int (nI (f + n))]) (rest := []) (ct_MD_leave _ Y M76 (f + n) i76 (by omega)) ml_MD_77 li_MD_leave rfl (by decide) rfl rfl rfl (by decide) ⟨by decide, by decide⟩ ⟨Nat.le_refl _, Nat.le_refl _⟩ (Nat.le_of_ble_eq_true rfl) dc_MD_read_83 (rfl : _ = 86) (fun M83 p83 => ?_)
  obtain ⟨i83, f83, h83⟩ := p83
  have k837 := i83.2.1
  have hfin := mo_cert (mo_in hen (mo_and h62 (mo_intr (lo := 0) (hi := 2147483647) h68 (if_pos ⟨Nat.zero_le _, (by omega)⟩).symm)))
  rw [← h76] at hfin
  refine xv_aload_n hX 0 dc_MD_read_86 rfl (rfl : _ = 87) ?_
  refine xv_geti hX fl_MD_34 rfl rfl (by decide) (v := M83 277 7) rfl dc_MD_read_87 (rfl : _ = 90) ?_
  refine xv_if_ne hX (nI_toInt (by omega)) (tgt := 97) (pq := 93) dc_MD_read_90 (by decide) rfl (fun c90 => ?_) (fun c90 => ?_)
  · skip
    refine xv_iconst hX (v := nI 0) dc_MD_read_97 (by decide) (rfl : _ = 98) ?_
    refine xv_reti hX hR (by decide) dc_MD_read_98 ?_
    have Y9 : md_Y md_al M M83 := (md_Y.tt (BY.up (by decide)) (md_Y.tt (f56.x.y.up (by decide)) (md_Y.tt (f62.up (by decide)) (md_Y.tt (f68.x.y.up (by decide)) (md_Y.tt ((md_X.set M68 13 sg).y.up (by decide)) (md_Y.tt (f76.x.y.up (by decide)) (f83.x.y.up (by decide))))))))
    refine ⟨i83, Y9, ?_⟩
    rcases hfin with ⟨h, hc⟩ | ⟨C, hc, ⟨⟨hH, hE2, h14, h15⟩, hsg2⟩, h⟩
    · rw [← h83] at h
      have := md_w i83 h
      exact Or.inl ⟨rfl, hc⟩
    · rw [← h83] at h
      obtain ⟨q7, q6⟩ := md_g h
      omega
  · skip
    refine xv_iconst hX (v := nI 1) dc_MD_read_93 (by decide) (rfl : _ = 94) ?_
    refine xv_goto hX (pq := 98) dc_MD_read_94 (by decide) ?_
    refine xv_reti hX hR (by decide) dc_MD_read_98 ?_
    have Y9 : md_Y md_al M M83 := (md_Y.tt (BY.up (by decide)) (md_Y.tt (f56.x.y.up (by decide)) (md_Y.tt (f62.up (by decide)) (md_Y.tt (f68.x.y.up (by decide)) (md_Y.tt ((md_X.set M68 13 sg).y.up (by decide)) (md_Y.tt (f76.x.y.up (by decide)) (f83.x.y.up (by decide))))))))
    refine ⟨i83, Y9, ?_⟩
    rcases hfin with ⟨h, hc⟩ | ⟨C, hc, ⟨⟨hH, hE2, h14, h15⟩, hsg2⟩, h⟩
    · rw [← h83] at h
      have := md_w i83 h
      omega
    · rw [← h83] at h
      obtain ⟨q7, q6⟩ := md_g h
      refine Or.inr ⟨rfl, C, hc, ?_⟩
      have q : ∀ j, j ≠ 6 → j ≠ 7 → j ≠ 13 → M83 277 j = M62 277 j := fun j a b c => by rw [f83.2 j a b, f76.2 j a b, xm_nk c, f68.2 j a b]
      refine ⟨?_, md_E_cg (by rw [f83.1 281 (by decide), f76.1 281 (by decide), xm_oth (by decide), f68.1 281 (by decide)]) (fun j hj => q j (by omega) (by omega) (by omega)) hE2, ?_, ?_, ?_⟩
      · unfold md_H at hH ⊢
        rw [q 8 (by decide) (by decide) (by decide), q 9 (by decide) (by decide) (by decide), q 10 (by decide) (by decide) (by decide), q 11 (by decide) (by decide) (by decide), q 12 (by decide) (by decide) (by decide), q 19 (by decide) (by decide) (by decide), q 20 (by decide) (by decide) (by decide), q 21 (by decide) (by decide) (by decide), q 22 (by decide) (by decide) (by decide), q 23 (by decide) (by decide) (by decide), q 24 (by decide) (by decide) (by decide)]
        exact hH
      · rw [q 14 (by decide) (by decide) (by decide)]; exact h14
      · rw [q 15 (by decide) (by decide) (by decide)]; exact h15
      · rw [f83.2 13 (by decide) (by decide), f76.2 13 (by decide) (by decide), xm_eq]; exact hsg2.symm
