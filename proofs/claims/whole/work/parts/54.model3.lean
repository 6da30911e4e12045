/-! the reference: a name -/
/-- all but the reader and what name() leaves stays -/
def md_N (M M' : xm_M) : Prop := (∀ q, q ≠ 277 → M' q = M q) ∧ ∀ j, j ≠ 6 → j ≠ 7 → j ≠ 16 → j ≠ 17 → j ≠ 18 → M' 277 j = M 277 j
theorem md_I.cg {M M' : xm_M} (h6 : M' 277 6 = M 277 6) (h7 : M' 277 7 = M 277 7) (hd : M' 278 = M 278) (hI : md_I M) : md_I M' := by
  unfold md_I at *
  rw [h6, h7, hd]
  exact hI
theorem md_s_cg {M M' : xm_M} (h6 : M' 277 6 = M 277 6) (h7 : M' 277 7 = M 277 7) : md_s M' = md_s M := by
  unfold md_s
  rw [h6, h7]

set_option maxRecDepth 100000 in
set_option maxHeartbeats 4000000 in
theorem ct_MD_name (ln : Launch) (Y : xw_Y) (M : xm_M) (l : Nat) (hI : md_I M) (hl : l ≤ 1440) : xc_v ln qm_MD_name 2 Y [.ref (Y.2.2.2 277), .int (nI l)] M (fun M1 => md_I M1 ∧ md_N M M1 ∧ M1 277 16 ≤ 1443 ∧ M1 277 17 ≤ 1440 ∧ M1 277 18 ≤ 5 ∧ mo_ok (mo_run (ps_name (M 278)) l (md_s M)) (md_s M1) (fun x => x.length = M1 277 18 ∧ mo_hd (M 278) 48 l (md_s M) = some (M1 277 16, M1 277 17))) := by
  refine xc_v.mk rfl (by decide) (Nat.le_of_ble_eq_true rfl) ?_
  intro X hXl hX hR
  subst hXl
  have hX : xv_ok X Y prog_9_method_14_code "CertificatePathModel" 5 (xc_rm 2) := hX
  show xv_V X Y 5 0 0 xw_lk xw_N M 0 [(0, .ref (Y.2.2.2 277)), (1, .int (nI l))] []
  obtain ⟨k6, k7, k8⟩ := id hI
  refine xv_aload_n hX 0 dc_MD_name_0 rfl (rfl : _ = 1) ?_
  refine xv_bipush hX (v := nI 48) dc_MD_name_1 (by decide) (rfl : _ = 3) ?_
  refine xv_iload_n hX 1 dc_MD_name_3 rfl (rfl : _ = 4) ?_
  refine xv_calli hX (As := [.int (nI 48), .int (nI l)]) (rest := []) (ct_MD_enter _ Y M 48 l hI hl (by decide)) ml_MD_45 li_MD_enter rfl (by decide) rfl rfl rfl (by decide) ⟨by decide, by decide⟩ ⟨Nat.le_refl _, Nat.le_refl _⟩ (Nat.le_of_ble_eq_true rfl) dc_MD_name_4 (rfl : _ = 7) (fun r4 M4 p4 => ?_)
  obtain ⟨i4, f4, h4⟩ := p4
  obtain ⟨e, z4, hel, hen⟩ := mo_enter h4
  rw [z4]
  have b4 : M4 278 = M 278 := f4.1 278 (by decide)
  have k46 := i4.1
  refine xv_istore_n hX [1, 2, 0] dc_MD_name_7 (by decide) (L' := [(0, .ref (Y.2.2.2 277)), (1, .int (nI l)), (2, .int (nI e))]) rfl (rfl : _ = 8) ?_
  refine xv_aload_n hX 0 dc_MD_name_8 rfl (rfl : _ = 9) ?_
  refine xv_aload_n hX 0 dc_MD_name_9 rfl (rfl : _ = 10) ?_
  refine xv_geti hX fl_MD_38 rfl rfl (by decide) (v := M4 277 6) rfl dc_MD_name_10 (rfl : _ = 13) ?_
  refine xv_puti hX fl_MD_48 rfl rfl (by decide) dc_MD_name_13 (rfl : _ = 16) ?_
  refine xv_aload_n hX 0 dc_MD_name_16 rfl (rfl : _ = 17) ?_
  refine xv_iload_n hX 2 dc_MD_name_17 rfl (rfl : _ = 18) ?_
  refine xv_puti hX fl_MD_51 rfl rfl (by decide) dc_MD_name_18 (rfl : _ = 21) ?_
  refine xv_aload_n hX 0 dc_MD_name_21 rfl (rfl : _ = 22) ?_
  refine xv_iconst hX (v := nI 0) dc_MD_name_22 (by decide) (rfl : _ = 23) ?_
  refine xv_puti hX fl_MD_54 rfl rfl (by decide) dc_MD_name_23 (rfl : _ = 26) ?_
  have lpN : ∀ (fu26 : Nat) (Mk : xm_M) (k : Nat) (hIk : md_I Mk) (h18 : Mk 277 18 = k) (hk5 : k ≤ 5) (hO : mn_O (M 278) (mo_run (ps_name (M 278)) l (md_s M)) e (md_s Mk) k) (h16 : Mk 277 16 = M4 277 6) (h17 : Mk 277 17 = e) (hF : md_N M Mk), (if Mk 277 7 = 0 then e + 1 - Mk 277 6 else 0) < fu26 → xv_V X Y 5 0 0 xw_lk xw_N Mk 26 [(0, .ref (Y.2.2.2 277)), (1, .int (nI l)), (2, .int (nI e))] [] := by
    intro n26
    induction n26 with
    | zero => intro Mk k hIk h18 hk5 hO h16 h17 hF hm26; exact absurd hm26 (Nat.not_lt_zero _)
    | succ n26 ih26 =>
      intro Mk k hIk h18 hk5 hO h16 h17 hF hm26
      refine xv_aload_n hX 0 dc_MD_name_26 rfl (rfl : _ = 27) ?_
      have hk66 := hIk.1
      have hk77 := hIk.2.1
      refine xv_geti hX fl_MD_34 rfl rfl (by decide) (v := Mk 277 7) rfl dc_MD_name_27 (rfl : _ = 30) ?_
      refine xv_if_ne hX (nI_toInt (by omega)) (tgt := 168) (pq := 33) dc_MD_name_30 (by decide) rfl (fun c30 => ?_) (fun c30 => ?_)
      · skip
        refine xv_retv hX hR dc_MD_name_168 ?_
        have hx := mn_O2 hO (by by_cases h7 : Mk 277 7 = 0; exact Or.inr (by rw [md_s0 h7]; rcases hO with ⟨h, -⟩ | ⟨i, _, h, hie, _⟩; rw [md_s0 h7] at h; cases h; rw [md_s0 h7] at h; cases h; congr 1; omega); exact Or.inl (md_s1 h7))
        refine ⟨hIk, hF, by omega, by omega, by omega, ?_⟩
        rcases hx with h | ⟨x, j, h1, h2, h3⟩
        · exact Or.inl h
        · refine Or.inr ⟨x, j, h1, h2, by omega, ?_⟩
          rcases hen with ⟨-, h⟩ | ⟨f, h, hf⟩
          · have : mo_run (ps_name (M 278)) l (md_s M) = none := by
              cases hs : md_s M with
              | none => rfl
              | some i => rw [hs] at h; simp only [mo_hd] at h; simp only [mo_run, ps_name, h]
            rw [this] at h1
            cases h1
          · rw [h16, h17, (md_g hf).2]
            exact h
      · skip
        refine xv_aload_n hX 0 dc_MD_name_33 rfl (rfl : _ = 34) ?_
        refine xv_geti hX fl_MD_38 rfl rfl (by decide) (v := Mk 277 6) rfl dc_MD_name_34 (rfl : _ = 37) ?_
        refine xv_iload_n hX 2 dc_MD_name_37 rfl (rfl : _ = 38) ?_
        refine xv_icmp_ge hX (nI_toInt (by omega)) (nI_toInt (by omega)) (tgt := 168) (pq := 41) dc_MD_name_38 (by decide) rfl (fun c38 => ?_) (fun c38 => ?_)
        · skip
          refine xv_retv hX hR dc_MD_name_168 ?_
          have hx := mn_O2 hO (by by_cases h7 : Mk 277 7 = 0; exact Or.inr (by rw [md_s0 h7]; rcases hO with ⟨h, -⟩ | ⟨i, _, h, hie, _⟩; rw [md_s0 h7] at h; cases h; rw [md_s0 h7] at h; cases h; congr 1; omega); exact Or.inl (md_s1 h7))
          refine ⟨hIk, hF, by omega, by omega, by omega, ?_⟩
          rcases hx with h | ⟨x, j, h1, h2, h3⟩
          · exact Or.inl h
          · refine Or.inr ⟨x, j, h1, h2, by omega, ?_⟩
            rcases hen with ⟨-, h⟩ | ⟨f, h, hf⟩
            · have : mo_run (ps_name (M 278)) l (md_s M) = none := by
                cases hs : md_s M with
                | none => rfl
                | some i => rw [hs] at h; simp only [mo_hd] at h; simp only [mo_run, ps_name, h]
              rw [this] at h1
              cases h1
            · rw [h16, h17, (md_g hf).2]
              exact h
        · skip
          have hsk : md_s Mk = some (Mk 277 6) := md_s0 (by omega)
          obtain ⟨i, hk6⟩ : ∃ i, Mk 277 6 = i := ⟨_, rfl⟩
          rw [hk6] at hsk
          have hie : i < e := by omega
          have c30 : Mk 277 7 = 0 := by omega
          have bk : Mk 278 = M 278 := hF.1 278 (by decide)
          have hk4 : k ≤ 4 := by rw [hsk] at hO; rcases hO with ⟨h, -⟩ | ⟨_, _, _, _, h, _⟩; cases h; exact h
          refine xv_aload_n hX 0 dc_MD_name_41 rfl (rfl : _ = 42) ?_
          refine xv_bipush hX (v := nI 19) dc_MD_name_42 (by decide) (rfl : _ = 44) ?_
          refine xv_iload_n hX 2 dc_MD_name_44 rfl (rfl : _ = 45) ?_
          refine xv_calli hX (As := [.int (nI 19), .int (nI e)]) (rest := []) (ct_MD_enter _ Y Mk 19 e hIk (by omega) (by decide)) ml_MD_45 li_MD_enter rfl (by decide) rfl rfl rfl (by decide) ⟨by decide, by decide⟩ ⟨Nat.le_refl _, Nat.le_refl _⟩ (Nat.le_of_ble_eq_true rfl) dc_MD_name_45 (rfl : _ = 48) (fun r45 M45 p45 => ?_)
          obtain ⟨i45, f45, h45⟩ := p45
          have b45 : M45 278 = Mk 278 := f45.1 278 (by decide)
          rcases h45 with ⟨w45a, w45b, w45c⟩ | ⟨f, g, g45a, g45b, g45c⟩
          · skip
            rw [w45c]
            have w457 := md_w i45 w45a
            refine xv_istore_n hX [1, 2, 3, 0] dc_MD_name_48 (by decide) (L' := [(0, .ref (Y.2.2.2 277)), (1, .int (nI l)), (2, .int (nI e)), (3, .int (nI e))]) rfl (rfl : _ = 49) ?_
            have hk45 := i45.1
            refine xv_aload_n hX 0 dc_MD_name_49 rfl (rfl : _ = 50) ?_
            refine xv_aload_n hX 0 dc_MD_name_50 rfl (rfl : _ = 51) ?_
            refine xv_geti hX fl_MD_34 rfl rfl (by decide) (v := 1) w457 dc_MD_name_51 (rfl : _ = 54) ?_
            refine xv_if_ne hX (show (nI 1).toInt = 1 by decide) (tgt := 84) (pq := 57) dc_MD_name_54 (by decide) rfl (fun c54 => ?_) (fun c54 => ?_)
            · skip
              refine xv_iconst hX (v := nI 1) dc_MD_name_84 (by decide) (rfl : _ = 85) ?_
              refine xv_goto hX (pq := 89) dc_MD_name_85 (by decide) ?_
              refine xv_putz hX fl_MD_34 rfl rfl (by decide) (by decide) dc_MD_name_89 (rfl : _ = 92) ?_
              refine xv_aload_n hX 0 dc_MD_name_92 rfl (rfl : _ = 93) ?_
              refine xv_geti hX fl_MD_38 rfl rfl (by decide) (v := M45 277 6) (xm_nk (by decide)) dc_MD_name_93 (rfl : _ = 96) ?_
              refine xv_istore hX [1, 2, 3, 4, 0] dc_MD_name_96 (by decide) (L' := [(0, .ref (Y.2.2.2 277)), (1, .int (nI l)), (2, .int (nI e)), (3, .int (nI e)), (4, .int (nI (M45 277 6)))]) rfl (rfl : _ = 98) ?_
              refine xv_iload hX 4 dc_MD_name_98 rfl (rfl : _ = 100) ?_
              refine xv_iload_n hX 3 dc_MD_name_100 rfl (rfl : _ = 101) ?_
              refine xv_icmp_ge hX (nI_toInt (by omega)) (nI_toInt (by omega)) (tgt := 150) (pq := 104) dc_MD_name_101 (by decide) rfl (fun c101 => ?_) (fun c101 => ?_)
              · skip
                refine xv_aload_n hX 0 dc_MD_name_150 rfl (rfl : _ = 151) ?_
                refine xv_iload_n hX 3 dc_MD_name_151 rfl (rfl : _ = 152) ?_
                refine xv_puti hX fl_MD_38 rfl rfl (by decide) dc_MD_name_152 (rfl : _ = 155) ?_
                refine xv_aload_n hX 0 dc_MD_name_155 rfl (rfl : _ = 156) ?_
                refine xv_aload_n hX 0 dc_MD_name_156 rfl (rfl : _ = 157) ?_
                refine xv_geti hX fl_MD_54 rfl rfl (by decide) (v := M45 277 18) ((xm_nk (by decide)).trans (xm_nk (by decide))) dc_MD_name_157 (rfl : _ = 160) ?_
                refine xv_iconst hX (v := nI 1) dc_MD_name_160 (by decide) (rfl : _ = 161) ?_
                refine xv_iadd hX dc_MD_name_161 (nI_add (M45 277 18) 1) (rfl : _ = 162) ?_
                refine xv_puti hX fl_MD_54 rfl rfl (by decide) dc_MD_name_162 (rfl : _ = 165) ?_
                have hF9 : md_N M (xm_set (xm_set (xm_set M45 277 7 1) 277 6 e) 277 18 (M45 277 18 + 1)) := ⟨fun q a => by simp only [xm_oth a]; rw [f45.1 q a]; exact hF.1 q a, fun j a1 a2 a3 a4 a5 => by simp only [xm_nk a5, xm_nk a1, xm_nk a2]; rw [f45.2 j a1 a2]; exact hF.2 j a1 a2 a3 a4 a5⟩
                have h169 : (xm_set (xm_set (xm_set M45 277 7 1) 277 6 e) 277 18 (M45 277 18 + 1)) 277 16 = M4 277 6 := by rw [xm_nk (by decide), xm_nk (by decide), xm_nk (by decide), f45.2 16 (by decide) (by decide)]; exact h16
                have h179 : (xm_set (xm_set (xm_set M45 277 7 1) 277 6 e) 277 18 (M45 277 18 + 1)) 277 17 = e := by rw [xm_nk (by decide), xm_nk (by decide), xm_nk (by decide), f45.2 17 (by decide) (by decide)]; exact h17
                have z18 : M45 277 18 = k := by rw [f45.2 18 (by decide) (by decide)]; exact h18
                have h79 : (xm_set (xm_set (xm_set M45 277 7 1) 277 6 e) 277 18 (M45 277 18 + 1)) 277 7 = 1 := by rw [xm_nk (by decide), xm_nk (by decide), xm_eq]
                have I9 : md_I (xm_set (xm_set (xm_set M45 277 7 1) 277 6 e) 277 18 (M45 277 18 + 1)) := ⟨by rw [xm_nk (by decide), xm_eq]; omega, by rw [h79]; decide, by rw [xm_oth (by decide), xm_oth (by decide), xm_oth (by decide), f45.1 278 (by decide)]; exact hIk.2.2⟩
                have hO9 : mn_O (M 278) (mo_run (ps_name (M 278)) l (md_s M)) e (md_s (xm_set (xm_set (xm_set M45 277 7 1) 277 6 e) 277 18 (M45 277 18 + 1))) (k + 1) := by
                  rw [hsk] at hO w45b
                  refine mn_O1 hO hie (Or.inl ⟨md_s1 (by omega), Or.inl ?_⟩)
                  unfold ps_label
                  rw [bk] at w45b
                  rw [show ps_hd (M 278) 19 i e = none from w45b]
                have hmu : (if (xm_set (xm_set (xm_set M45 277 7 1) 277 6 e) 277 18 (M45 277 18 + 1)) 277 7 = 0 then e + 1 - (xm_set (xm_set (xm_set M45 277 7 1) 277 6 e) 277 18 (M45 277 18 + 1)) 277 6 else 0) < (if Mk 277 7 = 0 then e + 1 - Mk 277 6 else 0) := by rw [h79, if_neg (by decide), if_pos c30, hk6]; omega
                refine xv_goto hX (pq := 26) dc_MD_name_165 (by decide) ?_
                refine xv_sub (L' := [(0, .ref (Y.2.2.2 277)), (1, .int (nI l)), (2, .int (nI e))]) [0, 1, 2] rfl ?_
                exact ih26 (xm_set (xm_set (xm_set M45 277 7 1) 277 6 e) 277 18 (M45 277 18 + 1)) (k + 1) I9 (by rw [xm_eq, z18]) (by omega) hO9 h169 h179 hF9 (by omega)
              · skip
                refine xv_aload_n hX 0 dc_MD_name_104 rfl (rfl : _ = 105) ?_
                refine xv_geti hX fl_MD_34 rfl rfl (by decide) (v := 1) xm_eq dc_MD_name_105 (rfl : _ = 108) ?_
                refine xv_if_ne hX (show (nI 1).toInt = 1 by decide) (tgt := 150) (pq := 111) dc_MD_name_108 (by decide) rfl (fun c108 => ?_) (fun c108 => ?_)
                · skip
                  refine xv_aload_n hX 0 dc_MD_name_150 rfl (rfl : _ = 151) ?_
                  refine xv_iload_n hX 3 dc_MD_name_151 rfl (rfl : _ = 152) ?_
                  refine xv_puti hX fl_MD_38 rfl rfl (by decide) dc_MD_name_152 (rfl : _ = 155) ?_
                  refine xv_aload_n hX 0 dc_MD_name_155 rfl (rfl : _ = 156) ?_
                  refine xv_aload_n hX 0 dc_MD_name_156 rfl (rfl : _ = 157) ?_
                  refine xv_geti hX fl_MD_54 rfl rfl (by decide) (v := M45 277 18) ((xm_nk (by decide)).trans (xm_nk (by decide))) dc_MD_name_157 (rfl : _ = 160) ?_
                  refine xv_iconst hX (v := nI 1) dc_MD_name_160 (by decide) (rfl : _ = 161) ?_
                  refine xv_iadd hX dc_MD_name_161 (nI_add (M45 277 18) 1) (rfl : _ = 162) ?_
                  refine xv_puti hX fl_MD_54 rfl rfl (by decide) dc_MD_name_162 (rfl : _ = 165) ?_
                  have hF9 : md_N M (xm_set (xm_set (xm_set M45 277 7 1) 277 6 e) 277 18 (M45 277 18 + 1)) := ⟨fun q a => by simp only [xm_oth a]; rw [f45.1 q a]; exact hF.1 q a, fun j a1 a2 a3 a4 a5 => by simp only [xm_nk a5, xm_nk a1, xm_nk a2]; rw [f45.2 j a1 a2]; exact hF.2 j a1 a2 a3 a4 a5⟩
                  have h169 : (xm_set (xm_set (xm_set M45 277 7 1) 277 6 e) 277 18 (M45 277 18 + 1)) 277 16 = M4 277 6 := by rw [xm_nk (by decide), xm_nk (by decide), xm_nk (by decide), f45.2 16 (by decide) (by decide)]; exact h16
                  have h179 : (xm_set (xm_set (xm_set M45 277 7 1) 277 6 e) 277 18 (M45 277 18 + 1)) 277 17 = e := by rw [xm_nk (by decide), xm_nk (by decide), xm_nk (by decide), f45.2 17 (by decide) (by decide)]; exact h17
                  have z18 : M45 277 18 = k := by rw [f45.2 18 (by decide) (by decide)]; exact h18
                  have h79 : (xm_set (xm_set (xm_set M45 277 7 1) 277 6 e) 277 18 (M45 277 18 + 1)) 277 7 = 1 := by rw [xm_nk (by decide), xm_nk (by decide), xm_eq]
                  have I9 : md_I (xm_set (xm_set (xm_set M45 277 7 1) 277 6 e) 277 18 (M45 277 18 + 1)) := ⟨by rw [xm_nk (by decide), xm_eq]; omega, by rw [h79]; decide, by rw [xm_oth (by decide), xm_oth (by decide), xm_oth (by decide), f45.1 278 (by decide)]; exact hIk.2.2⟩
                  have hO9 : mn_O (M 278) (mo_run (ps_name (M 278)) l (md_s M)) e (md_s (xm_set (xm_set (xm_set M45 277 7 1) 277 6 e) 277 18 (M45 277 18 + 1))) (k + 1) := by
                    rw [hsk] at hO w45b
                    refine mn_O1 hO hie (Or.inl ⟨md_s1 (by omega), Or.inl ?_⟩)
                    unfold ps_label
                    rw [bk] at w45b
                    rw [show ps_hd (M 278) 19 i e = none from w45b]
                  have hmu : (if (xm_set (xm_set (xm_set M45 277 7 1) 277 6 e) 277 18 (M45 277 18 + 1)) 277 7 = 0 then e + 1 - (xm_set (xm_set (xm_set M45 277 7 1) 277 6 e) 277 18 (M45 277 18 + 1)) 277 6 else 0) < (if Mk 277 7 = 0 then e + 1 - Mk 277 6 else 0) := by rw [h79, if_neg (by decide), if_pos c30, hk6]; omega
                  refine xv_goto hX (pq := 26) dc_MD_name_165 (by decide) ?_
                  refine xv_sub (L' := [(0, .ref (Y.2.2.2 277)), (1, .int (nI l)), (2, .int (nI e))]) [0, 1, 2] rfl ?_
                  exact ih26 (xm_set (xm_set (xm_set M45 277 7 1) 277 6 e) 277 18 (M45 277 18 + 1)) (k + 1) I9 (by rw [xm_eq, z18]) (by omega) hO9 h169 h179 hF9 (by omega)
                · skip
                  exact absurd c108 (by decide)
            · skip
              exact absurd c54 (by decide)
          · skip
            rw [g45c]
            obtain ⟨g457, g456⟩ := md_g g45b
            obtain ⟨g45fe, g45el, -⟩ := mo_hd_some g45a
            refine xv_istore_n hX [1, 2, 3, 0] dc_MD_name_48 (by decide) (L' := [(0, .ref (Y.2.2.2 277)), (1, .int (nI l)), (2, .int (nI e)), (3, .int (nI g))]) rfl (rfl : _ = 49) ?_
            have hk45 := i45.1
            have hhd : ps_hd (M 278) 19 i e = some (f, g) := by rw [hsk, bk] at g45a; exact g45a
            have b45k : M45 278 = M 278 := by rw [b45, bk]
            have z45 : M45 277 18 = k := by rw [f45.2 18 (by decide) (by decide)]; exact h18
            have hif := ps_hd_some hhd
            refine xv_aload_n hX 0 dc_MD_name_49 rfl (rfl : _ = 50) ?_
            refine xv_aload_n hX 0 dc_MD_name_50 rfl (rfl : _ = 51) ?_
            refine xv_geti hX fl_MD_34 rfl rfl (by decide) (v := 0) g457 dc_MD_name_51 (rfl : _ = 54) ?_
            refine xv_if_ne hX (show (nI 0).toInt = 0 by decide) (tgt := 84) (pq := 57) dc_MD_name_54 (by decide) rfl (fun c54 => ?_) (fun c54 => ?_)
            · skip
              exact absurd c54 (by decide)
            · skip
              refine xv_iload_n hX 3 dc_MD_name_57 rfl (rfl : _ = 58) ?_
              refine xv_aload_n hX 0 dc_MD_name_58 rfl (rfl : _ = 59) ?_
              refine xv_geti hX fl_MD_38 rfl rfl (by decide) (v := f) g456 dc_MD_name_59 (rfl : _ = 62) ?_
              refine xv_icmp_eq hX (nI_toInt (by omega)) (nI_toInt (by omega)) (tgt := 84) (pq := 65) dc_MD_name_62 (by decide) rfl (fun c62 => ?_) (fun c62 => ?_)
              · skip
                refine xv_iconst hX (v := nI 1) dc_MD_name_84 (by decide) (rfl : _ = 85) ?_
                refine xv_goto hX (pq := 89) dc_MD_name_85 (by decide) ?_
                refine xv_putz hX fl_MD_34 rfl rfl (by decide) (by decide) dc_MD_name_89 (rfl : _ = 92) ?_
                refine xv_aload_n hX 0 dc_MD_name_92 rfl (rfl : _ = 93) ?_
                refine xv_geti hX fl_MD_38 rfl rfl (by decide) (v := f) ((xm_nk (by decide)).trans g456) dc_MD_name_93 (rfl : _ = 96) ?_
                refine xv_istore hX [1, 2, 3, 4, 0] dc_MD_name_96 (by decide) (L' := [(0, .ref (Y.2.2.2 277)), (1, .int (nI l)), (2, .int (nI e)), (3, .int (nI g)), (4, .int (nI f))]) rfl (rfl : _ = 98) ?_
                have lpL : ∀ (fu98 : Nat) (Mt : xm_M) (t : Nat) (htg : f + t ≤ g) (ht9 : t ≤ 1440) (hJ : (Mt 277 7 = 0 ∧ (ps_abc (ps_sl (M 278) f (f + t)) = true ∧ 1 ≤ g - f ∧ g - f ≤ 8 ∧ k ≠ 4)) ∨ (Mt 277 7 = 1 ∧ (ps_label (M 278) i e = none ∨ k = 4))) (ht6 : Mt 277 6 = f) (hFt : md_F M45 Mt), g - (f + t) < fu98 → xv_V X Y 5 0 0 xw_lk xw_N Mt 98 [(0, .ref (Y.2.2.2 277)), (1, .int (nI l)), (2, .int (nI e)), (3, .int (nI g)), (4, .int (nI (f + t)))] [] := by
                  intro n98
                  induction n98 with
                  | zero => intro Mt t htg ht9 hJ ht6 hFt hm98; exact absurd hm98 (Nat.not_lt_zero _)
                  | succ n98 ih98 =>
                    intro Mt t htg ht9 hJ ht6 hFt hm98
                    refine xv_iload hX 4 dc_MD_name_98 rfl (rfl : _ = 100) ?_
                    refine xv_iload_n hX 3 dc_MD_name_100 rfl (rfl : _ = 101) ?_
                    refine xv_icmp_ge hX (nI_toInt (by omega)) (nI_toInt (by omega)) (tgt := 150) (pq := 104) dc_MD_name_101 (by decide) rfl (fun c101 => ?_) (fun c101 => ?_)
                    · skip
                      have ht18 : Mt 277 18 ≤ 5 := by rw [hFt.2 18 (by decide) (by decide), z45]; omega
                      refine xv_aload_n hX 0 dc_MD_name_150 rfl (rfl : _ = 151) ?_
                      refine xv_iload_n hX 3 dc_MD_name_151 rfl (rfl : _ = 152) ?_
                      refine xv_puti hX fl_MD_38 rfl rfl (by decide) dc_MD_name_152 (rfl : _ = 155) ?_
                      refine xv_aload_n hX 0 dc_MD_name_155 rfl (rfl : _ = 156) ?_
                      refine xv_aload_n hX 0 dc_MD_name_156 rfl (rfl : _ = 157) ?_
                      refine xv_geti hX fl_MD_54 rfl rfl (by decide) (v := Mt 277 18) (xm_nk (by decide)) dc_MD_name_157 (rfl : _ = 160) ?_
                      refine xv_iconst hX (v := nI 1) dc_MD_name_160 (by decide) (rfl : _ = 161) ?_
                      refine xv_iadd hX dc_MD_name_161 (nI_add (Mt 277 18) 1) (rfl : _ = 162) ?_
                      refine xv_puti hX fl_MD_54 rfl rfl (by decide) dc_MD_name_162 (rfl : _ = 165) ?_
                      have hF9 : md_N M (xm_set (xm_set Mt 277 6 g) 277 18 (Mt 277 18 + 1)) := ⟨fun q a => by simp only [xm_oth a]; rw [hFt.1 q a, f45.1 q a]; exact hF.1 q a, fun j a1 a2 a3 a4 a5 => by simp only [xm_nk a5, xm_nk a1]; rw [hFt.2 j a1 a2, f45.2 j a1 a2]; exact hF.2 j a1 a2 a3 a4 a5⟩
                      have h169 : (xm_set (xm_set Mt 277 6 g) 277 18 (Mt 277 18 + 1)) 277 16 = M4 277 6 := by rw [xm_nk (by decide), xm_nk (by decide), hFt.2 16 (by decide) (by decide), f45.2 16 (by decide) (by decide)]; exact h16
                      have h179 : (xm_set (xm_set Mt 277 6 g) 277 18 (Mt 277 18 + 1)) 277 17 = e := by rw [xm_nk (by decide), xm_nk (by decide), hFt.2 17 (by decide) (by decide), f45.2 17 (by decide) (by decide)]; exact h17
                      have z18 : Mt 277 18 = k := by rw [hFt.2 18 (by decide) (by decide), f45.2 18 (by decide) (by decide)]; exact h18
                      have I9 : md_I (xm_set (xm_set Mt 277 6 g) 277 18 (Mt 277 18 + 1)) := ⟨by rw [xm_nk (by decide), xm_eq]; omega, by rw [xm_nk (by decide), xm_nk (by decide)]; omega, by rw [xm_oth (by decide), xm_oth (by decide), hFt.1 278 (by decide), f45.1 278 (by decide)]; exact hIk.2.2⟩
                      have h79 : (xm_set (xm_set Mt 277 6 g) 277 18 (Mt 277 18 + 1)) 277 7 = Mt 277 7 := by rw [xm_nk (by decide), xm_nk (by decide)]
                      have h69 : (xm_set (xm_set Mt 277 6 g) 277 18 (Mt 277 18 + 1)) 277 6 = g := by rw [xm_nk (by decide), xm_eq]
                      have hO9 : mn_O (M 278) (mo_run (ps_name (M 278)) l (md_s M)) e (md_s (xm_set (xm_set Mt 277 6 g) 277 18 (Mt 277 18 + 1))) (k + 1) := by
                        rw [hsk] at hO
                        refine mn_O1 hO hie ?_
                        rcases hJ with ⟨j7, hJ⟩ | ⟨j7, hJ⟩
                        · refine Or.inr ⟨ps_sl (M 278) f g, g, ?_, by omega, by omega, ?_⟩
                          · rw [mn_lab hhd, if_pos ⟨by omega, by omega, by rw [show g = f + t by omega]; exact hJ.1⟩]
                          · rw [md_s0 (by omega), h69]
                        · exact Or.inl ⟨md_s1 (by omega), hJ⟩
                      have hmu : (if (xm_set (xm_set Mt 277 6 g) 277 18 (Mt 277 18 + 1)) 277 7 = 0 then e + 1 - (xm_set (xm_set Mt 277 6 g) 277 18 (Mt 277 18 + 1)) 277 6 else 0) < (if Mk 277 7 = 0 then e + 1 - Mk 277 6 else 0) := by rw [h79, h69, if_pos c30, hk6]; split <;> omega
                      refine xv_goto hX (pq := 26) dc_MD_name_165 (by decide) ?_
                      refine xv_sub (L' := [(0, .ref (Y.2.2.2 277)), (1, .int (nI l)), (2, .int (nI e))]) [0, 1, 2] rfl ?_
                      exact ih26 (xm_set (xm_set Mt 277 6 g) 277 18 (Mt 277 18 + 1)) (k + 1) I9 (by rw [xm_eq, z18]) (by omega) hO9 h169 h179 hF9 (by omega)
                    · skip
                      refine xv_aload_n hX 0 dc_MD_name_104 rfl (rfl : _ = 105) ?_
                      refine xv_geti hX fl_MD_34 rfl rfl (by decide) (v := Mt 277 7) rfl dc_MD_name_105 (rfl : _ = 108) ?_
                      refine xv_if_ne hX (nI_toInt (by omega)) (tgt := 150) (pq := 111) dc_MD_name_108 (by decide) rfl (fun c108 => ?_) (fun c108 => ?_)
                      · skip
                        have ht18 : Mt 277 18 ≤ 5 := by rw [hFt.2 18 (by decide) (by decide), z45]; omega
                        refine xv_aload_n hX 0 dc_MD_name_150 rfl (rfl : _ = 151) ?_
                        refine xv_iload_n hX 3 dc_MD_name_151 rfl (rfl : _ = 152) ?_
                        refine xv_puti hX fl_MD_38 rfl rfl (by decide) dc_MD_name_152 (rfl : _ = 155) ?_
                        refine xv_aload_n hX 0 dc_MD_name_155 rfl (rfl : _ = 156) ?_
                        refine xv_aload_n hX 0 dc_MD_name_156 rfl (rfl : _ = 157) ?_
                        refine xv_geti hX fl_MD_54 rfl rfl (by decide) (v := Mt 277 18) (xm_nk (by decide)) dc_MD_name_157 (rfl : _ = 160) ?_
                        refine xv_iconst hX (v := nI 1) dc_MD_name_160 (by decide) (rfl : _ = 161) ?_
                        refine xv_iadd hX dc_MD_name_161 (nI_add (Mt 277 18) 1) (rfl : _ = 162) ?_
                        refine xv_puti hX fl_MD_54 rfl rfl (by decide) dc_MD_name_162 (rfl : _ = 165) ?_
                        have hF9 : md_N M (xm_set (xm_set Mt 277 6 g) 277 18 (Mt 277 18 + 1)) := ⟨fun q a => by simp only [xm_oth a]; rw [hFt.1 q a, f45.1 q a]; exact hF.1 q a, fun j a1 a2 a3 a4 a5 => by simp only [xm_nk a5, xm_nk a1]; rw [hFt.2 j a1 a2, f45.2 j a1 a2]; exact hF.2 j a1 a2 a3 a4 a5⟩
                        have h169 : (xm_set (xm_set Mt 277 6 g) 277 18 (Mt 277 18 + 1)) 277 16 = M4 277 6 := by rw [xm_nk (by decide), xm_nk (by decide), hFt.2 16 (by decide) (by decide), f45.2 16 (by decide) (by decide)]; exact h16
                        have h179 : (xm_set (xm_set Mt 277 6 g) 277 18 (Mt 277 18 + 1)) 277 17 = e := by rw [xm_nk (by decide), xm_nk (by decide), hFt.2 17 (by decide) (by decide), f45.2 17 (by decide) (by decide)]; exact h17
                        have z18 : Mt 277 18 = k := by rw [hFt.2 18 (by decide) (by decide), f45.2 18 (by decide) (by decide)]; exact h18
                        have I9 : md_I (xm_set (xm_set Mt 277 6 g) 277 18 (Mt 277 18 + 1)) := ⟨by rw [xm_nk (by decide), xm_eq]; omega, by rw [xm_nk (by decide), xm_nk (by decide)]; omega, by rw [xm_oth (by decide), xm_oth (by decide), hFt.1 278 (by decide), f45.1 278 (by decide)]; exact hIk.2.2⟩
                        have h79 : (xm_set (xm_set Mt 277 6 g) 277 18 (Mt 277 18 + 1)) 277 7 = Mt 277 7 := by rw [xm_nk (by decide), xm_nk (by decide)]
                        have h69 : (xm_set (xm_set Mt 277 6 g) 277 18 (Mt 277 18 + 1)) 277 6 = g := by rw [xm_nk (by decide), xm_eq]
                        have hO9 : mn_O (M 278) (mo_run (ps_name (M 278)) l (md_s M)) e (md_s (xm_set (xm_set Mt 277 6 g) 277 18 (Mt 277 18 + 1))) (k + 1) := by
                          rw [hsk] at hO
                          refine mn_O1 hO hie ?_
                          rcases hJ with ⟨j7, hJ⟩ | ⟨j7, hJ⟩
                          · refine Or.inr ⟨ps_sl (M 278) f g, g, ?_, by omega, by omega, ?_⟩
                            · rw [mn_lab hhd, if_pos ⟨by omega, by omega, by rw [show g = f + t by omega]; exact hJ.1⟩]
                            · rw [md_s0 (by omega), h69]
                          · exact Or.inl ⟨md_s1 (by omega), hJ⟩
                        have hmu : (if (xm_set (xm_set Mt 277 6 g) 277 18 (Mt 277 18 + 1)) 277 7 = 0 then e + 1 - (xm_set (xm_set Mt 277 6 g) 277 18 (Mt 277 18 + 1)) 277 6 else 0) < (if Mk 277 7 = 0 then e + 1 - Mk 277 6 else 0) := by rw [h79, h69, if_pos c30, hk6]; split <;> omega
                        refine xv_goto hX (pq := 26) dc_MD_name_165 (by decide) ?_
                        refine xv_sub (L' := [(0, .ref (Y.2.2.2 277)), (1, .int (nI l)), (2, .int (nI e))]) [0, 1, 2] rfl ?_
                        exact ih26 (xm_set (xm_set Mt 277 6 g) 277 18 (Mt 277 18 + 1)) (k + 1) I9 (by rw [xm_eq, z18]) (by omega) hO9 h169 h179 hF9 (by omega)
                      · skip
                        have hJok : ps_abc (ps_sl (M 278) f (f + t)) = true ∧ 1 ≤ g - f ∧ g - f ≤ 8 ∧ k ≠ 4 := by rcases hJ with h | h; exact h.2; omega
                        have bt : Mt 278 (f + t) = M 278 (f + t) := by rw [hFt.1 278 (by decide), b45k]
                        have hbt := k8 (f + t) (by omega)
                        refine xv_aload_n hX 0 dc_MD_name_111 rfl (rfl : _ = 112) ?_
                        refine xv_aload_n hX 0 dc_MD_name_112 rfl (rfl : _ = 113) ?_
                        refine xv_getr hX fl_MD_7 rfl rfl (by decide) rfl dc_MD_name_113 (rfl : _ = 116) ?_
                        refine xv_iload hX 4 dc_MD_name_116 rfl (rfl : _ = 118) ?_
                        refine xv_iald hX rfl (by decide) (by omega) (by decide) (v := M 278 (f + t)) bt dc_MD_name_118 (rfl : _ = 119) ?_
                        refine xv_bipush hX (v := nI 97) dc_MD_name_119 (by decide) (rfl : _ = 121) ?_
                        refine xv_icmp_lt hX (nI_toInt (by omega)) (show (nI 97).toInt = 97 by decide) (tgt := 136) (pq := 124) dc_MD_name_121 (by decide) rfl (fun c121 => ?_) (fun c121 => ?_)
                        · skip
                          refine xv_iconst hX (v := nI 1) dc_MD_name_136 (by decide) (rfl : _ = 137) ?_
                          refine xv_goto hX (pq := 141) dc_MD_name_137 (by decide) ?_
                          refine xv_putz hX fl_MD_34 rfl rfl (by decide) (by decide) dc_MD_name_141 (rfl : _ = 144) ?_
                          refine xv_iinc hX 4 [1, 2, 3, 4, 0] dc_MD_name_144 rfl (xi_inc (f + t) 1) (by decide) (L' := [(0, .ref (Y.2.2.2 277)), (1, .int (nI l)), (2, .int (nI e)), (3, .int (nI g)), (4, .int (nI (f + t + 1)))]) rfl (rfl : _ = 147) ?_
                          refine xv_goto hX (pq := 98) dc_MD_name_147 (by decide) ?_
                          refine xv_sub (L' := [(0, .ref (Y.2.2.2 277)), (1, .int (nI l)), (2, .int (nI e)), (3, .int (nI g)), (4, .int (nI (f + t + 1)))]) [0, 1, 2, 3, 4] rfl ?_
                          exact ih98 (xm_set Mt 277 7 1) (t + 1) (by omega) (by omega) (Or.inr ⟨xm_eq, Or.inl (by rw [mn_lab hhd, if_neg (fun z => mn_abc0 (f := f) (g := g) (t := f + t) (by omega) (by omega) (by omega) z.2.2)])⟩) (by rw [xm_nk (by decide)]; exact ht6) ⟨fun q a => by rw [xm_oth a]; exact hFt.1 q a, fun j a b => by rw [xm_nk b]; exact hFt.2 j a b⟩ (by omega)
                        · skip
                          refine xv_aload_n hX 0 dc_MD_name_124 rfl (rfl : _ = 125) ?_
                          refine xv_getr hX fl_MD_7 rfl rfl (by decide) rfl dc_MD_name_125 (rfl : _ = 128) ?_
                          refine xv_iload hX 4 dc_MD_name_128 rfl (rfl : _ = 130) ?_
                          refine xv_iald hX rfl (by decide) (by omega) (by decide) (v := M 278 (f + t)) bt dc_MD_name_130 (rfl : _ = 131) ?_
                          refine xv_bipush hX (v := nI 122) dc_MD_name_131 (by decide) (rfl : _ = 133) ?_
                          refine xv_icmp_le hX (nI_toInt (by omega)) (show (nI 122).toInt = 122 by decide) (tgt := 140) (pq := 136) dc_MD_name_133 (by decide) rfl (fun c133 => ?_) (fun c133 => ?_)
                          · skip
                            refine xv_iconst hX (v := nI 0) dc_MD_name_140 (by decide) (rfl : _ = 141) ?_
                            refine xv_putz hX fl_MD_34 rfl rfl (by decide) (by decide) dc_MD_name_141 (rfl : _ = 144) ?_
                            refine xv_iinc hX 4 [1, 2, 3, 4, 0] dc_MD_name_144 rfl (xi_inc (f + t) 1) (by decide) (L' := [(0, .ref (Y.2.2.2 277)), (1, .int (nI l)), (2, .int (nI e)), (3, .int (nI g)), (4, .int (nI (f + t + 1)))]) rfl (rfl : _ = 147) ?_
                            refine xv_goto hX (pq := 98) dc_MD_name_147 (by decide) ?_
                            refine xv_sub (L' := [(0, .ref (Y.2.2.2 277)), (1, .int (nI l)), (2, .int (nI e)), (3, .int (nI g)), (4, .int (nI (f + t + 1)))]) [0, 1, 2, 3, 4] rfl ?_
                            exact ih98 (xm_set Mt 277 7 0) (t + 1) (by omega) (by omega) (Or.inl ⟨xm_eq, by rw [ps_sl_succ, ps_abc_app, hJok.1, bt] at *; simp; omega, hJok.2⟩) (by rw [xm_nk (by decide)]; exact ht6) ⟨fun q a => by rw [xm_oth a]; exact hFt.1 q a, fun j a b => by rw [xm_nk b]; exact hFt.2 j a b⟩ (by omega)
                          · skip
                            refine xv_iconst hX (v := nI 1) dc_MD_name_136 (by decide) (rfl : _ = 137) ?_
                            refine xv_goto hX (pq := 141) dc_MD_name_137 (by decide) ?_
                            refine xv_putz hX fl_MD_34 rfl rfl (by decide) (by decide) dc_MD_name_141 (rfl : _ = 144) ?_
                            refine xv_iinc hX 4 [1, 2, 3, 4, 0] dc_MD_name_144 rfl (xi_inc (f + t) 1) (by decide) (L' := [(0, .ref (Y.2.2.2 277)), (1, .int (nI l)), (2, .int (nI e)), (3, .int (nI g)), (4, .int (nI (f + t + 1)))]) rfl (rfl : _ = 147) ?_
                            refine xv_goto hX (pq := 98) dc_MD_name_147 (by decide) ?_
                            refine xv_sub (L' := [(0, .ref (Y.2.2.2 277)), (1, .int (nI l)), (2, .int (nI e)), (3, .int (nI g)), (4, .int (nI (f + t + 1)))]) [0, 1, 2, 3, 4] rfl ?_
                            exact ih98 (xm_set Mt 277 7 1) (t + 1) (by omega) (by omega) (Or.inr ⟨xm_eq, Or.inl (by rw [mn_lab hhd, if_neg (fun z => mn_abc0 (f := f) (g := g) (t := f + t) (by omega) (by omega) (by omega) z.2.2)])⟩) (by rw [xm_nk (by decide)]; exact ht6) ⟨fun q a => by rw [xm_oth a]; exact hFt.1 q a, fun j a b => by rw [xm_nk b]; exact hFt.2 j a b⟩ (by omega)
                refine xv_sub (L' := [(0, .ref (Y.2.2.2 277)), (1, .int (nI l)), (2, .int (nI e)), (3, .int (nI g)), (4, .int (nI f))]) [0, 1, 2, 3, 4] rfl ?_
                exact lpL _ (xm_set M45 277 7 1) 0 (by omega) (by decide) (Or.inr ⟨xm_eq, by first | exact Or.inr (by omega) | exact Or.inl (by rw [mn_lab hhd, if_neg (by omega)])⟩) (by rw [xm_nk (by decide)]; exact g456) ⟨fun q a => by rw [xm_oth a], fun j a b => by rw [xm_nk b]⟩ (Nat.lt_succ_self _)
              · skip
                refine xv_iload_n hX 3 dc_MD_name_65 rfl (rfl : _ = 66) ?_
                refine xv_aload_n hX 0 dc_MD_name_66 rfl (rfl : _ = 67) ?_
                refine xv_geti hX fl_MD_38 rfl rfl (by decide) (v := f) g456 dc_MD_name_67 (rfl : _ = 70) ?_
                refine xv_isub hX dc_MD_name_70 (pk_sub (by omega)) (rfl : _ = 71) ?_
                refine xv_bipush hX (v := nI 8) dc_MD_name_71 (by decide) (rfl : _ = 73) ?_
                refine xv_icmp_gt hX (nI_toInt (by omega)) (show (nI 8).toInt = 8 by decide) (tgt := 84) (pq := 76) dc_MD_name_73 (by decide) rfl (fun c73 => ?_) (fun c73 => ?_)
                · skip
                  refine xv_iconst hX (v := nI 1) dc_MD_name_84 (by decide) (rfl : _ = 85) ?_
                  refine xv_goto hX (pq := 89) dc_MD_name_85 (by decide) ?_
                  refine xv_putz hX fl_MD_34 rfl rfl (by decide) (by decide) dc_MD_name_89 (rfl : _ = 92) ?_
                  refine xv_aload_n hX 0 dc_MD_name_92 rfl (rfl : _ = 93) ?_
                  refine xv_geti hX fl_MD_38 rfl rfl (by decide) (v := f) ((xm_nk (by decide)).trans g456) dc_MD_name_93 (rfl : _ = 96) ?_
                  refine xv_istore hX [1, 2, 3, 4, 0] dc_MD_name_96 (by decide) (L' := [(0, .ref (Y.2.2.2 277)), (1, .int (nI l)), (2, .int (nI e)), (3, .int (nI g)), (4, .int (nI f))]) rfl (rfl : _ = 98) ?_
                  have lpL : ∀ (fu98 : Nat) (Mt : xm_M) (t : Nat) (htg : f + t ≤ g) (ht9 : t ≤ 1440) (hJ : (Mt 277 7 = 0 ∧ (ps_abc (ps_sl (M 278) f (f + t)) = true ∧ 1 ≤ g - f ∧ g - f ≤ 8 ∧ k ≠ 4)) ∨ (Mt 277 7 = 1 ∧ (ps_label (M 278) i e = none ∨ k = 4))) (ht6 : Mt 277 6 = f) (hFt : md_F M45 Mt), g - (f + t) < fu98 → xv_V X Y 5 0 0 xw_lk xw_N Mt 98 [(0, .ref (Y.2.2.2 277)), (1, .int (nI l)), (2, .int (nI e)), (3, .int (nI g)), (4, .int (nI (f + t)))] [] := by
                    intro n98
                    induction n98 with
                    | zero => intro Mt t htg ht9 hJ ht6 hFt hm98; exact absurd hm98 (Nat.not_lt_zero _)
                    | succ n98 ih98 =>
                      intro Mt t htg ht9 hJ ht6 hFt hm98
                      refine xv_iload hX 4 dc_MD_name_98 rfl (rfl : _ = 100) ?_
                      refine xv_iload_n hX 3 dc_MD_name_100 rfl (rfl : _ = 101) ?_
                      refine xv_icmp_ge hX (nI_toInt (by omega)) (nI_toInt (by omega)) (tgt := 150) (pq := 104) dc_MD_name_101 (by decide) rfl (fun c101 => ?_) (fun c101 => ?_)
                      · skip
                        have ht18 : Mt 277 18 ≤ 5 := by rw [hFt.2 18 (by decide) (by decide), z45]; omega
                        refine xv_aload_n hX 0 dc_MD_name_150 rfl (rfl : _ = 151) ?_
                        refine xv_iload_n hX 3 dc_MD_name_151 rfl (rfl : _ = 152) ?_
                        refine xv_puti hX fl_MD_38 rfl rfl (by decide) dc_MD_name_152 (rfl : _ = 155) ?_
                        refine xv_aload_n hX 0 dc_MD_name_155 rfl (rfl : _ = 156) ?_
                        refine xv_aload_n hX 0 dc_MD_name_156 rfl (rfl : _ = 157) ?_
                        refine xv_geti hX fl_MD_54 rfl rfl (by decide) (v := Mt 277 18) (xm_nk (by decide)) dc_MD_name_157 (rfl : _ = 160) ?_
                        refine xv_iconst hX (v := nI 1) dc_MD_name_160 (by decide) (rfl : _ = 161) ?_
                        refine xv_iadd hX dc_MD_name_161 (nI_add (Mt 277 18) 1) (rfl : _ = 162) ?_
                        refine xv_puti hX fl_MD_54 rfl rfl (by decide) dc_MD_name_162 (rfl : _ = 165) ?_
                        have hF9 : md_N M (xm_set (xm_set Mt 277 6 g) 277 18 (Mt 277 18 + 1)) := ⟨fun q a => by simp only [xm_oth a]; rw [hFt.1 q a, f45.1 q a]; exact hF.1 q a, fun j a1 a2 a3 a4 a5 => by simp only [xm_nk a5, xm_nk a1]; rw [hFt.2 j a1 a2, f45.2 j a1 a2]; exact hF.2 j a1 a2 a3 a4 a5⟩
                        have h169 : (xm_set (xm_set Mt 277 6 g) 277 18 (Mt 277 18 + 1)) 277 16 = M4 277 6 := by rw [xm_nk (by decide), xm_nk (by decide), hFt.2 16 (by decide) (by decide), f45.2 16 (by decide) (by decide)]; exact h16
                        have h179 : (xm_set (xm_set Mt 277 6 g) 277 18 (Mt 277 18 + 1)) 277 17 = e := by rw [xm_nk (by decide), xm_nk (by decide), hFt.2 17 (by decide) (by decide), f45.2 17 (by decide) (by decide)]; exact h17
                        have z18 : Mt 277 18 = k := by rw [hFt.2 18 (by decide) (by decide), f45.2 18 (by decide) (by decide)]; exact h18
                        have I9 : md_I (xm_set (xm_set Mt 277 6 g) 277 18 (Mt 277 18 + 1)) := ⟨by rw [xm_nk (by decide), xm_eq]; omega, by rw [xm_nk (by decide), xm_nk (by decide)]; omega, by rw [xm_oth (by decide), xm_oth (by decide), hFt.1 278 (by decide), f45.1 278 (by decide)]; exact hIk.2.2⟩
                        have h79 : (xm_set (xm_set Mt 277 6 g) 277 18 (Mt 277 18 + 1)) 277 7 = Mt 277 7 := by rw [xm_nk (by decide), xm_nk (by decide)]
                        have h69 : (xm_set (xm_set Mt 277 6 g) 277 18 (Mt 277 18 + 1)) 277 6 = g := by rw [xm_nk (by decide), xm_eq]
                        have hO9 : mn_O (M 278) (mo_run (ps_name (M 278)) l (md_s M)) e (md_s (xm_set (xm_set Mt 277 6 g) 277 18 (Mt 277 18 + 1))) (k + 1) := by
                          rw [hsk] at hO
                          refine mn_O1 hO hie ?_
                          rcases hJ with ⟨j7, hJ⟩ | ⟨j7, hJ⟩
                          · refine Or.inr ⟨ps_sl (M 278) f g, g, ?_, by omega, by omega, ?_⟩
                            · rw [mn_lab hhd, if_pos ⟨by omega, by omega, by rw [show g = f + t by omega]; exact hJ.1⟩]
                            · rw [md_s0 (by omega), h69]
                          · exact Or.inl ⟨md_s1 (by omega), hJ⟩
                        have hmu : (if (xm_set (xm_set Mt 277 6 g) 277 18 (Mt 277 18 + 1)) 277 7 = 0 then e + 1 - (xm_set (xm_set Mt 277 6 g) 277 18 (Mt 277 18 + 1)) 277 6 else 0) < (if Mk 277 7 = 0 then e + 1 - Mk 277 6 else 0) := by rw [h79, h69, if_pos c30, hk6]; split <;> omega
                        refine xv_goto hX (pq := 26) dc_MD_name_165 (by decide) ?_
                        refine xv_sub (L' := [(0, .ref (Y.2.2.2 277)), (1, .int (nI l)), (2, .int (nI e))]) [0, 1, 2] rfl ?_
                        exact ih26 (xm_set (xm_set Mt 277 6 g) 277 18 (Mt 277 18 + 1)) (k + 1) I9 (by rw [xm_eq, z18]) (by omega) hO9 h169 h179 hF9 (by omega)
                      · skip
                        refine xv_aload_n hX 0 dc_MD_name_104 rfl (rfl : _ = 105) ?_
                        refine xv_geti hX fl_MD_34 rfl rfl (by decide) (v := Mt 277 7) rfl dc_MD_name_105 (rfl : _ = 108) ?_
                        refine xv_if_ne hX (nI_toInt (by omega)) (tgt := 150) (pq := 111) dc_MD_name_108 (by decide) rfl (fun c108 => ?_) (fun c108 => ?_)
                        · skip
                          have ht18 : Mt 277 18 ≤ 5 := by rw [hFt.2 18 (by decide) (by decide), z45]; omega
                          refine xv_aload_n hX 0 dc_MD_name_150 rfl (rfl : _ = 151) ?_
                          refine xv_iload_n hX 3 dc_MD_name_151 rfl (rfl : _ = 152) ?_
                          refine xv_puti hX fl_MD_38 rfl rfl (by decide) dc_MD_name_152 (rfl : _ = 155) ?_
                          refine xv_aload_n hX 0 dc_MD_name_155 rfl (rfl : _ = 156) ?_
                          refine xv_aload_n hX 0 dc_MD_name_156 rfl (rfl : _ = 157) ?_
                          refine xv_geti hX fl_MD_54 rfl rfl (by decide) (v := Mt 277 18) (xm_nk (by decide)) dc_MD_name_157 (rfl : _ = 160) ?_
                          refine xv_iconst hX (v := nI 1) dc_MD_name_160 (by decide) (rfl : _ = 161) ?_
                          refine xv_iadd hX dc_MD_name_161 (nI_add (Mt 277 18) 1) (rfl : _ = 162) ?_
                          refine xv_puti hX fl_MD_54 rfl rfl (by decide) dc_MD_name_162 (rfl : _ = 165) ?_
                          have hF9 : md_N M (xm_set (xm_set Mt 277 6 g) 277 18 (Mt 277 18 + 1)) := ⟨fun q a => by simp only [xm_oth a]; rw [hFt.1 q a, f45.1 q a]; exact hF.1 q a, fun j a1 a2 a3 a4 a5 => by simp only [xm_nk a5, xm_nk a1]; rw [hFt.2 j a1 a2, f45.2 j a1 a2]; exact hF.2 j a1 a2 a3 a4 a5⟩
                          have h169 : (xm_set (xm_set Mt 277 6 g) 277 18 (Mt 277 18 + 1)) 277 16 = M4 277 6 := by rw [xm_nk (by decide), xm_nk (by decide), hFt.2 16 (by decide) (by decide), f45.2 16 (by decide) (by decide)]; exact h16
                          have h179 : (xm_set (xm_set Mt 277 6 g) 277 18 (Mt 277 18 + 1)) 277 17 = e := by rw [xm_nk (by decide), xm_nk (by decide), hFt.2 17 (by decide) (by decide), f45.2 17 (by decide) (by decide)]; exact h17
                          have z18 : Mt 277 18 = k := by rw [hFt.2 18 (by decide) (by decide), f45.2 18 (by decide) (by decide)]; exact h18
                          have I9 : md_I (xm_set (xm_set Mt 277 6 g) 277 18 (Mt 277 18 + 1)) := ⟨by rw [xm_nk (by decide), xm_eq]; omega, by rw [xm_nk (by decide), xm_nk (by decide)]; omega, by rw [xm_oth (by decide), xm_oth (by decide), hFt.1 278 (by decide), f45.1 278 (by decide)]; exact hIk.2.2⟩
                          have h79 : (xm_set (xm_set Mt 277 6 g) 277 18 (Mt 277 18 + 1)) 277 7 = Mt 277 7 := by rw [xm_nk (by decide), xm_nk (by decide)]
                          have h69 : (xm_set (xm_set Mt 277 6 g) 277 18 (Mt 277 18 + 1)) 277 6 = g := by rw [xm_nk (by decide), xm_eq]
                          have hO9 : mn_O (M 278) (mo_run (ps_name (M 278)) l (md_s M)) e (md_s (xm_set (xm_set Mt 277 6 g) 277 18 (Mt 277 18 + 1))) (k + 1) := by
                            rw [hsk] at hO
                            refine mn_O1 hO hie ?_
                            rcases hJ with ⟨j7, hJ⟩ | ⟨j7, hJ⟩
                            · refine Or.inr ⟨ps_sl (M 278) f g, g, ?_, by omega, by omega, ?_⟩
                              · rw [mn_lab hhd, if_pos ⟨by omega, by omega, by rw [show g = f + t by omega]; exact hJ.1⟩]
                              · rw [md_s0 (by omega), h69]
                            · exact Or.inl ⟨md_s1 (by omega), hJ⟩
                          have hmu : (if (xm_set (xm_set Mt 277 6 g) 277 18 (Mt 277 18 + 1)) 277 7 = 0 then e + 1 - (xm_set (xm_set Mt 277 6 g) 277 18 (Mt 277 18 + 1)) 277 6 else 0) < (if Mk 277 7 = 0 then e + 1 - Mk 277 6 else 0) := by rw [h79, h69, if_pos c30, hk6]; split <;> omega
                          refine xv_goto hX (pq := 26) dc_MD_name_165 (by decide) ?_
                          refine xv_sub (L' := [(0, .ref (Y.2.2.2 277)), (1, .int (nI l)), (2, .int (nI e))]) [0, 1, 2] rfl ?_
                          exact ih26 (xm_set (xm_set Mt 277 6 g) 277 18 (Mt 277 18 + 1)) (k + 1) I9 (by rw [xm_eq, z18]) (by omega) hO9 h169 h179 hF9 (by omega)
                        · skip
                          have hJok : ps_abc (ps_sl (M 278) f (f + t)) = true ∧ 1 ≤ g - f ∧ g - f ≤ 8 ∧ k ≠ 4 := by rcases hJ with h | h; exact h.2; omega
                          have bt : Mt 278 (f + t) = M 278 (f + t) := by rw [hFt.1 278 (by decide), b45k]
                          have hbt := k8 (f + t) (by omega)
                          refine xv_aload_n hX 0 dc_MD_name_111 rfl (rfl : _ = 112) ?_
                          refine xv_aload_n hX 0 dc_MD_name_112 rfl (rfl : _ = 113) ?_
                          refine xv_getr hX fl_MD_7 rfl rfl (by decide) rfl dc_MD_name_113 (rfl : _ = 116) ?_
                          refine xv_iload hX 4 dc_MD_name_116 rfl (rfl : _ = 118) ?_
                          refine xv_iald hX rfl (by decide) (by omega) (by decide) (v := M 278 (f + t)) bt dc_MD_name_118 (rfl : _ = 119) ?_
                          refine xv_bipush hX (v := nI 97) dc_MD_name_119 (by decide) (rfl : _ = 121) ?_
                          refine xv_icmp_lt hX (nI_toInt (by omega)) (show (nI 97).toInt = 97 by decide) (tgt := 136) (pq := 124) dc_MD_name_121 (by decide) rfl (fun c121 => ?_) (fun c121 => ?_)
                          · skip
                            refine xv_iconst hX (v := nI 1) dc_MD_name_136 (by decide) (rfl : _ = 137) ?_
                            refine xv_goto hX (pq := 141) dc_MD_name_137 (by decide) ?_
                            refine xv_putz hX fl_MD_34 rfl rfl (by decide) (by decide) dc_MD_name_141 (rfl : _ = 144) ?_
                            refine xv_iinc hX 4 [1, 2, 3, 4, 0] dc_MD_name_144 rfl (xi_inc (f + t) 1) (by decide) (L' := [(0, .ref (Y.2.2.2 277)), (1, .int (nI l)), (2, .int (nI e)), (3, .int (nI g)), (4, .int (nI (f + t + 1)))]) rfl (rfl : _ = 147) ?_
                            refine xv_goto hX (pq := 98) dc_MD_name_147 (by decide) ?_
                            refine xv_sub (L' := [(0, .ref (Y.2.2.2 277)), (1, .int (nI l)), (2, .int (nI e)), (3, .int (nI g)), (4, .int (nI (f + t + 1)))]) [0, 1, 2, 3, 4] rfl ?_
                            exact ih98 (xm_set Mt 277 7 1) (t + 1) (by omega) (by omega) (Or.inr ⟨xm_eq, Or.inl (by rw [mn_lab hhd, if_neg (fun z => mn_abc0 (f := f) (g := g) (t := f + t) (by omega) (by omega) (by omega) z.2.2)])⟩) (by rw [xm_nk (by decide)]; exact ht6) ⟨fun q a => by rw [xm_oth a]; exact hFt.1 q a, fun j a b => by rw [xm_nk b]; exact hFt.2 j a b⟩ (by omega)
                          · skip
                            refine xv_aload_n hX 0 dc_MD_name_124 rfl (rfl : _ = 125) ?_
                            refine xv_getr hX fl_MD_7 rfl rfl (by decide) rfl dc_MD_name_125 (rfl : _ = 128) ?_
                            refine xv_iload hX 4 dc_MD_name_128 rfl (rfl : _ = 130) ?_
                            refine xv_iald hX rfl (by decide) (by omega) (by decide) (v := M 278 (f + t)) bt dc_MD_name_130 (rfl : _ = 131) ?_
                            refine xv_bipush hX (v := nI 122) dc_MD_name_131 (by decide) (rfl : _ = 133) ?_
                            refine xv_icmp_le hX (nI_toInt (by omega)) (show (nI 122).toInt = 122 by decide) (tgt := 140) (pq := 136) dc_MD_name_133 (by decide) rfl (fun c133 => ?_) (fun c133 => ?_)
                            · skip
                              refine xv_iconst hX (v := nI 0) dc_MD_name_140 (by decide) (rfl : _ = 141) ?_
                              refine xv_putz hX fl_MD_34 rfl rfl (by decide) (by decide) dc_MD_name_141 (rfl : _ = 144) ?_
                              refine xv_iinc hX 4 [1, 2, 3, 4, 0] dc_MD_name_144 rfl (xi_inc (f + t) 1) (by decide) (L' := [(0, .ref (Y.2.2.2 277)), (1, .int (nI l)), (2, .int (nI e)), (3, .int (nI g)), (4, .int (nI (f + t + 1)))]) rfl (rfl : _ = 147) ?_
                              refine xv_goto hX (pq := 98) dc_MD_name_147 (by decide) ?_
                              refine xv_sub (L' := [(0, .ref (Y.2.2.2 277)), (1, .int (nI l)), (2, .int (nI e)), (3, .int (nI g)), (4, .int (nI (f + t + 1)))]) [0, 1, 2, 3, 4] rfl ?_
                              exact ih98 (xm_set Mt 277 7 0) (t + 1) (by omega) (by omega) (Or.inl ⟨xm_eq, by rw [ps_sl_succ, ps_abc_app, hJok.1, bt] at *; simp; omega, hJok.2⟩) (by rw [xm_nk (by decide)]; exact ht6) ⟨fun q a => by rw [xm_oth a]; exact hFt.1 q a, fun j a b => by rw [xm_nk b]; exact hFt.2 j a b⟩ (by omega)
                            · skip
                              refine xv_iconst hX (v := nI 1) dc_MD_name_136 (by decide) (rfl : _ = 137) ?_
                              refine xv_goto hX (pq := 141) dc_MD_name_137 (by decide) ?_
                              refine xv_putz hX fl_MD_34 rfl rfl (by decide) (by decide) dc_MD_name_141 (rfl : _ = 144) ?_
                              refine xv_iinc hX 4 [1, 2, 3, 4, 0] dc_MD_name_144 rfl (xi_inc (f + t) 1) (by decide) (L' := [(0, .ref (Y.2.2.2 277)), (1, .int (nI l)), (2, .int (nI e)), (3, .int (nI g)), (4, .int (nI (f + t + 1)))]) rfl (rfl : _ = 147) ?_
                              refine xv_goto hX (pq := 98) dc_MD_name_147 (by decide) ?_
                              refine xv_sub (L' := [(0, .ref (Y.2.2.2 277)), (1, .int (nI l)), (2, .int (nI e)), (3, .int (nI g)), (4, .int (nI (f + t + 1)))]) [0, 1, 2, 3, 4] rfl ?_
                              exact ih98 (xm_set Mt 277 7 1) (t + 1) (by omega) (by omega) (Or.inr ⟨xm_eq, Or.inl (by rw [mn_lab hhd, if_neg (fun z => mn_abc0 (f := f) (g := g) (t := f + t) (by omega) (by omega) (by omega) z.2.2)])⟩) (by rw [xm_nk (by decide)]; exact ht6) ⟨fun q a => by rw [xm_oth a]; exact hFt.1 q a, fun j a b => by rw [xm_nk b]; exact hFt.2 j a b⟩ (by omega)
                  refine xv_sub (L' := [(0, .ref (Y.2.2.2 277)), (1, .int (nI l)), (2, .int (nI e)), (3, .int (nI g)), (4, .int (nI f))]) [0, 1, 2, 3, 4] rfl ?_
                  exact lpL _ (xm_set M45 277 7 1) 0 (by omega) (by decide) (Or.inr ⟨xm_eq, by first | exact Or.inr (by omega) | exact Or.inl (by rw [mn_lab hhd, if_neg (by omega)])⟩) (by rw [xm_nk (by decide)]; exact g456) ⟨fun q a => by rw [xm_oth a], fun j a b => by rw [xm_nk b]⟩ (Nat.lt_succ_self _)
                · skip
                  refine xv_aload_n hX 0 dc_MD_name_76 rfl (rfl : _ = 77) ?_
                  refine xv_geti hX fl_MD_54 rfl rfl (by decide) (v := k) z45 dc_MD_name_77 (rfl : _ = 80) ?_
                  refine xv_iconst hX (v := nI 4) dc_MD_name_80 (by decide) (rfl : _ = 81) ?_
                  refine xv_icmp_ne hX (nI_toInt (by omega)) (show (nI 4).toInt = 4 by decide) (tgt := 88) (pq := 84) dc_MD_name_81 (by decide) rfl (fun c81 => ?_) (fun c81 => ?_)
                  · skip
                    refine xv_iconst hX (v := nI 0) dc_MD_name_88 (by decide) (rfl : _ = 89) ?_
                    refine xv_putz hX fl_MD_34 rfl rfl (by decide) (by decide) dc_MD_name_89 (rfl : _ = 92) ?_
                    refine xv_aload_n hX 0 dc_MD_name_92 rfl (rfl : _ = 93) ?_
                    refine xv_geti hX fl_MD_38 rfl rfl (by decide) (v := f) ((xm_nk (by decide)).trans g456) dc_MD_name_93 (rfl : _ = 96) ?_
                    refine xv_istore hX [1, 2, 3, 4, 0] dc_MD_name_96 (by decide) (L' := [(0, .ref (Y.2.2.2 277)), (1, .int (nI l)), (2, .int (nI e)), (3, .int (nI g)), (4, .int (nI f))]) rfl (rfl : _ = 98) ?_
                    have lpL : ∀ (fu98 : Nat) (Mt : xm_M) (t : Nat) (htg : f + t ≤ g) (ht9 : t ≤ 1440) (hJ : (Mt 277 7 = 0 ∧ (ps_abc (ps_sl (M 278) f (f + t)) = true ∧ 1 ≤ g - f ∧ g - f ≤ 8 ∧ k ≠ 4)) ∨ (Mt 277 7 = 1 ∧ (ps_label (M 278) i e = none ∨ k = 4))) (ht6 : Mt 277 6 = f) (hFt : md_F M45 Mt), g - (f + t) < fu98 → xv_V X Y 5 0 0 xw_lk xw_N Mt 98 [(0, .ref (Y.2.2.2 277)), (1, .int (nI l)), (2, .int (nI e)), (3, .int (nI g)), (4, .int (nI (f + t)))] [] := by
                      intro n98
                      induction n98 with
                      | zero => intro Mt t htg ht9 hJ ht6 hFt hm98; exact absurd hm98 (Nat.not_lt_zero _)
                      | succ n98 ih98 =>
                        intro Mt t htg ht9 hJ ht6 hFt hm98
                        refine xv_iload hX 4 dc_MD_name_98 rfl (rfl : _ = 100) ?_
                        refine xv_iload_n hX 3 dc_MD_name_100 rfl (rfl : _ = 101) ?_
                        refine xv_icmp_ge hX (nI_toInt (by omega)) (nI_toInt (by omega)) (tgt := 150) (pq := 104) dc_MD_name_101 (by decide) rfl (fun c101 => ?_) (fun c101 => ?_)
                        · skip
                          have ht18 : Mt 277 18 ≤ 5 := by rw [hFt.2 18 (by decide) (by decide), z45]; omega
                          refine xv_aload_n hX 0 dc_MD_name_150 rfl (rfl : _ = 151) ?_
                          refine xv_iload_n hX 3 dc_MD_name_151 rfl (rfl : _ = 152) ?_
                          refine xv_puti hX fl_MD_38 rfl rfl (by decide) dc_MD_name_152 (rfl : _ = 155) ?_
                          refine xv_aload_n hX 0 dc_MD_name_155 rfl (rfl : _ = 156) ?_
                          refine xv_aload_n hX 0 dc_MD_name_156 rfl (rfl : _ = 157) ?_
                          refine xv_geti hX fl_MD_54 rfl rfl (by decide) (v := Mt 277 18) (xm_nk (by decide)) dc_MD_name_157 (rfl : _ = 160) ?_
                          refine xv_iconst hX (v := nI 1) dc_MD_name_160 (by decide) (rfl : _ = 161) ?_
                          refine xv_iadd hX dc_MD_name_161 (nI_add (Mt 277 18) 1) (rfl : _ = 162) ?_
                          refine xv_puti hX fl_MD_54 rfl rfl (by decide) dc_MD_name_162 (rfl : _ = 165) ?_
                          have hF9 : md_N M (xm_set (xm_set Mt 277 6 g) 277 18 (Mt 277 18 + 1)) := ⟨fun q a => by simp only [xm_oth a]; rw [hFt.1 q a, f45.1 q a]; exact hF.1 q a, fun j a1 a2 a3 a4 a5 => by simp only [xm_nk a5, xm_nk a1]; rw [hFt.2 j a1 a2, f45.2 j a1 a2]; exact hF.2 j a1 a2 a3 a4 a5⟩
                          have h169 : (xm_set (xm_set Mt 277 6 g) 277 18 (Mt 277 18 + 1)) 277 16 = M4 277 6 := by rw [xm_nk (by decide), xm_nk (by decide), hFt.2 16 (by decide) (by decide), f45.2 16 (by decide) (by decide)]; exact h16
                          have h179 : (xm_set (xm_set Mt 277 6 g) 277 18 (Mt 277 18 + 1)) 277 17 = e := by rw [xm_nk (by decide), xm_nk (by decide), hFt.2 17 (by decide) (by decide), f45.2 17 (by decide) (by decide)]; exact h17
                          have z18 : Mt 277 18 = k := by rw [hFt.2 18 (by decide) (by decide), f45.2 18 (by decide) (by decide)]; exact h18
                          have I9 : md_I (xm_set (xm_set Mt 277 6 g) 277 18 (Mt 277 18 + 1)) := ⟨by rw [xm_nk (by decide), xm_eq]; omega, by rw [xm_nk (by decide), xm_nk (by decide)]; omega, by rw [xm_oth (by decide), xm_oth (by decide), hFt.1 278 (by decide), f45.1 278 (by decide)]; exact hIk.2.2⟩
                          have h79 : (xm_set (xm_set Mt 277 6 g) 277 18 (Mt 277 18 + 1)) 277 7 = Mt 277 7 := by rw [xm_nk (by decide), xm_nk (by decide)]
                          have h69 : (xm_set (xm_set Mt 277 6 g) 277 18 (Mt 277 18 + 1)) 277 6 = g := by rw [xm_nk (by decide), xm_eq]
                          have hO9 : mn_O (M 278) (mo_run (ps_name (M 278)) l (md_s M)) e (md_s (xm_set (xm_set Mt 277 6 g) 277 18 (Mt 277 18 + 1))) (k + 1) := by
                            rw [hsk] at hO
                            refine mn_O1 hO hie ?_
                            rcases hJ with ⟨j7, hJ⟩ | ⟨j7, hJ⟩
                            · refine Or.inr ⟨ps_sl (M 278) f g, g, ?_, by omega, by omega, ?_⟩
                              · rw [mn_lab hhd, if_pos ⟨by omega, by omega, by rw [show g = f + t by omega]; exact hJ.1⟩]
                              · rw [md_s0 (by omega), h69]
                            · exact Or.inl ⟨md_s1 (by omega), hJ⟩
                          have hmu : (if (xm_set (xm_set Mt 277 6 g) 277 18 (Mt 277 18 + 1)) 277 7 = 0 then e + 1 - (xm_set (xm_set Mt 277 6 g) 277 18 (Mt 277 18 + 1)) 277 6 else 0) < (if Mk 277 7 = 0 then e + 1 - Mk 277 6 else 0) := by rw [h79, h69, if_pos c30, hk6]; split <;> omega
                          refine xv_goto hX (pq := 26) dc_MD_name_165 (by decide) ?_
                          refine xv_sub (L' := [(0, .ref (Y.2.2.2 277)), (1, .int (nI l)), (2, .int (nI e))]) [0, 1, 2] rfl ?_
                          exact ih26 (xm_set (xm_set Mt 277 6 g) 277 18 (Mt 277 18 + 1)) (k + 1) I9 (by rw [xm_eq, z18]) (by omega) hO9 h169 h179 hF9 (by omega)
                        · skip
                          refine xv_aload_n hX 0 dc_MD_name_104 rfl (rfl : _ = 105) ?_
                          refine xv_geti hX fl_MD_34 rfl rfl (by decide) (v := Mt 277 7) rfl dc_MD_name_105 (rfl : _ = 108) ?_
                          refine xv_if_ne hX (nI_toInt (by omega)) (tgt := 150) (pq := 111) dc_MD_name_108 (by decide) rfl (fun c108 => ?_) (fun c108 => ?_)
                          · skip
                            have ht18 : Mt 277 18 ≤ 5 := by rw [hFt.2 18 (by decide) (by decide), z45]; omega
                            refine xv_aload_n hX 0 dc_MD_name_150 rfl (rfl : _ = 151) ?_
                            refine xv_iload_n hX 3 dc_MD_name_151 rfl (rfl : _ = 152) ?_
                            refine xv_puti hX fl_MD_38 rfl rfl (by decide) dc_MD_name_152 (rfl : _ = 155) ?_
                            refine xv_aload_n hX 0 dc_MD_name_155 rfl (rfl : _ = 156) ?_
                            refine xv_aload_n hX 0 dc_MD_name_156 rfl (rfl : _ = 157) ?_
                            refine xv_geti hX fl_MD_54 rfl rfl (by decide) (v := Mt 277 18) (xm_nk (by decide)) dc_MD_name_157 (rfl : _ = 160) ?_
                            refine xv_iconst hX (v := nI 1) dc_MD_name_160 (by decide) (rfl : _ = 161) ?_
                            refine xv_iadd hX dc_MD_name_161 (nI_add (Mt 277 18) 1) (rfl : _ = 162) ?_
                            refine xv_puti hX fl_MD_54 rfl rfl (by decide) dc_MD_name_162 (rfl : _ = 165) ?_
                            have hF9 : md_N M (xm_set (xm_set Mt 277 6 g) 277 18 (Mt 277 18 + 1)) := ⟨fun q a => by simp only [xm_oth a]; rw [hFt.1 q a, f45.1 q a]; exact hF.1 q a, fun j a1 a2 a3 a4 a5 => by simp only [xm_nk a5, xm_nk a1]; rw [hFt.2 j a1 a2, f45.2 j a1 a2]; exact hF.2 j a1 a2 a3 a4 a5⟩
                            have h169 : (xm_set (xm_set Mt 277 6 g) 277 18 (Mt 277 18 + 1)) 277 16 = M4 277 6 := by rw [xm_nk (by decide), xm_nk (by decide), hFt.2 16 (by decide) (by decide), f45.2 16 (by decide) (by decide)]; exact h16
                            have h179 : (xm_set (xm_set Mt 277 6 g) 277 18 (Mt 277 18 + 1)) 277 17 = e := by rw [xm_nk (by decide), xm_nk (by decide), hFt.2 17 (by decide) (by decide), f45.2 17 (by decide) (by decide)]; exact h17
                            have z18 : Mt 277 18 = k := by rw [hFt.2 18 (by decide) (by decide), f45.2 18 (by decide) (by decide)]; exact h18
                            have I9 : md_I (xm_set (xm_set Mt 277 6 g) 277 18 (Mt 277 18 + 1)) := ⟨by rw [xm_nk (by decide), xm_eq]; omega, by rw [xm_nk (by decide), xm_nk (by decide)]; omega, by rw [xm_oth (by decide), xm_oth (by decide), hFt.1 278 (by decide), f45.1 278 (by decide)]; exact hIk.2.2⟩
                            have h79 : (xm_set (xm_set Mt 277 6 g) 277 18 (Mt 277 18 + 1)) 277 7 = Mt 277 7 := by rw [xm_nk (by decide), xm_nk (by decide)]
                            have h69 : (xm_set (xm_set Mt 277 6 g) 277 18 (Mt 277 18 + 1)) 277 6 = g := by rw [xm_nk (by decide), xm_eq]
                            have hO9 : mn_O (M 278) (mo_run (ps_name (M 278)) l (md_s M)) e (md_s (xm_set (xm_set Mt 277 6 g) 277 18 (Mt 277 18 + 1))) (k + 1) := by
                              rw [hsk] at hO
                              refine mn_O1 hO hie ?_
                              rcases hJ with ⟨j7, hJ⟩ | ⟨j7, hJ⟩
                              · refine Or.inr ⟨ps_sl (M 278) f g, g, ?_, by omega, by omega, ?_⟩
                                · rw [mn_lab hhd, if_pos ⟨by omega, by omega, by rw [show g = f + t by omega]; exact hJ.1⟩]
                                · rw [md_s0 (by omega), h69]
                              · exact Or.inl ⟨md_s1 (by omega), hJ⟩
                            have hmu : (if (xm_set (xm_set Mt 277 6 g) 277 18 (Mt 277 18 + 1)) 277 7 = 0 then e + 1 - (xm_set (xm_set Mt 277 6 g) 277 18 (Mt 277 18 + 1)) 277 6 else 0) < (if Mk 277 7 = 0 then e + 1 - Mk 277 6 else 0) := by rw [h79, h69, if_pos c30, hk6]; split <;> omega
                            refine xv_goto hX (pq := 26) dc_MD_name_165 (by decide) ?_
                            refine xv_sub (L' := [(0, .ref (Y.2.2.2 277)), (1, .int (nI l)), (2, .int (nI e))]) [0, 1, 2] rfl ?_
                            exact ih26 (xm_set (xm_set Mt 277 6 g) 277 18 (Mt 277 18 + 1)) (k + 1) I9 (by rw [xm_eq, z18]) (by omega) hO9 h169 h179 hF9 (by omega)
                          · skip
                            have hJok : ps_abc (ps_sl (M 278) f (f + t)) = true ∧ 1 ≤ g - f ∧ g - f ≤ 8 ∧ k ≠ 4 := by rcases hJ with h | h; exact h.2; omega
                            have bt : Mt 278 (f + t) = M 278 (f + t) := by rw [hFt.1 278 (by decide), b45k]
                            have hbt := k8 (f + t) (by omega)
                            refine xv_aload_n hX 0 dc_MD_name_111 rfl (rfl : _ = 112) ?_
                            refine xv_aload_n hX 0 dc_MD_name_112 rfl (rfl : _ = 113) ?_
                            refine xv_getr hX fl_MD_7 rfl rfl (by decide) rfl dc_MD_name_113 (rfl : _ = 116) ?_
                            refine xv_iload hX 4 dc_MD_name_116 rfl (rfl : _ = 118) ?_
                            refine xv_iald hX rfl (by decide) (by omega) (by decide) (v := M 278 (f + t)) bt dc_MD_name_118 (rfl : _ = 119) ?_
                            refine xv_bipush hX (v := nI 97) dc_MD_name_119 (by decide) (rfl : _ = 121) ?_
                            refine xv_icmp_lt hX (nI_toInt (by omega)) (show (nI 97).toInt = 97 by decide) (tgt := 136) (pq := 124) dc_MD_name_121 (by decide) rfl (fun c121 => ?_) (fun c121 => ?_)
                            · skip
                              refine xv_iconst hX (v := nI 1) dc_MD_name_136 (by decide) (rfl : _ = 137) ?_
                              refine xv_goto hX (pq := 141) dc_MD_name_137 (by decide) ?_
                              refine xv_putz hX fl_MD_34 rfl rfl (by decide) (by decide) dc_MD_name_141 (rfl : _ = 144) ?_
                              refine xv_iinc hX 4 [1, 2, 3, 4, 0] dc_MD_name_144 rfl (xi_inc (f + t) 1) (by decide) (L' := [(0, .ref (Y.2.2.2 277)), (1, .int (nI l)), (2, .int (nI e)), (3, .int (nI g)), (4, .int (nI (f + t + 1)))]) rfl (rfl : _ = 147) ?_
                              refine xv_goto hX (pq := 98) dc_MD_name_147 (by decide) ?_
                              refine xv_sub (L' := [(0, .ref (Y.2.2.2 277)), (1, .int (nI l)), (2, .int (nI e)), (3, .int (nI g)), (4, .int (nI (f + t + 1)))]) [0, 1, 2, 3, 4] rfl ?_
                              exact ih98 (xm_set Mt 277 7 1) (t + 1) (by omega) (by omega) (Or.inr ⟨xm_eq, Or.inl (by rw [mn_lab hhd, if_neg (fun z => mn_abc0 (f := f) (g := g) (t := f + t) (by omega) (by omega) (by omega) z.2.2)])⟩) (by rw [xm_nk (by decide)]; exact ht6) ⟨fun q a => by rw [xm_oth a]; exact hFt.1 q a, fun j a b => by rw [xm_nk b]; exact hFt.2 j a b⟩ (by omega)
                            · skip
                              refine xv_aload_n hX 0 dc_MD_name_124 rfl (rfl : _ = 125) ?_
                              refine xv_getr hX fl_MD_7 rfl rfl (by decide) rfl dc_MD_name_125 (rfl : _ = 128) ?_
                              refine xv_iload hX 4 dc_MD_name_128 rfl (rfl : _ = 130) ?_
                              refine xv_iald hX rfl (by decide) (by omega) (by decide) (v := M 278 (f + t)) bt dc_MD_name_130 (rfl : _ = 131) ?_
                              refine xv_bipush hX (v := nI 122) dc_MD_name_131 (by decide) (rfl : _ = 133) ?_
                              refine xv_icmp_le hX (nI_toInt (by omega)) (show (nI 122).toInt = 122 by decide) (tgt := 140) (pq := 136) dc_MD_name_133 (by decide) rfl (fun c133 => ?_) (fun c133 => ?_)
                              · skip
                                refine xv_iconst hX (v := nI 0) dc_MD_name_140 (by decide) (rfl : _ = 141) ?_
                                refine xv_putz hX fl_MD_34 rfl rfl (by decide) (by decide) dc_MD_name_141 (rfl : _ = 144) ?_
                                refine xv_iinc hX 4 [1, 2, 3, 4, 0] dc_MD_name_144 rfl (xi_inc (f + t) 1) (by decide) (L' := [(0, .ref (Y.2.2.2 277)), (1, .int (nI l)), (2, .int (nI e)), (3, .int (nI g)), (4, .int (nI (f + t + 1)))]) rfl (rfl : _ = 147) ?_
                                refine xv_goto hX (pq := 98) dc_MD_name_147 (by decide) ?_
                                refine xv_sub (L' := [(0, .ref (Y.2.2.2 277)), (1, .int (nI l)), (2, .int (nI e)), (3, .int (nI g)), (4, .int (nI (f + t + 1)))]) [0, 1, 2, 3, 4] rfl ?_
                                exact ih98 (xm_set Mt 277 7 0) (t + 1) (by omega) (by omega) (Or.inl ⟨xm_eq, by rw [ps_sl_succ, ps_abc_app, hJok.1, bt] at *; simp; omega, hJok.2⟩) (by rw [xm_nk (by decide)]; exact ht6) ⟨fun q a => by rw [xm_oth a]; exact hFt.1 q a, fun j a b => by rw [xm_nk b]; exact hFt.2 j a b⟩ (by omega)
                              · skip
                                refine xv_iconst hX (v := nI 1) dc_MD_name_136 (by decide) (rfl : _ = 137) ?_
                                refine xv_goto hX (pq := 141) dc_MD_name_137 (by decide) ?_
                                refine xv_putz hX fl_MD_34 rfl rfl (by decide) (by decide) dc_MD_name_141 (rfl : _ = 144) ?_
                                refine xv_iinc hX 4 [1, 2, 3, 4, 0] dc_MD_name_144 rfl (xi_inc (f + t) 1) (by decide) (L' := [(0, .ref (Y.2.2.2 277)), (1, .int (nI l)), (2, .int (nI e)), (3, .int (nI g)), (4, .int (nI (f + t + 1)))]) rfl (rfl : _ = 147) ?_
                                refine xv_goto hX (pq := 98) dc_MD_name_147 (by decide) ?_
                                refine xv_sub (L' := [(0, .ref (Y.2.2.2 277)), (1, .int (nI l)), (2, .int (nI e)), (3, .int (nI g)), (4, .int (nI (f + t + 1)))]) [0, 1, 2, 3, 4] rfl ?_
                                exact ih98 (xm_set Mt 277 7 1) (t + 1) (by omega) (by omega) (Or.inr ⟨xm_eq, Or.inl (by rw [mn_lab hhd, if_neg (fun z => mn_abc0 (f := f) (g := g) (t := f + t) (by omega) (by omega) (by omega) z.2.2)])⟩) (by rw [xm_nk (by decide)]; exact ht6) ⟨fun q a => by rw [xm_oth a]; exact hFt.1 q a, fun j a b => by rw [xm_nk b]; exact hFt.2 j a b⟩ (by omega)
                    refine xv_sub (L' := [(0, .ref (Y.2.2.2 277)), (1, .int (nI l)), (2, .int (nI e)), (3, .int (nI g)), (4, .int (nI f))]) [0, 1, 2, 3, 4] rfl ?_
                    exact lpL _ (xm_set M45 277 7 0) 0 (by omega) (by decide) (Or.inl ⟨xm_eq, by rw [ps_sl_0]; rfl, by omega, by omega, by omega⟩) (by rw [xm_nk (by decide)]; exact g456) ⟨fun q a => by rw [xm_oth a], fun j a b => by rw [xm_nk b]⟩ (Nat.lt_succ_self _)
                  · skip
                    refine xv_iconst hX (v := nI 1) dc_MD_name_84 (by decide) (rfl : _ = 85) ?_
                    refine xv_goto hX (pq := 89) dc_MD_name_85 (by decide) ?_
                    refine xv_putz hX fl_MD_34 rfl rfl (by decide) (by decide) dc_MD_name_89 (rfl : _ = 92) ?_
                    refine xv_aload_n hX 0 dc_MD_name_92 rfl (rfl : _ = 93) ?_
                    refine xv_geti hX fl_MD_38 rfl rfl (by decide) (v := f) ((xm_nk (by decide)).trans g456) dc_MD_name_93 (rfl : _ = 96) ?_
                    refine xv_istore hX [1, 2, 3, 4, 0] dc_MD_name_96 (by decide) (L' := [(0, .ref (Y.2.2.2 277)), (1, .int (nI l)), (2, .int (nI e)), (3, .int (nI g)), (4, .int (nI f))]) rfl (rfl : _ = 98) ?_
                    have lpL : ∀ (fu98 : Nat) (Mt : xm_M) (t : Nat) (htg : f + t ≤ g) (ht9 : t ≤ 1440) (hJ : (Mt 277 7 = 0 ∧ (ps_abc (ps_sl (M 278) f (f + t)) = true ∧ 1 ≤ g - f ∧ g - f ≤ 8 ∧ k ≠ 4)) ∨ (Mt 277 7 = 1 ∧ (ps_label (M 278) i e = none ∨ k = 4))) (ht6 : Mt 277 6 = f) (hFt : md_F M45 Mt), g - (f + t) < fu98 → xv_V X Y 5 0 0 xw_lk xw_N Mt 98 [(0, .ref (Y.2.2.2 277)), (1, .int (nI l)), (2, .int (nI e)), (3, .int (nI g)), (4, .int (nI (f + t)))] [] := by
                      intro n98
                      induction n98 with
                      | zero => intro Mt t htg ht9 hJ ht6 hFt hm98; exact absurd hm98 (Nat.not_lt_zero _)
                      | succ n98 ih98 =>
                        intro Mt t htg ht9 hJ ht6 hFt hm98
                        refine xv_iload hX 4 dc_MD_name_98 rfl (rfl : _ = 100) ?_
                        refine xv_iload_n hX 3 dc_MD_name_100 rfl (rfl : _ = 101) ?_
                        refine xv_icmp_ge hX (nI_toInt (by omega)) (nI_toInt (by omega)) (tgt := 150) (pq := 104) dc_MD_name_101 (by decide) rfl (fun c101 => ?_) (fun c101 => ?_)
                        · skip
                          have ht18 : Mt 277 18 ≤ 5 := by rw [hFt.2 18 (by decide) (by decide), z45]; omega
                          refine xv_aload_n hX 0 dc_MD_name_150 rfl (rfl : _ = 151) ?_
                          refine xv_iload_n hX 3 dc_MD_name_151 rfl (rfl : _ = 152) ?_
                          refine xv_puti hX fl_MD_38 rfl rfl (by decide) dc_MD_name_152 (rfl : _ = 155) ?_
                          refine xv_aload_n hX 0 dc_MD_name_155 rfl (rfl : _ = 156) ?_
                          refine xv_aload_n hX 0 dc_MD_name_156 rfl (rfl : _ = 157) ?_
                          refine xv_geti hX fl_MD_54 rfl rfl (by decide) (v := Mt 277 18) (xm_nk (by decide)) dc_MD_name_157 (rfl : _ = 160) ?_
                          refine xv_iconst hX (v := nI 1) dc_MD_name_160 (by decide) (rfl : _ = 161) ?_
                          refine xv_iadd hX dc_MD_name_161 (nI_add (Mt 277 18) 1) (rfl : _ = 162) ?_
                          refine xv_puti hX fl_MD_54 rfl rfl (by decide) dc_MD_name_162 (rfl : _ = 165) ?_
                          have hF9 : md_N M (xm_set (xm_set Mt 277 6 g) 277 18 (Mt 277 18 + 1)) := ⟨fun q a => by simp only [xm_oth a]; rw [hFt.1 q a, f45.1 q a]; exact hF.1 q a, fun j a1 a2 a3 a4 a5 => by simp only [xm_nk a5, xm_nk a1]; rw [hFt.2 j a1 a2, f45.2 j a1 a2]; exact hF.2 j a1 a2 a3 a4 a5⟩
                          have h169 : (xm_set (xm_set Mt 277 6 g) 277 18 (Mt 277 18 + 1)) 277 16 = M4 277 6 := by rw [xm_nk (by decide), xm_nk (by decide), hFt.2 16 (by decide) (by decide), f45.2 16 (by decide) (by decide)]; exact h16
                          have h179 : (xm_set (xm_set Mt 277 6 g) 277 18 (Mt 277 18 + 1)) 277 17 = e := by rw [xm_nk (by decide), xm_nk (by decide), hFt.2 17 (by decide) (by decide), f45.2 17 (by decide) (by decide)]; exact h17
                          have z18 : Mt 277 18 = k := by rw [hFt.2 18 (by decide) (by decide), f45.2 18 (by decide) (by decide)]; exact h18
                          have I9 : md_I (xm_set (xm_set Mt 277 6 g) 277 18 (Mt 277 18 + 1)) := ⟨by rw [xm_nk (by decide), xm_eq]; omega, by rw [xm_nk (by decide), xm_nk (by decide)]; omega, by rw [xm_oth (by decide), xm_oth (by decide), hFt.1 278 (by decide), f45.1 278 (by decide)]; exact hIk.2.2⟩
                          have h79 : (xm_set (xm_set Mt 277 6 g) 277 18 (Mt 277 18 + 1)) 277 7 = Mt 277 7 := by rw [xm_nk (by decide), xm_nk (by decide)]
                          have h69 : (xm_set (xm_set Mt 277 6 g) 277 18 (Mt 277 18 + 1)) 277 6 = g := by rw [xm_nk (by decide), xm_eq]
                          have hO9 : mn_O (M 278) (mo_run (ps_name (M 278)) l (md_s M)) e (md_s (xm_set (xm_set Mt 277 6 g) 277 18 (Mt 277 18 + 1))) (k + 1) := by
                            rw [hsk] at hO
                            refine mn_O1 hO hie ?_
                            rcases hJ with ⟨j7, hJ⟩ | ⟨j7, hJ⟩
                            · refine Or.inr ⟨ps_sl (M 278) f g, g, ?_, by omega, by omega, ?_⟩
                              · rw [mn_lab hhd, if_pos ⟨by omega, by omega, by rw [show g = f + t by omega]; exact hJ.1⟩]
                              · rw [md_s0 (by omega), h69]
                            · exact Or.inl ⟨md_s1 (by omega), hJ⟩
                          have hmu : (if (xm_set (xm_set Mt 277 6 g) 277 18 (Mt 277 18 + 1)) 277 7 = 0 then e + 1 - (xm_set (xm_set Mt 277 6 g) 277 18 (Mt 277 18 + 1)) 277 6 else 0) < (if Mk 277 7 = 0 then e + 1 - Mk 277 6 else 0) := by rw [h79, h69, if_pos c30, hk6]; split <;> omega
                          refine xv_goto hX (pq := 26) dc_MD_name_165 (by decide) ?_
                          refine xv_sub (L' := [(0, .ref (Y.2.2.2 277)), (1, .int (nI l)), (2, .int (nI e))]) [0, 1, 2] rfl ?_
                          exact ih26 (xm_set (xm_set Mt 277 6 g) 277 18 (Mt 277 18 + 1)) (k + 1) I9 (by rw [xm_eq, z18]) (by omega) hO9 h169 h179 hF9 (by omega)
                        · skip
                          refine xv_aload_n hX 0 dc_MD_name_104 rfl (rfl : _ = 105) ?_
                          refine xv_geti hX fl_MD_34 rfl rfl (by decide) (v := Mt 277 7) rfl dc_MD_name_105 (rfl : _ = 108) ?_
                          refine xv_if_ne hX (nI_toInt (by omega)) (tgt := 150) (pq := 111) dc_MD_name_108 (by decide) rfl (fun c108 => ?_) (fun c108 => ?_)
                          · skip
                            have ht18 : Mt 277 18 ≤ 5 := by rw [hFt.2 18 (by decide) (by decide), z45]; omega
                            refine xv_aload_n hX 0 dc_MD_name_150 rfl (rfl : _ = 151) ?_
                            refine xv_iload_n hX 3 dc_MD_name_151 rfl (rfl : _ = 152) ?_
                            refine xv_puti hX fl_MD_38 rfl rfl (by decide) dc_MD_name_152 (rfl : _ = 155) ?_
                            refine xv_aload_n hX 0 dc_MD_name_155 rfl (rfl : _ = 156) ?_
                            refine xv_aload_n hX 0 dc_MD_name_156 rfl (rfl : _ = 157) ?_
                            refine xv_geti hX fl_MD_54 rfl rfl (by decide) (v := Mt 277 18) (xm_nk (by decide)) dc_MD_name_157 (rfl : _ = 160) ?_
                            refine xv_iconst hX (v := nI 1) dc_MD_name_160 (by decide) (rfl : _ = 161) ?_
                            refine xv_iadd hX dc_MD_name_161 (nI_add (Mt 277 18) 1) (rfl : _ = 162) ?_
                            refine xv_puti hX fl_MD_54 rfl rfl (by decide) dc_MD_name_162 (rfl : _ = 165) ?_
                            have hF9 : md_N M (xm_set (xm_set Mt 277 6 g) 277 18 (Mt 277 18 + 1)) := ⟨fun q a => by simp only [xm_oth a]; rw [hFt.1 q a, f45.1 q a]; exact hF.1 q a, fun j a1 a2 a3 a4 a5 => by simp only [xm_nk a5, xm_nk a1]; rw [hFt.2 j a1 a2, f45.2 j a1 a2]; exact hF.2 j a1 a2 a3 a4 a5⟩
                            have h169 : (xm_set (xm_set Mt 277 6 g) 277 18 (Mt 277 18 + 1)) 277 16 = M4 277 6 := by rw [xm_nk (by decide), xm_nk (by decide), hFt.2 16 (by decide) (by decide), f45.2 16 (by decide) (by decide)]; exact h16
                            have h179 : (xm_set (xm_set Mt 277 6 g) 277 18 (Mt 277 18 + 1)) 277 17 = e := by rw [xm_nk (by decide), xm_nk (by decide), hFt.2 17 (by decide) (by decide), f45.2 17 (by decide) (by decide)]; exact h17
                            have z18 : Mt 277 18 = k := by rw [hFt.2 18 (by decide) (by decide), f45.2 18 (by decide) (by decide)]; exact h18
                            have I9 : md_I (xm_set (xm_set Mt 277 6 g) 277 18 (Mt 277 18 + 1)) := ⟨by rw [xm_nk (by decide), xm_eq]; omega, by rw [xm_nk (by decide), xm_nk (by decide)]; omega, by rw [xm_oth (by decide), xm_oth (by decide), hFt.1 278 (by decide), f45.1 278 (by decide)]; exact hIk.2.2⟩
                            have h79 : (xm_set (xm_set Mt 277 6 g) 277 18 (Mt 277 18 + 1)) 277 7 = Mt 277 7 := by rw [xm_nk (by decide), xm_nk (by decide)]
                            have h69 : (xm_set (xm_set Mt 277 6 g) 277 18 (Mt 277 18 + 1)) 277 6 = g := by rw [xm_nk (by decide), xm_eq]
                            have hO9 : mn_O (M 278) (mo_run (ps_name (M 278)) l (md_s M)) e (md_s (xm_set (xm_set Mt 277 6 g) 277 18 (Mt 277 18 + 1))) (k + 1) := by
                              rw [hsk] at hO
                              refine mn_O1 hO hie ?_
                              rcases hJ with ⟨j7, hJ⟩ | ⟨j7, hJ⟩
                              · refine Or.inr ⟨ps_sl (M 278) f g, g, ?_, by omega, by omega, ?_⟩
                                · rw [mn_lab hhd, if_pos ⟨by omega, by omega, by rw [show g = f + t by omega]; exact hJ.1⟩]
                                · rw [md_s0 (by omega), h69]
                              · exact Or.inl ⟨md_s1 (by omega), hJ⟩
                            have hmu : (if (xm_set (xm_set Mt 277 6 g) 277 18 (Mt 277 18 + 1)) 277 7 = 0 then e + 1 - (xm_set (xm_set Mt 277 6 g) 277 18 (Mt 277 18 + 1)) 277 6 else 0) < (if Mk 277 7 = 0 then e + 1 - Mk 277 6 else 0) := by rw [h79, h69, if_pos c30, hk6]; split <;> omega
                            refine xv_goto hX (pq := 26) dc_MD_name_165 (by decide) ?_
                            refine xv_sub (L' := [(0, .ref (Y.2.2.2 277)), (1, .int (nI l)), (2, .int (nI e))]) [0, 1, 2] rfl ?_
                            exact ih26 (xm_set (xm_set Mt 277 6 g) 277 18 (Mt 277 18 + 1)) (k + 1) I9 (by rw [xm_eq, z18]) (by omega) hO9 h169 h179 hF9 (by omega)
                          · skip
                            have hJok : ps_abc (ps_sl (M 278) f (f + t)) = true ∧ 1 ≤ g - f ∧ g - f ≤ 8 ∧ k ≠ 4 := by rcases hJ with h | h; exact h.2; omega
                            have bt : Mt 278 (f + t) = M 278 (f + t) := by rw [hFt.1 278 (by decide), b45k]
                            have hbt := k8 (f + t) (by omega)
                            refine xv_aload_n hX 0 dc_MD_name_111 rfl (rfl : _ = 112) ?_
                            refine xv_aload_n hX 0 dc_MD_name_112 rfl (rfl : _ = 113) ?_
                            refine xv_getr hX fl_MD_7 rfl rfl (by decide) rfl dc_MD_name_113 (rfl : _ = 116) ?_
                            refine xv_iload hX 4 dc_MD_name_116 rfl (rfl : _ = 118) ?_
                            refine xv_iald hX rfl (by decide) (by omega) (by decide) (v := M 278 (f + t)) bt dc_MD_name_118 (rfl : _ = 119) ?_
                            refine xv_bipush hX (v := nI 97) dc_MD_name_119 (by decide) (rfl : _ = 121) ?_
                            refine xv_icmp_lt hX (nI_toInt (by omega)) (show (nI 97).toInt = 97 by decide) (tgt := 136) (pq := 124) dc_MD_name_121 (by decide) rfl (fun c121 => ?_) (fun c121 => ?_)
                            · skip
                              refine xv_iconst hX (v := nI 1) dc_MD_name_136 (by decide) (rfl : _ = 137) ?_
                              refine xv_goto hX (pq := 141) dc_MD_name_137 (by decide) ?_
                              refine xv_putz hX fl_MD_34 rfl rfl (by decide) (by decide) dc_MD_name_141 (rfl : _ = 144) ?_
                              refine xv_iinc hX 4 [1, 2, 3, 4, 0] dc_MD_name_144 rfl (xi_inc (f + t) 1) (by decide) (L' := [(0, .ref (Y.2.2.2 277)), (1, .int (nI l)), (2, .int (nI e)), (3, .int (nI g)), (4, .int (nI (f + t + 1)))]) rfl (rfl : _ = 147) ?_
                              refine xv_goto hX (pq := 98) dc_MD_name_147 (by decide) ?_
                              refine xv_sub (L' := [(0, .ref (Y.2.2.2 277)), (1, .int (nI l)), (2, .int (nI e)), (3, .int (nI g)), (4, .int (nI (f + t + 1)))]) [0, 1, 2, 3, 4] rfl ?_
                              exact ih98 (xm_set Mt 277 7 1) (t + 1) (by omega) (by omega) (Or.inr ⟨xm_eq, Or.inl (by rw [mn_lab hhd, if_neg (fun z => mn_abc0 (f := f) (g := g) (t := f + t) (by omega) (by omega) (by omega) z.2.2)])⟩) (by rw [xm_nk (by decide)]; exact ht6) ⟨fun q a => by rw [xm_oth a]; exact hFt.1 q a, fun j a b => by rw [xm_nk b]; exact hFt.2 j a b⟩ (by omega)
                            · skip
                              refine xv_aload_n hX 0 dc_MD_name_124 rfl (rfl : _ = 125) ?_
                              refine xv_getr hX fl_MD_7 rfl rfl (by decide) rfl dc_MD_name_125 (rfl : _ = 128) ?_
                              refine xv_iload hX 4 dc_MD_name_128 rfl (rfl : _ = 130) ?_
                              refine xv_iald hX rfl (by decide) (by omega) (by decide) (v := M 278 (f + t)) bt dc_MD_name_130 (rfl : _ = 131) ?_
                              refine xv_bipush hX (v := nI 122) dc_MD_name_131 (by decide) (rfl : _ = 133) ?_
                              refine xv_icmp_le hX (nI_toInt (by omega)) (show (nI 122).toInt = 122 by decide) (tgt := 140) (pq := 136) dc_MD_name_133 (by decide) rfl (fun c133 => ?_) (fun c133 => ?_)
                              · skip
                                refine xv_iconst hX (v := nI 0) dc_MD_name_140 (by decide) (rfl : _ = 141) ?_
                                refine xv_putz hX fl_MD_34 rfl rfl (by decide) (by decide) dc_MD_name_141 (rfl : _ = 144) ?_
                                refine xv_iinc hX 4 [1, 2, 3, 4, 0] dc_MD_name_144 rfl (xi_inc (f + t) 1) (by decide) (L' := [(0, .ref (Y.2.2.2 277)), (1, .int (nI l)), (2, .int (nI e)), (3, .int (nI g)), (4, .int (nI (f + t + 1)))]) rfl (rfl : _ = 147) ?_
                                refine xv_goto hX (pq := 98) dc_MD_name_147 (by decide) ?_
                                refine xv_sub (L' := [(0, .ref (Y.2.2.2 277)), (1, .int (nI l)), (2, .int (nI e)), (3, .int (nI g)), (4, .int (nI (f + t + 1)))]) [0, 1, 2, 3, 4] rfl ?_
                                exact ih98 (xm_set Mt 277 7 0) (t + 1) (by omega) (by omega) (Or.inl ⟨xm_eq, by rw [ps_sl_succ, ps_abc_app, hJok.1, bt] at *; simp; omega, hJok.2⟩) (by rw [xm_nk (by decide)]; exact ht6) ⟨fun q a => by rw [xm_oth a]; exact hFt.1 q a, fun j a b => by rw [xm_nk b]; exact hFt.2 j a b⟩ (by omega)
                              · skip
                                refine xv_iconst hX (v := nI 1) dc_MD_name_136 (by decide) (rfl : _ = 137) ?_
                                refine xv_goto hX (pq := 141) dc_MD_name_137 (by decide) ?_
                                refine xv_putz hX fl_MD_34 rfl rfl (by decide) (by decide) dc_MD_name_141 (rfl : _ = 144) ?_
                                refine xv_iinc hX 4 [1, 2, 3, 4, 0] dc_MD_name_144 rfl (xi_inc (f + t) 1) (by decide) (L' := [(0, .ref (Y.2.2.2 277)), (1, .int (nI l)), (2, .int (nI e)), (3, .int (nI g)), (4, .int (nI (f + t + 1)))]) rfl (rfl : _ = 147) ?_
                                refine xv_goto hX (pq := 98) dc_MD_name_147 (by decide) ?_
                                refine xv_sub (L' := [(0, .ref (Y.2.2.2 277)), (1, .int (nI l)), (2, .int (nI e)), (3, .int (nI g)), (4, .int (nI (f + t + 1)))]) [0, 1, 2, 3, 4] rfl ?_
                                exact ih98 (xm_set Mt 277 7 1) (t + 1) (by omega) (by omega) (Or.inr ⟨xm_eq, Or.inl (by rw [mn_lab hhd, if_neg (fun z => mn_abc0 (f := f) (g := g) (t := f + t) (by omega) (by omega) (by omega) z.2.2)])⟩) (by rw [xm_nk (by decide)]; exact ht6) ⟨fun q a => by rw [xm_oth a]; exact hFt.1 q a, fun j a b => by rw [xm_nk b]; exact hFt.2 j a b⟩ (by omega)
                    refine xv_sub (L' := [(0, .ref (Y.2.2.2 277)), (1, .int (nI l)), (2, .int (nI e)), (3, .int (nI g)), (4, .int (nI f))]) [0, 1, 2, 3, 4] rfl ?_
                    exact lpL _ (xm_set M45 277 7 1) 0 (by omega) (by decide) (Or.inr ⟨xm_eq, by first | exact Or.inr (by omega) | exact Or.inl (by rw [mn_lab hhd, if_neg (by omega)])⟩) (by rw [xm_nk (by decide)]; exact g456) ⟨fun q a => by rw [xm_oth a], fun j a b => by rw [xm_nk b]⟩ (Nat.lt_succ_self _)
  refine xv_sub (L' := [(0, .ref (Y.2.2.2 277)), (1, .int (nI l)), (2, .int (nI e))]) [0, 1, 2] rfl ?_
  exact lpN _ (xm_set (xm_set (xm_set M4 277 16 (M4 277 6)) 277 17 e) 277 18 0) 0 (i4.cg (by rw [xm_nk (by decide), xm_nk (by decide), xm_nk (by decide)]) (by rw [xm_nk (by decide), xm_nk (by decide), xm_nk (by decide)]) (by rw [xm_oth (by decide), xm_oth (by decide), xm_oth (by decide)])) xm_eq (by decide) (by rw [md_s_cg (M := M4) (M' := (xm_set (xm_set (xm_set M4 277 16 (M4 277 6)) 277 17 e) 277 18 0)) (by rw [xm_nk (by decide), xm_nk (by decide), xm_nk (by decide)]) (by rw [xm_nk (by decide), xm_nk (by decide), xm_nk (by decide)])]; exact mn_O0 hen) (by rw [xm_nk (by decide), xm_nk (by decide), xm_eq]) (by rw [xm_nk (by decide), xm_eq]) ⟨fun q a => by rw [xm_oth a, xm_oth a, xm_oth a]; exact f4.1 q a, fun j a1 a2 a3 a4 a5 => by rw [xm_nk a5, xm_nk a4, xm_nk a3]; exact f4.2 j a1 a2⟩ (Nat.lt_succ_self _)
