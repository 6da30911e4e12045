/-! the reference: extensions -/
set_option maxRecDepth 100000 in
set_option maxHeartbeats 4000000 in
theorem ct_MD_more (ln : Launch) (Y : xw_Y) (M : xm_M) (l : Nat) (hI : md_I M) (hl : l ≤ 1440) (hE : md_E (M 278) M ps_E0) : xc_v ln qm_MD_more 6 Y [.ref (Y.2.2.2 277), .int (nI l)] M (fun M1 => md_I M1 ∧ md_Y md_sl M M1 ∧ mo_ok (mo_run (pq_in (M 278) 163 (pq_in (M 278) 48 (ps_exts (M 278) 3 ps_E0))) l (md_s M)) (md_s M1) (fun E2 => md_E (M 278) M1 E2)) := by
  refine xc_v.mk rfl (by decide) (Nat.le_of_ble_eq_true rfl) ?_
  intro X hXl hX hR
  subst hXl
  have hX : xv_ok X Y prog_9_method_21_code "CertificatePathModel" 4 (xc_rm 6) := hX
  show xv_V X Y 4 0 0 xw_lk xw_N M 0 [(0, .ref (Y.2.2.2 277)), (1, .int (nI l))] []
  obtain ⟨k6, k7, k8⟩ := id hI
  refine xv_aload_n hX 0 dc_MD_more_0 rfl (rfl : _ = 1) ?_
  refine xv_sipush hX (v := nI 163) dc_MD_more_1 (by decide) (rfl : _ = 4) ?_
  refine xv_iload_n hX 1 dc_MD_more_4 rfl (rfl : _ = 5) ?_
  refine xv_calli hX (As := [.int (nI 163), .int (nI l)]) (rest := []) (ct_MD_enter _ Y M 163 l hI hl (by decide)) ml_MD_45 li_MD_enter rfl (by decide) rfl rfl rfl (by decide) ⟨by decide, by decide⟩ ⟨Nat.le_refl _, Nat.le_refl _⟩ (Nat.le_of_ble_eq_true rfl) dc_MD_more_5 (rfl : _ = 8) (fun r5 M5 p5 => ?_)
  obtain ⟨i5, f5, h5⟩ := p5
  obtain ⟨e, z5, hel, hen⟩ := mo_enter h5
  rw [z5]
  have b5 : M5 278 = M 278 := f5.1 278 (by decide)
  refine xv_istore_n hX [1, 2, 0] dc_MD_more_8 (by decide) (L' := [(0, .ref (Y.2.2.2 277)), (1, .int (nI l)), (2, .int (nI e))]) rfl (rfl : _ = 9) ?_
  refine xv_aload_n hX 0 dc_MD_more_9 rfl (rfl : _ = 10) ?_
  refine xv_bipush hX (v := nI 48) dc_MD_more_10 (by decide) (rfl : _ = 12) ?_
  refine xv_iload_n hX 2 dc_MD_more_12 rfl (rfl : _ = 13) ?_
  refine xv_calli hX (As := [.int (nI 48), .int (nI e)]) (rest := []) (ct_MD_enter _ Y M5 48 e i5 (by omega) (by decide)) ml_MD_45 li_MD_enter rfl (by decide) rfl rfl rfl (by decide) ⟨by decide, by decide⟩ ⟨Nat.le_refl _, Nat.le_refl _⟩ (Nat.le_of_ble_eq_true rfl) dc_MD_more_13 (rfl : _ = 16) (fun r13 M13 p13 => ?_)
  obtain ⟨i13, f13, h13⟩ := p13
  rw [b5] at h13
  obtain ⟨g, z13, hge, hen2⟩ := mo_enter h13
  rw [z13]
  refine xv_istore_n hX [1, 2, 3, 0] dc_MD_more_16 (by decide) (L' := [(0, .ref (Y.2.2.2 277)), (1, .int (nI l)), (2, .int (nI e)), (3, .int (nI g))]) rfl (rfl : _ = 17) ?_
  have lp17 : ∀ (fu17 : Nat) (Mk : xm_M) (Ek : ps_E) (hIk : md_I Mk) (hEk : md_s Mk ≠ none → md_E (M 278) Mk Ek) (hO : mx_O (M 278) (mo_run (pq_in (M 278) 48 (ps_exts (M 278) 3 ps_E0)) e (md_s M5)) g (md_s Mk) Ek) (hFk : md_Y md_sl M Mk), (if Mk 277 7 = 0 then g + 1 - Mk 277 6 else 0) < fu17 → xv_V X Y 4 0 0 xw_lk xw_N Mk 17 [(0, .ref (Y.2.2.2 277)), (1, .int (nI l)), (2, .int (nI e)), (3, .int (nI g))] [] := by
    intro n17
    induction n17 with
    | zero => intro Mk Ek hIk hEk hO hFk hm17; exact absurd hm17 (Nat.not_lt_zero _)
    | succ n17 ih17 =>
      intro Mk Ek hIk hEk hO hFk hm17
      refine xv_aload_n hX 0 dc_MD_more_17 rfl (rfl : _ = 18) ?_
      have kk6 := hIk.1
      have kk7 := hIk.2.1
      have bk : Mk 278 = M 278 := hFk.1 278 (by decide) (by decide)
      refine xv_geti hX fl_MD_34 rfl rfl (by decide) (v := Mk 277 7) rfl dc_MD_more_18 (rfl : _ = 21) ?_
      refine xv_if_ne hX (nI_toInt (by omega)) (tgt := 40) (pq := 24) dc_MD_more_21 (by decide) rfl (fun c21 => ?_) (fun c21 => ?_)
      · skip
        refine xv_aload_n hX 0 dc_MD_more_40 rfl (rfl : _ = 41) ?_
        refine xv_aload_n hX 0 dc_MD_more_41 rfl (rfl : _ = 42) ?_
        refine xv_geti hX fl_MD_34 rfl rfl (by decide) (v := Mk 277 7) rfl dc_MD_more_42 (rfl : _ = 45) ?_
        refine xv_if_ne hX (nI_toInt (by omega)) (tgt := 55) (pq := 48) dc_MD_more_45 (by decide) rfl (fun c45 => ?_) (fun c45 => ?_)
        · skip
          refine xv_iconst hX (v := nI 1) dc_MD_more_55 (by decide) (rfl : _ = 56) ?_
          refine xv_goto hX (pq := 60) dc_MD_more_56 (by decide) ?_
          refine xv_putz hX fl_MD_34 rfl rfl (by decide) (by decide) dc_MD_more_60 (rfl : _ = 63) ?_
          refine xv_aload_n hX 0 dc_MD_more_63 rfl (rfl : _ = 64) ?_
          refine xv_iload_n hX 3 dc_MD_more_64 rfl (rfl : _ = 65) ?_
          refine xv_callv hX (As := [.int (nI g)]) (rest := []) (ct_MD_leave _ Y (xm_set Mk 277 7 1) g (md_wr (M := Mk) (v := 1) hIk (by decide)).1 (by omega)) ml_MD_77 li_MD_leave rfl (by decide) rfl rfl rfl (by decide) ⟨by decide, by decide⟩ ⟨Nat.le_refl _, Nat.le_refl _⟩ (Nat.le_of_ble_eq_true rfl) dc_MD_more_65 (rfl : _ = 68) (fun M65 p65 => ?_)
          obtain ⟨i65, f65, h65⟩ := p65
          refine xv_aload_n hX 0 dc_MD_more_68 rfl (rfl : _ = 69) ?_
          refine xv_iload_n hX 2 dc_MD_more_69 rfl (rfl : _ = 70) ?_
          refine xv_callv hX (As := [.int (nI e)]) (rest := []) (ct_MD_leave _ Y M65 e i65 (by omega)) ml_MD_77 li_MD_leave rfl (by decide) rfl rfl rfl (by decide) ⟨by decide, by decide⟩ ⟨Nat.le_refl _, Nat.le_refl _⟩ (Nat.le_of_ble_eq_true rfl) dc_MD_more_70 (rfl : _ = 73) (fun M70 p70 => ?_)
          obtain ⟨i70, f70, h70⟩ := p70
          refine xv_retv hX hR dc_MD_more_73 ?_
          obtain ⟨a1, a2, a3⟩ := md_wr (M := Mk) (v := 1) hIk (by decide)
          refine ⟨i70, (md_Y.tt (hFk.up (by decide)) (md_Y.tt (a2.x.y.up (by decide)) (md_Y.tt (f65.x.y.up (by decide)) (f70.x.y.up (by decide))))), ?_⟩
          rw [h70, h65]
          have hx := mx_O2 hO (s2 := md_s (xm_set Mk 277 7 1)) (by
            by_cases h7 : Mk 277 7 = 0
            · rw [md_s0 h7] at hO ⊢
              rcases hO with ⟨h, -⟩ | ⟨i, h, hie, -⟩
              · cases h
              · cases h
                exact Or.inr (by congr 1; omega)
            · exact Or.inl (md_s1 h7)) (by
            rw [a3, md_ss Mk]
            repeat' split
            all_goals first
              | rfl
              | (exfalso; omega))
          have hy := mo_in hen hx
          rcases hy with h | ⟨E9, j, h, hj, rfl⟩
          · exact Or.inl h
          · refine Or.inr ⟨E9, j, h, hj, md_E_cg (by rw [f70.1 281 (by decide), f65.1 281 (by decide), a2.1 281 (by decide)]) (fun j hj => by rw [f70.2 j (by omega) (by omega), f65.2 j (by omega) (by omega), a2.2 j (by omega) (by omega)]) (hEk ?_)⟩
            intro z
            have q7 := md_w hIk z
            have := md_s1 (M := Mk) (by omega)
            rw [a3, if_neg (by decide)] at hj; exact absurd hj (by simp [mo_lv])
        · skip
          have hs9 : md_s Mk ≠ none := by rw [md_s0 (by omega)]; exact fun z => by cases z
          have hEx := hEk hs9
          have z25 := hEx.1.2.1
          have z4 := hEx.1.1
          refine xv_aload_n hX 0 dc_MD_more_48 rfl (rfl : _ = 49) ?_
          refine xv_geti hX fl_MD_105 rfl rfl (by decide) (v := Mk 277 25) rfl dc_MD_more_49 (rfl : _ = 52) ?_
          refine xv_if_ne hX (nI_toInt (by omega)) (tgt := 59) (pq := 55) dc_MD_more_52 (by decide) rfl (fun c52 => ?_) (fun c52 => ?_)
          · skip
            refine xv_iconst hX (v := nI 0) dc_MD_more_59 (by decide) (rfl : _ = 60) ?_
            refine xv_putz hX fl_MD_34 rfl rfl (by decide) (by decide) dc_MD_more_60 (rfl : _ = 63) ?_
            refine xv_aload_n hX 0 dc_MD_more_63 rfl (rfl : _ = 64) ?_
            refine xv_iload_n hX 3 dc_MD_more_64 rfl (rfl : _ = 65) ?_
            refine xv_callv hX (As := [.int (nI g)]) (rest := []) (ct_MD_leave _ Y (xm_set Mk 277 7 0) g (md_wr (M := Mk) (v := 0) hIk (by decide)).1 (by omega)) ml_MD_77 li_MD_leave rfl (by decide) rfl rfl rfl (by decide) ⟨by decide, by decide⟩ ⟨Nat.le_refl _, Nat.le_refl _⟩ (Nat.le_of_ble_eq_true rfl) dc_MD_more_65 (rfl : _ = 68) (fun M65 p65 => ?_)
            obtain ⟨i65, f65, h65⟩ := p65
            refine xv_aload_n hX 0 dc_MD_more_68 rfl (rfl : _ = 69) ?_
            refine xv_iload_n hX 2 dc_MD_more_69 rfl (rfl : _ = 70) ?_
            refine xv_callv hX (As := [.int (nI e)]) (rest := []) (ct_MD_leave _ Y M65 e i65 (by omega)) ml_MD_77 li_MD_leave rfl (by decide) rfl rfl rfl (by decide) ⟨by decide, by decide⟩ ⟨Nat.le_refl _, Nat.le_refl _⟩ (Nat.le_of_ble_eq_true rfl) dc_MD_more_70 (rfl : _ = 73) (fun M70 p70 => ?_)
            obtain ⟨i70, f70, h70⟩ := p70
            refine xv_retv hX hR dc_MD_more_73 ?_
            obtain ⟨a1, a2, a3⟩ := md_wr (M := Mk) (v := 0) hIk (by decide)
            refine ⟨i70, (md_Y.tt (hFk.up (by decide)) (md_Y.tt (a2.x.y.up (by decide)) (md_Y.tt (f65.x.y.up (by decide)) (f70.x.y.up (by decide))))), ?_⟩
            rw [h70, h65]
            have hx := mx_O2 hO (s2 := md_s (xm_set Mk 277 7 0)) (by
              by_cases h7 : Mk 277 7 = 0
              · rw [md_s0 h7] at hO ⊢
                rcases hO with ⟨h, -⟩ | ⟨i, h, hie, -⟩
                · cases h
                · cases h
                  exact Or.inr (by congr 1; omega)
              · exact Or.inl (md_s1 h7)) (by
              rw [a3, md_ss Mk]
              repeat' split
              all_goals first
                | rfl
                | (exfalso; omega))
            have hy := mo_in hen hx
            rcases hy with h | ⟨E9, j, h, hj, rfl⟩
            · exact Or.inl h
            · refine Or.inr ⟨E9, j, h, hj, md_E_cg (by rw [f70.1 281 (by decide), f65.1 281 (by decide), a2.1 281 (by decide)]) (fun j hj => by rw [f70.2 j (by omega) (by omega), f65.2 j (by omega) (by omega), a2.2 j (by omega) (by omega)]) (hEk ?_)⟩
              intro z
              have q7 := md_w hIk z
              have := md_s1 (M := Mk) (by omega)
              omega
          · skip
            refine xv_iconst hX (v := nI 1) dc_MD_more_55 (by decide) (rfl : _ = 56) ?_
            refine xv_goto hX (pq := 60) dc_MD_more_56 (by decide) ?_
            refine xv_putz hX fl_MD_34 rfl rfl (by decide) (by decide) dc_MD_more_60 (rfl : _ = 63) ?_
            refine xv_aload_n hX 0 dc_MD_more_63 rfl (rfl : _ = 64) ?_
            refine xv_iload_n hX 3 dc_MD_more_64 rfl (rfl : _ = 65) ?_
            refine xv_callv hX (As := [.int (nI g)]) (rest := []) (ct_MD_leave _ Y (xm_set Mk 277 7 1) g (md_wr (M := Mk) (v := 1) hIk (by decide)).1 (by omega)) ml_MD_77 li_MD_leave rfl (by decide) rfl rfl rfl (by decide) ⟨by decide, by decide⟩ ⟨Nat.le_refl _, Nat.le_refl _⟩ (Nat.le_of_ble_eq_true rfl) dc_MD_more_65 (rfl : _ = 68) (fun M65 p65 => ?_)
            obtain ⟨i65, f65, h65⟩ := p65
            refine xv_aload_n hX 0 dc_MD_more_68 rfl (rfl : _ = 69) ?_
            refine xv_iload_n hX 2 dc_MD_more_69 rfl (rfl : _ = 70) ?_
            refine xv_callv hX (As := [.int (nI e)]) (rest := []) (ct_MD_leave _ Y M65 e i65 (by omega)) ml_MD_77 li_MD_leave rfl (by decide) rfl rfl rfl (by decide) ⟨by decide, by decide⟩ ⟨Nat.le_refl _, Nat.le_refl _⟩ (Nat.le_of_ble_eq_true rfl) dc_MD_more_70 (rfl : _ = 73) (fun M70 p70 => ?_)
            obtain ⟨i70, f70, h70⟩ := p70
            refine xv_retv hX hR dc_MD_more_73 ?_
            obtain ⟨a1, a2, a3⟩ := md_wr (M := Mk) (v := 1) hIk (by decide)
            refine ⟨i70, (md_Y.tt (hFk.up (by decide)) (md_Y.tt (a2.x.y.up (by decide)) (md_Y.tt (f65.x.y.up (by decide)) (f70.x.y.up (by decide))))), ?_⟩
            rw [h70, h65]
            have hx := mx_O2 hO (s2 := md_s (xm_set Mk 277 7 1)) (by
              by_cases h7 : Mk 277 7 = 0
              · rw [md_s0 h7] at hO ⊢
                rcases hO with ⟨h, -⟩ | ⟨i, h, hie, -⟩
                · cases h
                · cases h
                  exact Or.inr (by congr 1; omega)
              · exact Or.inl (md_s1 h7)) (by
              rw [a3, md_ss Mk]
              repeat' split
              all_goals first
                | rfl
                | (exfalso; omega))
            have hy := mo_in hen hx
            rcases hy with h | ⟨E9, j, h, hj, rfl⟩
            · exact Or.inl h
            · refine Or.inr ⟨E9, j, h, hj, md_E_cg (by rw [f70.1 281 (by decide), f65.1 281 (by decide), a2.1 281 (by decide)]) (fun j hj => by rw [f70.2 j (by omega) (by omega), f65.2 j (by omega) (by omega), a2.2 j (by omega) (by omega)]) (hEk ?_)⟩
              intro z
              have q7 := md_w hIk z
              have := md_s1 (M := Mk) (by omega)
              rw [a3, if_neg (by decide)] at hj; exact absurd hj (by simp [mo_lv])
      · skip
        refine xv_aload_n hX 0 dc_MD_more_24 rfl (rfl : _ = 25) ?_
        refine xv_geti hX fl_MD_38 rfl rfl (by decide) (v := Mk 277 6) rfl dc_MD_more_25 (rfl : _ = 28) ?_
        refine xv_iload_n hX 3 dc_MD_more_28 rfl (rfl : _ = 29) ?_
        refine xv_icmp_ge hX (nI_toInt (by omega)) (nI_toInt (by omega)) (tgt := 40) (pq := 32) dc_MD_more_29 (by decide) rfl (fun c29 => ?_) (fun c29 => ?_)
        · skip
          refine xv_aload_n hX 0 dc_MD_more_40 rfl (rfl : _ = 41) ?_
          refine xv_aload_n hX 0 dc_MD_more_41 rfl (rfl : _ = 42) ?_
          refine xv_geti hX fl_MD_34 rfl rfl (by decide) (v := Mk 277 7) rfl dc_MD_more_42 (rfl : _ = 45) ?_
          refine xv_if_ne hX (nI_toInt (by omega)) (tgt := 55) (pq := 48) dc_MD_more_45 (by decide) rfl (fun c45 => ?_) (fun c45 => ?_)
          · skip
            refine xv_iconst hX (v := nI 1) dc_MD_more_55 (by decide) (rfl : _ = 56) ?_
            refine xv_goto hX (pq := 60) dc_MD_more_56 (by decide) ?_
            refine xv_putz hX fl_MD_34 rfl rfl (by decide) (by decide) dc_MD_more_60 (rfl : _ = 63) ?_
            refine xv_aload_n hX 0 dc_MD_more_63 rfl (rfl : _ = 64) ?_
            refine xv_iload_n hX 3 dc_MD_more_64 rfl (rfl : _ = 65) ?_
            refine xv_callv hX (As := [.int (nI g)]) (rest := []) (ct_MD_leave _ Y (xm_set Mk 277 7 1) g (md_wr (M := Mk) (v := 1) hIk (by decide)).1 (by omega)) ml_MD_77 li_MD_leave rfl (by decide) rfl rfl rfl (by decide) ⟨by decide, by decide⟩ ⟨Nat.le_refl _, Nat.le_refl _⟩ (Nat.le_of_ble_eq_true rfl) dc_MD_more_65 (rfl : _ = 68) (fun M65 p65 => ?_)
            obtain ⟨i65, f65, h65⟩ := p65
            refine xv_aload_n hX 0 dc_MD_more_68 rfl (rfl : _ = 69) ?_
            refine xv_iload_n hX 2 dc_MD_more_69 rfl (rfl : _ = 70) ?_
            refine xv_callv hX (As := [.int (nI e)]) (rest := []) (ct_MD_leave _ Y M65 e i65 (by omega)) ml_MD_77 li_MD_leave rfl (by decide) rfl rfl rfl (by decide) ⟨by decide, by decide⟩ ⟨Nat.le_refl _, Nat.le_refl _⟩ (Nat.le_of_ble_eq_true rfl) dc_MD_more_70 (rfl : _ = 73) (fun M70 p70 => ?_)
            obtain ⟨i70, f70, h70⟩ := p70
            refine xv_retv hX hR dc_MD_more_73 ?_
            obtain ⟨a1, a2, a3⟩ := md_wr (M := Mk) (v := 1) hIk (by decide)
            refine ⟨i70, (md_Y.tt (hFk.up (by decide)) (md_Y.tt (a2.x.y.up (by decide)) (md_Y.tt (f65.x.y.up (by decide)) (f70.x.y.up (by decide))))), ?_⟩
            rw [h70, h65]
            have hx := mx_O2 hO (s2 := md_s (xm_set Mk 277 7 1)) (by
              by_cases h7 : Mk 277 7 = 0
              · rw [md_s0 h7] at hO ⊢
                rcases hO with ⟨h, -⟩ | ⟨i, h, hie, -⟩
                · cases h
                · cases h
                  exact Or.inr (by congr 1; omega)
              · exact Or.inl (md_s1 h7)) (by
              rw [a3, md_ss Mk]
              repeat' split
              all_goals first
                | rfl
                | (exfalso; omega))
            have hy := mo_in hen hx
            rcases hy with h | ⟨E9, j, h, hj, rfl⟩
            · exact Or.inl h
            · refine Or.inr ⟨E9, j, h, hj, md_E_cg (by rw [f70.1 281 (by decide), f65.1 281 (by decide), a2.1 281 (by decide)]) (fun j hj => by rw [f70.2 j (by omega) (by omega), f65.2 j (by omega) (by omega), a2.2 j (by omega) (by omega)]) (hEk ?_)⟩
              intro z
              have q7 := md_w hIk z
              have := md_s1 (M := Mk) (by omega)
              rw [a3, if_neg (by decide)] at hj; exact absurd hj (by simp [mo_lv])
          · skip
            have hs9 : md_s Mk ≠ none := by rw [md_s0 (by omega)]; exact fun z => by cases z
            have hEx := hEk hs9
            have z25 := hEx.1.2.1
            have z4 := hEx.1.1
            refine xv_aload_n hX 0 dc_MD_more_48 rfl (rfl : _ = 49) ?_
            refine xv_geti hX fl_MD_105 rfl rfl (by decide) (v := Mk 277 25) rfl dc_MD_more_49 (rfl : _ = 52) ?_
            refine xv_if_ne hX (nI_toInt (by omega)) (tgt := 59) (pq := 55) dc_MD_more_52 (by decide) rfl (fun c52 => ?_) (fun c52 => ?_)
            · skip
              refine xv_iconst hX (v := nI 0) dc_MD_more_59 (by decide) (rfl : _ = 60) ?_
              refine xv_putz hX fl_MD_34 rfl rfl (by decide) (by decide) dc_MD_more_60 (rfl : _ = 63) ?_
              refine xv_aload_n hX 0 dc_MD_more_63 rfl (rfl : _ = 64) ?_
              refine xv_iload_n hX 3 dc_MD_more_64 rfl (rfl : _ = 65) ?_
              refine xv_callv hX (As := [.int (nI g)]) (rest := []) (ct_MD_leave _ Y (xm_set Mk 277 7 0) g (md_wr (M := Mk) (v := 0) hIk (by decide)).1 (by omega)) ml_MD_77 li_MD_leave rfl (by decide) rfl rfl rfl (by decide) ⟨by decide, by decide⟩ ⟨Nat.le_refl _, Nat.le_refl _⟩ (Nat.le_of_ble_eq_true rfl) dc_MD_more_65 (rfl : _ = 68) (fun M65 p65 => ?_)
              obtain ⟨i65, f65, h65⟩ := p65
              refine xv_aload_n hX 0 dc_MD_more_68 rfl (rfl : _ = 69) ?_
              refine xv_iload_n hX 2 dc_MD_more_69 rfl (rfl : _ = 70) ?_
              refine xv_callv hX (As := [.int (nI e)]) (rest := []) (ct_MD_leave _ Y M65 e i65 (by omega)) ml_MD_77 li_MD_leave rfl (by decide) rfl rfl rfl (by decide) ⟨by decide, by decide⟩ ⟨Nat.le_refl _, Nat.le_refl _⟩ (Nat.le_of_ble_eq_true rfl) dc_MD_more_70 (rfl : _ = 73) (fun M70 p70 => ?_)
              obtain ⟨i70, f70, h70⟩ := p70
              refine xv_retv hX hR dc_MD_more_73 ?_
              obtain ⟨a1, a2, a3⟩ := md_wr (M := Mk) (v := 0) hIk (by decide)
              refine ⟨i70, (md_Y.tt (hFk.up (by decide)) (md_Y.tt (a2.x.y.up (by decide)) (md_Y.tt (f65.x.y.up (by decide)) (f70.x.y.up (by decide))))), ?_⟩
              rw [h70, h65]
              have hx := mx_O2 hO (s2 := md_s (xm_set Mk 277 7 0)) (by
                by_cases h7 : Mk 277 7 = 0
                · rw [md_s0 h7] at hO ⊢
                  rcases hO with ⟨h, -⟩ | ⟨i, h, hie, -⟩
                  · cases h
                  · cases h
                    exact Or.inr (by congr 1; omega)
                · exact Or.inl (md_s1 h7)) (by
                rw [a3, md_ss Mk]
                repeat' split
                all_goals first
                  | rfl
                  | (exfalso; omega))
              have hy := mo_in hen hx
              rcases hy with h | ⟨E9, j, h, hj, rfl⟩
              · exact Or.inl h
              · refine Or.inr ⟨E9, j, h, hj, md_E_cg (by rw [f70.1 281 (by decide), f65.1 281 (by decide), a2.1 281 (by decide)]) (fun j hj => by rw [f70.2 j (by omega) (by omega), f65.2 j (by omega) (by omega), a2.2 j (by omega) (by omega)]) (hEk ?_)⟩
                intro z
                have q7 := md_w hIk z
                have := md_s1 (M := Mk) (by omega)
                omega
            · skip
              refine xv_iconst hX (v := nI 1) dc_MD_more_55 (by decide) (rfl : _ = 56) ?_
              refine xv_goto hX (pq := 60) dc_MD_more_56 (by decide) ?_
              refine xv_putz hX fl_MD_34 rfl rfl (by decide) (by decide) dc_MD_more_60 (rfl : _ = 63) ?_
              refine xv_aload_n hX 0 dc_MD_more_63 rfl (rfl : _ = 64) ?_
              refine xv_iload_n hX 3 dc_MD_more_64 rfl (rfl : _ = 65) ?_
              refine xv_callv hX (As := [.int (nI g)]) (rest := []) (ct_MD_leave _ Y (xm_set Mk 277 7 1) g (md_wr (M := Mk) (v := 1) hIk (by decide)).1 (by omega)) ml_MD_77 li_MD_leave rfl (by decide) rfl rfl rfl (by decide) ⟨by decide, by decide⟩ ⟨Nat.le_refl _, Nat.le_refl _⟩ (Nat.le_of_ble_eq_true rfl) dc_MD_more_65 (rfl : _ = 68) (fun M65 p65 => ?_)
              obtain ⟨i65, f65, h65⟩ := p65
              refine xv_aload_n hX 0 dc_MD_more_68 rfl (rfl : _ = 69) ?_
              refine xv_iload_n hX 2 dc_MD_more_69 rfl (rfl : _ = 70) ?_
              refine xv_callv hX (As := [.int (nI e)]) (rest := []) (ct_MD_leave _ Y M65 e i65 (by omega)) ml_MD_77 li_MD_leave rfl (by decide) rfl rfl rfl (by decide) ⟨by decide, by decide⟩ ⟨Nat.le_refl _, Nat.le_refl _⟩ (Nat.le_of_ble_eq_true rfl) dc_MD_more_70 (rfl : _ = 73) (fun M70 p70 => ?_)
              obtain ⟨i70, f70, h70⟩ := p70
              refine xv_retv hX hR dc_MD_more_73 ?_
              obtain ⟨a1, a2, a3⟩ := md_wr (M := Mk) (v := 1) hIk (by decide)
              refine ⟨i70, (md_Y.tt (hFk.up (by decide)) (md_Y.tt (a2.x.y.up (by decide)) (md_Y.tt (f65.x.y.up (by decide)) (f70.x.y.up (by decide))))), ?_⟩
              rw [h70, h65]
              have hx := mx_O2 hO (s2 := md_s (xm_set Mk 277 7 1)) (by
                by_cases h7 : Mk 277 7 = 0
                · rw [md_s0 h7] at hO ⊢
                  rcases hO with ⟨h, -⟩ | ⟨i, h, hie, -⟩
                  · cases h
                  · cases h
                    exact Or.inr (by congr 1; omega)
                · exact Or.inl (md_s1 h7)) (by
                rw [a3, md_ss Mk]
                repeat' split
                all_goals first
                  | rfl
                  | (exfalso; omega))
              have hy := mo_in hen hx
              rcases hy with h | ⟨E9, j, h, hj, rfl⟩
              · exact Or.inl h
              · refine Or.inr ⟨E9, j, h, hj, md_E_cg (by rw [f70.1 281 (by decide), f65.1 281 (by decide), a2.1 281 (by decide)]) (fun j hj => by rw [f70.2 j (by omega) (by omega), f65.2 j (by omega) (by omega), a2.2 j (by omega) (by omega)]) (hEk ?_)⟩
                intro z
                have q7 := md_w hIk z
                have := md_s1 (M := Mk) (by omega)
                rw [a3, if_neg (by decide)] at hj; exact absurd hj (by simp [mo_lv])
        · skip
          refine xv_aload_n hX 0 dc_MD_more_32 rfl (rfl : _ = 33) ?_
          refine xv_iload_n hX 3 dc_MD_more_33 rfl (rfl : _ = 34) ?_
          refine xv_callv hX (As := [.int (nI g)]) (rest := []) (ct_MD_extension _ Y Mk g Ek hIk (by omega) (by rw [bk]; exact hEk (by rw [md_s0 (by omega)]; exact fun z => by cases z))) ml_MD_126 li_MD_extension rfl (by decide) rfl rfl rfl (by decide) ⟨by decide, by decide⟩ ⟨Nat.le_refl _, Nat.le_refl _⟩ (Nat.le_of_ble_eq_true rfl) dc_MD_more_34 (rfl : _ = 37) (fun M34 p34 => ?_)
          obtain ⟨i34, f34, h34⟩ := p34
          have hsk : md_s Mk = some (Mk 277 6) := md_s0 (by omega)
          rw [bk, hsk] at h34
          rw [hsk] at hO
          obtain ⟨E9, hE9, hO9, hx9⟩ := mx_O1 hO (by omega) h34
          refine xv_goto hX (pq := 17) dc_MD_more_37 (by decide) ?_
          refine xv_sub (L' := [(0, .ref (Y.2.2.2 277)), (1, .int (nI l)), (2, .int (nI e)), (3, .int (nI g))]) [0, 1, 2, 3] rfl ?_
          exact ih17 M34 E9 i34 hE9 hO9 (md_Y.tt (hFk.up (by decide)) (f34.up (by decide))) (by rw [if_pos (show Mk 277 7 = 0 by omega)] at hm17; split; (rename_i h7; have := hx9 _ (md_s0 h7); omega); omega)
  refine xv_sub (L' := [(0, .ref (Y.2.2.2 277)), (1, .int (nI l)), (2, .int (nI e)), (3, .int (nI g))]) [0, 1, 2, 3] rfl ?_
  exact lp17 _ M13 ps_E0 i13 (fun _ => md_E_cg (by rw [f13.1 281 (by decide), f5.1 281 (by decide)]) (fun j hj => by rw [f13.2 j (by omega) (by omega), f5.2 j (by omega) (by omega)]) hE) (mx_O0 hen2) (md_Y.tt (f5.x.y.up (by decide)) (f13.x.y.up (by decide))) (Nat.lt_succ_self _)
