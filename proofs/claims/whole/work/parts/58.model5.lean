/-! the reference: lists of names -/
set_option maxRecDepth 100000 in
set_option maxHeartbeats 4000000 in
theorem ct_MD_names (ln : Launch) (Y : xw_Y) (M : xm_M) (tag l : Nat) (hI : md_I M) (hl : l ≤ 1440) (ht : tag < 256) (htg : M 277 7 = 0 ∧ M 277 6 < l ∧ M 278 (M 277 6) = tag) : xc_i ln qm_MD_names 3 Y [.ref (Y.2.2.2 277), .int (nI tag), .int (nI l)] M (fun r M1 => md_I M1 ∧ md_X [6, 7, 16, 17, 18] M M1 ∧ ∃ k : Nat, r = nI k ∧ k ≤ 800 ∧ mo_ok (mo_run (ps_list (M 278) tag) l (md_s M)) (md_s M1) (fun x => x.length = k)) := by
  refine xc_i.mk .int rfl (by decide) (Nat.le_of_ble_eq_true rfl) ?_
  intro X hXl hX hR
  subst hXl
  have hX : xv_ok X Y prog_9_method_17_code "CertificatePathModel" 5 (xc_rm 3) := hX
  show xv_V X Y 5 0 0 xw_lk xw_N M 0 [(0, .ref (Y.2.2.2 277)), (1, .int (nI tag)), (2, .int (nI l))] []
  obtain ⟨k6, k7, k8⟩ := id hI
  refine xv_aload_n hX 0 dc_MD_names_0 rfl (rfl : _ = 1) ?_
  refine xv_iload_n hX 1 dc_MD_names_1 rfl (rfl : _ = 2) ?_
  refine xv_iload_n hX 2 dc_MD_names_2 rfl (rfl : _ = 3) ?_
  refine xv_calli hX (As := [.int (nI tag), .int (nI l)]) (rest := []) (ct_MD_enter _ Y M tag l hI hl ht) ml_MD_45 li_MD_enter rfl (by decide) rfl rfl rfl (by decide) ⟨by decide, by decide⟩ ⟨Nat.le_refl _, Nat.le_refl _⟩ (Nat.le_of_ble_eq_true rfl) dc_MD_names_3 (rfl : _ = 6) (fun r3 M3 p3 => ?_)
  obtain ⟨i4, f4, h4⟩ := p3
  obtain ⟨e, z4, hel, hen⟩ := mo_enter h4
  rw [z4]
  refine xv_istore_n hX [1, 2, 3, 0] dc_MD_names_6 (by decide) (L' := [(0, .ref (Y.2.2.2 277)), (1, .int (nI tag)), (2, .int (nI l)), (3, .int (nI e))]) rfl (rfl : _ = 7) ?_
  refine xv_iconst hX (v := nI 0) dc_MD_names_7 (by decide) (rfl : _ = 8) ?_
  refine xv_istore hX [1, 2, 3, 4, 0] dc_MD_names_8 (by decide) (L' := [(0, .ref (Y.2.2.2 277)), (1, .int (nI tag)), (2, .int (nI l)), (3, .int (nI e)), (4, .int (nI 0))]) rfl (rfl : _ = 10) ?_
  have lpN : ∀ (fu10 : Nat) (Mk : xm_M) (k : Nat) (hIk : md_I Mk) (hk7 : k ≤ 800) (hk8 : Mk 277 7 = 0 → 2 * k ≤ Mk 277 6) (hO : mz_O (M 278) (mo_run (ps_list (M 278) tag) l (md_s M)) e (md_s Mk) k) (hF : md_X [6, 7, 16, 17, 18] M Mk), (if Mk 277 7 = 0 then e + 1 - Mk 277 6 else 0) < fu10 → xv_V X Y 5 0 0 xw_lk xw_N Mk 10 [(0, .ref (Y.2.2.2 277)), (1, .int (nI tag)), (2, .int (nI l)), (3, .int (nI e)), (4, .int (nI k))] [] := by
    intro n10
    induction n10 with
    | zero => intro Mk k hIk hk7 hk8 hO hF hm10; exact absurd hm10 (Nat.not_lt_zero _)
    | succ n10 ih10 =>
      intro Mk k hIk hk7 hk8 hO hF hm10
      refine xv_aload_n hX 0 dc_MD_names_10 rfl (rfl : _ = 11) ?_
      have hk66 := hIk.1
      have hk77 := hIk.2.1
      have bk : Mk 278 = M 278 := hF.1 278 (by decide)
      refine xv_geti hX fl_MD_34 rfl rfl (by decide) (v := Mk 277 7) rfl dc_MD_names_11 (rfl : _ = 14) ?_
      refine xv_if_ne hX (nI_toInt (by omega)) (tgt := 39) (pq := 17) dc_MD_names_14 (by decide) rfl (fun c14 => ?_) (fun c14 => ?_)
      · skip
        refine xv_aload_n hX 0 dc_MD_names_39 rfl (rfl : _ = 40) ?_
        refine xv_aload_n hX 0 dc_MD_names_40 rfl (rfl : _ = 41) ?_
        refine xv_geti hX fl_MD_34 rfl rfl (by decide) (v := Mk 277 7) rfl dc_MD_names_41 (rfl : _ = 44) ?_
        refine xv_if_ne hX (nI_toInt (by omega)) (tgt := 59) (pq := 47) dc_MD_names_44 (by decide) rfl (fun c44 => ?_) (fun c44 => ?_)
        · skip
          refine xv_iconst hX (v := nI 1) dc_MD_names_59 (by decide) (rfl : _ = 60) ?_
          refine xv_goto hX (pq := 64) dc_MD_names_60 (by decide) ?_
          refine xv_putz hX fl_MD_34 rfl rfl (by decide) (by decide) dc_MD_names_64 (rfl : _ = 67) ?_
          refine xv_iload hX 4 dc_MD_names_67 rfl (rfl : _ = 69) ?_
          refine xv_reti hX hR rfl dc_MD_names_69 ?_
          obtain ⟨a1, a2, a3⟩ := md_wr (M := Mk) (v := 1) hIk (by decide)
          refine ⟨a1, hF.tt (a2.x.up (by decide)), k, rfl, hk7, mz_O2 hO ?_ ?_⟩
          · by_cases h7 : Mk 277 7 = 0
            · rw [md_s0 h7] at hO ⊢
              rcases hO with ⟨h, -⟩ | ⟨i, _, h, hie, _⟩
              · cases h
              · cases h
                exact Or.inr (by congr 1; omega)
            · exact Or.inl (md_s1 h7)
          · rw [a3, md_ss]
            repeat' split
            all_goals first
              | rfl
              | (exfalso; omega)
        · skip
          refine xv_iload hX 4 dc_MD_names_47 rfl (rfl : _ = 49) ?_
          refine xv_iconst hX (v := nI 1) dc_MD_names_49 (by decide) (rfl : _ = 50) ?_
          refine xv_icmp_lt hX (nI_toInt (by omega)) (show (nI 1).toInt = 1 by decide) (tgt := 59) (pq := 53) dc_MD_names_50 (by decide) rfl (fun c50 => ?_) (fun c50 => ?_)
          · skip
            refine xv_iconst hX (v := nI 1) dc_MD_names_59 (by decide) (rfl : _ = 60) ?_
            refine xv_goto hX (pq := 64) dc_MD_names_60 (by decide) ?_
            refine xv_putz hX fl_MD_34 rfl rfl (by decide) (by decide) dc_MD_names_64 (rfl : _ = 67) ?_
            refine xv_iload hX 4 dc_MD_names_67 rfl (rfl : _ = 69) ?_
            refine xv_reti hX hR rfl dc_MD_names_69 ?_
            obtain ⟨a1, a2, a3⟩ := md_wr (M := Mk) (v := 1) hIk (by decide)
            refine ⟨a1, hF.tt (a2.x.up (by decide)), k, rfl, hk7, mz_O2 hO ?_ ?_⟩
            · by_cases h7 : Mk 277 7 = 0
              · rw [md_s0 h7] at hO ⊢
                rcases hO with ⟨h, -⟩ | ⟨i, _, h, hie, _⟩
                · cases h
                · cases h
                  exact Or.inr (by congr 1; omega)
              · exact Or.inl (md_s1 h7)
            · rw [a3, md_ss]
              repeat' split
              all_goals first
                | rfl
                | (exfalso; omega)
          · skip
            refine xv_iload hX 4 dc_MD_names_53 rfl (rfl : _ = 55) ?_
            refine xv_iconst hX (v := nI 3) dc_MD_names_55 (by decide) (rfl : _ = 56) ?_
            refine xv_icmp_le hX (nI_toInt (by omega)) (show (nI 3).toInt = 3 by decide) (tgt := 63) (pq := 59) dc_MD_names_56 (by decide) rfl (fun c56 => ?_) (fun c56 => ?_)
            · skip
              refine xv_iconst hX (v := nI 0) dc_MD_names_63 (by decide) (rfl : _ = 64) ?_
              refine xv_putz hX fl_MD_34 rfl rfl (by decide) (by decide) dc_MD_names_64 (rfl : _ = 67) ?_
              refine xv_iload hX 4 dc_MD_names_67 rfl (rfl : _ = 69) ?_
              refine xv_reti hX hR rfl dc_MD_names_69 ?_
              obtain ⟨a1, a2, a3⟩ := md_wr (M := Mk) (v := 0) hIk (by decide)
              refine ⟨a1, hF.tt (a2.x.up (by decide)), k, rfl, hk7, mz_O2 hO ?_ ?_⟩
              · by_cases h7 : Mk 277 7 = 0
                · rw [md_s0 h7] at hO ⊢
                  rcases hO with ⟨h, -⟩ | ⟨i, _, h, hie, _⟩
                  · cases h
                  · cases h
                    exact Or.inr (by congr 1; omega)
                · exact Or.inl (md_s1 h7)
              · rw [a3, md_ss]
                repeat' split
                all_goals first
                  | rfl
                  | (exfalso; omega)
            · skip
              refine xv_iconst hX (v := nI 1) dc_MD_names_59 (by decide) (rfl : _ = 60) ?_
              refine xv_goto hX (pq := 64) dc_MD_names_60 (by decide) ?_
              refine xv_putz hX fl_MD_34 rfl rfl (by decide) (by decide) dc_MD_names_64 (rfl : _ = 67) ?_
              refine xv_iload hX 4 dc_MD_names_67 rfl (rfl : _ = 69) ?_
              refine xv_reti hX hR rfl dc_MD_names_69 ?_
              obtain ⟨a1, a2, a3⟩ := md_wr (M := Mk) (v := 1) hIk (by decide)
              refine ⟨a1, hF.tt (a2.x.up (by decide)), k, rfl, hk7, mz_O2 hO ?_ ?_⟩
              · by_cases h7 : Mk 277 7 = 0
                · rw [md_s0 h7] at hO ⊢
                  rcases hO with ⟨h, -⟩ | ⟨i, _, h, hie, _⟩
                  · cases h
                  · cases h
                    exact Or.inr (by congr 1; omega)
                · exact Or.inl (md_s1 h7)
              · rw [a3, md_ss]
                repeat' split
                all_goals first
                  | rfl
                  | (exfalso; omega)
      · skip
        refine xv_aload_n hX 0 dc_MD_names_17 rfl (rfl : _ = 18) ?_
        refine xv_geti hX fl_MD_38 rfl rfl (by decide) (v := Mk 277 6) rfl dc_MD_names_18 (rfl : _ = 21) ?_
        refine xv_iload_n hX 3 dc_MD_names_21 rfl (rfl : _ = 22) ?_
        refine xv_icmp_ge hX (nI_toInt (by omega)) (nI_toInt (by omega)) (tgt := 39) (pq := 25) dc_MD_names_22 (by decide) rfl (fun c22 => ?_) (fun c22 => ?_)
        · skip
          refine xv_aload_n hX 0 dc_MD_names_39 rfl (rfl : _ = 40) ?_
          refine xv_aload_n hX 0 dc_MD_names_40 rfl (rfl : _ = 41) ?_
          refine xv_geti hX fl_MD_34 rfl rfl (by decide) (v := Mk 277 7) rfl dc_MD_names_41 (rfl : _ = 44) ?_
          refine xv_if_ne hX (nI_toInt (by omega)) (tgt := 59) (pq := 47) dc_MD_names_44 (by decide) rfl (fun c44 => ?_) (fun c44 => ?_)
          · skip
            refine xv_iconst hX (v := nI 1) dc_MD_names_59 (by decide) (rfl : _ = 60) ?_
            refine xv_goto hX (pq := 64) dc_MD_names_60 (by decide) ?_
            refine xv_putz hX fl_MD_34 rfl rfl (by decide) (by decide) dc_MD_names_64 (rfl : _ = 67) ?_
            refine xv_iload hX 4 dc_MD_names_67 rfl (rfl : _ = 69) ?_
            refine xv_reti hX hR rfl dc_MD_names_69 ?_
            obtain ⟨a1, a2, a3⟩ := md_wr (M := Mk) (v := 1) hIk (by decide)
            refine ⟨a1, hF.tt (a2.x.up (by decide)), k, rfl, hk7, mz_O2 hO ?_ ?_⟩
            · by_cases h7 : Mk 277 7 = 0
              · rw [md_s0 h7] at hO ⊢
                rcases hO with ⟨h, -⟩ | ⟨i, _, h, hie, _⟩
                · cases h
                · cases h
                  exact Or.inr (by congr 1; omega)
              · exact Or.inl (md_s1 h7)
            · rw [a3, md_ss]
              repeat' split
              all_goals first
                | rfl
                | (exfalso; omega)
          · skip
            refine xv_iload hX 4 dc_MD_names_47 rfl (rfl : _ = 49) ?_
            refine xv_iconst hX (v := nI 1) dc_MD_names_49 (by decide) (rfl : _ = 50) ?_
            refine xv_icmp_lt hX (nI_toInt (by omega)) (show (nI 1).toInt = 1 by decide) (tgt := 59) (pq := 53) dc_MD_names_50 (by decide) rfl (fun c50 => ?_) (fun c50 => ?_)
            · skip
              refine xv_iconst hX (v := nI 1) dc_MD_names_59 (by decide) (rfl : _ = 60) ?_
              refine xv_goto hX (pq := 64) dc_MD_names_60 (by decide) ?_
              refine xv_putz hX fl_MD_34 rfl rfl (by decide) (by decide) dc_MD_names_64 (rfl : _ = 67) ?_
              refine xv_iload hX 4 dc_MD_names_67 rfl (rfl : _ = 69) ?_
              refine xv_reti hX hR rfl dc_MD_names_69 ?_
              obtain ⟨a1, a2, a3⟩ := md_wr (M := Mk) (v := 1) hIk (by decide)
              refine ⟨a1, hF.tt (a2.x.up (by decide)), k, rfl, hk7, mz_O2 hO ?_ ?_⟩
              · by_cases h7 : Mk 277 7 = 0
                · rw [md_s0 h7] at hO ⊢
                  rcases hO with ⟨h, -⟩ | ⟨i, _, h, hie, _⟩
                  · cases h
                  · cases h
                    exact Or.inr (by congr 1; omega)
                · exact Or.inl (md_s1 h7)
              · rw [a3, md_ss]
                repeat' split
                all_goals first
                  | rfl
                  | (exfalso; omega)
            · skip
              refine xv_iload hX 4 dc_MD_names_53 rfl (rfl : _ = 55) ?_
              refine xv_iconst hX (v := nI 3) dc_MD_names_55 (by decide) (rfl : _ = 56) ?_
              refine xv_icmp_le hX (nI_toInt (by omega)) (show (nI 3).toInt = 3 by decide) (tgt := 63) (pq := 59) dc_MD_names_56 (by decide) rfl (fun c56 => ?_) (fun c56 => ?_)
              · skip
                refine xv_iconst hX (v := nI 0) dc_MD_names_63 (by decide) (rfl : _ = 64) ?_
                refine xv_putz hX fl_MD_34 rfl rfl (by decide) (by decide) dc_MD_names_64 (rfl : _ = 67) ?_
                refine xv_iload hX 4 dc_MD_names_67 rfl (rfl : _ = 69) ?_
                refine xv_reti hX hR rfl dc_MD_names_69 ?_
                obtain ⟨a1, a2, a3⟩ := md_wr (M := Mk) (v := 0) hIk (by decide)
                refine ⟨a1, hF.tt (a2.x.up (by decide)), k, rfl, hk7, mz_O2 hO ?_ ?_⟩
                · by_cases h7 : Mk 277 7 = 0
                  · rw [md_s0 h7] at hO ⊢
                    rcases hO with ⟨h, -⟩ | ⟨i, _, h, hie, _⟩
                    · cases h
                    · cases h
                      exact Or.inr (by congr 1; omega)
                  · exact Or.inl (md_s1 h7)
                · rw [a3, md_ss]
                  repeat' split
                  all_goals first
                    | rfl
                    | (exfalso; omega)
              · skip
                refine xv_iconst hX (v := nI 1) dc_MD_names_59 (by decide) (rfl : _ = 60) ?_
                refine xv_goto hX (pq := 64) dc_MD_names_60 (by decide) ?_
                refine xv_putz hX fl_MD_34 rfl rfl (by decide) (by decide) dc_MD_names_64 (rfl : _ = 67) ?_
                refine xv_iload hX 4 dc_MD_names_67 rfl (rfl : _ = 69) ?_
                refine xv_reti hX hR rfl dc_MD_names_69 ?_
                obtain ⟨a1, a2, a3⟩ := md_wr (M := Mk) (v := 1) hIk (by decide)
                refine ⟨a1, hF.tt (a2.x.up (by decide)), k, rfl, hk7, mz_O2 hO ?_ ?_⟩
                · by_cases h7 : Mk 277 7 = 0
                  · rw [md_s0 h7] at hO ⊢
                    rcases hO with ⟨h, -⟩ | ⟨i, _, h, hie, _⟩
                    · cases h
                    · cases h
                      exact Or.inr (by congr 1; omega)
                  · exact Or.inl (md_s1 h7)
                · rw [a3, md_ss]
                  repeat' split
                  all_goals first
                    | rfl
                    | (exfalso; omega)
        · skip
          refine xv_aload_n hX 0 dc_MD_names_25 rfl (rfl : _ = 26) ?_
          refine xv_iload_n hX 3 dc_MD_names_26 rfl (rfl : _ = 27) ?_
          refine xv_callv hX (As := [.int (nI e)]) (rest := []) (ct_MD_name _ Y Mk e hIk (by omega)) ml_MD_81 li_MD_name rfl (by decide) rfl rfl rfl (by decide) ⟨by decide, by decide⟩ ⟨Nat.le_refl _, Nat.le_refl _⟩ (Nat.le_of_ble_eq_true rfl) dc_MD_names_27 (rfl : _ = 30) (fun M27 p27 => ?_)
          obtain ⟨i27, f27, -, -, -, h27⟩ := p27
          have hsk : md_s Mk = some (Mk 277 6) := md_s0 (by omega)
          rw [bk, hsk] at h27
          rw [hsk] at hO
          have hO9 := mz_O1 hO (by omega) h27
          have hx9 : M27 277 7 = 0 → Mk 277 6 + 2 ≤ M27 277 6 ∧ M27 277 6 ≤ e := by
            intro h7
            rw [md_s0 h7] at h27
            rcases h27 with ⟨h, -⟩ | ⟨x, j, h, hj, -⟩
            · cases h
            · cases hj
              exact ps_name_some h
          refine xv_iload hX 4 dc_MD_names_30 rfl (rfl : _ = 32) ?_
          refine xv_iconst hX (v := nI 1) dc_MD_names_32 (by decide) (rfl : _ = 33) ?_
          refine xv_iadd hX dc_MD_names_33 (nI_add k 1) (rfl : _ = 34) ?_
          refine xv_istore hX [1, 2, 3, 4, 0] dc_MD_names_34 (by decide) (L' := [(0, .ref (Y.2.2.2 277)), (1, .int (nI tag)), (2, .int (nI l)), (3, .int (nI e)), (4, .int (nI (k + 1)))]) rfl (rfl : _ = 36) ?_
          refine xv_goto hX (pq := 10) dc_MD_names_36 (by decide) ?_
          refine xv_sub (L' := [(0, .ref (Y.2.2.2 277)), (1, .int (nI tag)), (2, .int (nI l)), (3, .int (nI e)), (4, .int (nI (k + 1)))]) [0, 1, 2, 3, 4] rfl ?_
          exact ih10 M27 (k + 1) i27 (by omega) (fun h => by have := hx9 h; omega) hO9 (hF.tt f27.x) (by rw [if_pos (show Mk 277 7 = 0 by omega)] at hm10; split <;> omega)
  refine xv_sub (L' := [(0, .ref (Y.2.2.2 277)), (1, .int (nI tag)), (2, .int (nI l)), (3, .int (nI e)), (4, .int (nI 0))]) [0, 1, 2, 3, 4] rfl ?_
  exact lpN _ M3 0 i4 (by decide) (fun _ => by omega) (mz_O0 hen (fun i hi => by rw [md_s0 htg.1] at hi; cases hi; exact htg.2)) (f4.x.up (by decide)) (Nat.lt_succ_self _)
