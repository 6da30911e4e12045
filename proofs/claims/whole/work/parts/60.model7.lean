/-! the reference: bounds -/
/-- the fields of a list after it was perhaps read -/
theorem md_lst {b : Nat → Nat} {tag l i : Nat} {s1 : Option Nat} {n f t : Nat} {k : Nat} (ht : i < l ∧ b i = tag) (hl : l ≤ 1440) (h : mo_ok (mo_run (ps_list b tag) l (some i)) s1 (fun x => x.length = k)) (hn : n = k) (hf : f = i + 2) (hs : ∀ j, s1 = some j → t = j) : mo_ok (mo_run (ps_list b tag) l (some i)) s1 (fun x => md_l b n f t x) := by
  rcases h with h | ⟨x, j, h, hj, hx⟩
  · exact Or.inl h
  · refine Or.inr ⟨x, j, h, hj, by omega, fun _ => ?_⟩
    simp only [mo_run] at h
    obtain ⟨a, b', c, d⟩ := ps_lst_at ht h
    rw [hs j hj, hf]
    exact ⟨a, b', by omega⟩

set_option maxRecDepth 100000 in
set_option maxHeartbeats 4000000 in
theorem ct_MD_bounds (ln : Launch) (Y : xw_Y) (M : xm_M) (l : Nat) (hI : md_I M) (hl : l ≤ 1440) (hp0 : M 277 32 = 0) (hx0 : M 277 35 = 0) : xc_v ln qm_MD_bounds 4 Y [.ref (Y.2.2.2 277), .int (nI l)] M (fun M1 => md_I M1 ∧ md_X [6, 7, 16, 17, 18, 32, 33, 34, 35, 36, 37] M M1 ∧ mo_ok (mo_run (ps_bounds (M 278)) l (md_s M)) (md_s M1) (fun z => md_l (M 278) (M1 277 32) (M1 277 33) (M1 277 34) z.1 ∧ md_l (M 278) (M1 277 35) (M1 277 36) (M1 277 37) z.2)) := by
  refine xc_v.mk rfl (by decide) (Nat.le_of_ble_eq_true rfl) ?_
  intro X hXl hX hR
  subst hXl
  have hX : xv_ok X Y prog_9_method_18_code "CertificatePathModel" 3 (xc_rm 4) := hX
  show xv_V X Y 3 0 0 xw_lk xw_N M 0 [(0, .ref (Y.2.2.2 277)), (1, .int (nI l))] []
  obtain ⟨k6, k7, k8⟩ := id hI
  refine xv_aload_n hX 0 dc_MD_bounds_0 rfl (rfl : _ = 1) ?_
  refine xv_bipush hX (v := nI 48) dc_MD_bounds_1 (by decide) (rfl : _ = 3) ?_
  refine xv_iload_n hX 1 dc_MD_bounds_3 rfl (rfl : _ = 4) ?_
  refine xv_calli hX (As := [.int (nI 48), .int (nI l)]) (rest := []) (ct_MD_enter _ Y M 48 l hI hl (by decide)) ml_MD_45 li_MD_enter rfl (by decide) rfl rfl rfl (by decide) ⟨by decide, by decide⟩ ⟨Nat.le_refl _, Nat.le_refl _⟩ (Nat.le_of_ble_eq_true rfl) dc_MD_bounds_4 (rfl : _ = 7) (fun r4 M4 p4 => ?_)
  obtain ⟨i4, f4, h4⟩ := p4
  obtain ⟨e, z4, hel, hen⟩ := mo_enter h4
  rw [z4]
  have b4 : M4 278 = M 278 := f4.1 278 (by decide)
  have z432 : M4 277 32 = 0 := by rw [f4.2 32 (by decide) (by decide)]; exact hp0
  have z435 : M4 277 35 = 0 := by rw [f4.2 35 (by decide) (by decide)]; exact hx0
  refine xv_istore_n hX [1, 2, 0] dc_MD_bounds_7 (by decide) (L' := [(0, .ref (Y.2.2.2 277)), (1, .int (nI l)), (2, .int (nI e))]) rfl (rfl : _ = 8) ?_
  have j49 : ∀ (Mp : xm_M) (ip : md_I Mp) (fp : md_X [6, 7, 16, 17, 18, 32, 33, 34, 35, 36, 37] M4 Mp) (hp8 : Mp 277 32 ≤ 800) (hp35 : Mp 277 35 = 0) (hp : mo_ok (mo_run (ps_list (M 278) 160) e (md_s M4)) (md_s Mp) (fun x => md_l (M 278) (Mp 277 32) (Mp 277 33) (Mp 277 34) x)), xv_V X Y 3 0 0 xw_lk xw_N Mp 49 [(0, .ref (Y.2.2.2 277)), (1, .int (nI l)), (2, .int (nI e))] [] := by
    intro Mp ip fp hp8 hp35 hp
    have bp : Mp 278 = M 278 := by rw [fp.1 278 (by decide), b4]
    have j90 : ∀ (Mx : xm_M) (ix : md_I Mx) (fx : md_X [6, 7, 16, 17, 18, 35, 36, 37] Mp Mx) (hx8 : Mx 277 35 ≤ 800) (hx : mo_ok (mo_run (ps_list (M 278) 161) e (md_s Mp)) (md_s Mx) (fun x => md_l (M 278) (Mx 277 35) (Mx 277 36) (Mx 277 37) x)), xv_V X Y 3 0 0 xw_lk xw_N Mx 90 [(0, .ref (Y.2.2.2 277)), (1, .int (nI l)), (2, .int (nI e))] [] := by
      intro Mx ix fx hx8 hx
      have kx7 := ix.2.1
      have z32 : Mx 277 32 = Mp 277 32 := fx.2 32 (by decide)
      refine xv_aload_n hX 0 dc_MD_bounds_90 rfl (rfl : _ = 91) ?_
      refine xv_aload_n hX 0 dc_MD_bounds_91 rfl (rfl : _ = 92) ?_
      refine xv_geti hX fl_MD_34 rfl rfl (by decide) (v := Mx 277 7) rfl dc_MD_bounds_92 (rfl : _ = 95) ?_
      refine xv_if_ne hX (nI_toInt (by omega)) (tgt := 110) (pq := 98) dc_MD_bounds_95 (by decide) rfl (fun c95 => ?_) (fun c95 => ?_)
      · skip
        refine xv_iconst hX (v := nI 1) dc_MD_bounds_110 (by decide) (rfl : _ = 111) ?_
        refine xv_goto hX (pq := 115) dc_MD_bounds_111 (by decide) ?_
        refine xv_putz hX fl_MD_34 rfl rfl (by decide) (by decide) dc_MD_bounds_115 (rfl : _ = 118) ?_
        refine xv_aload_n hX 0 dc_MD_bounds_118 rfl (rfl : _ = 119) ?_
        refine xv_iload_n hX 2 dc_MD_bounds_119 rfl (rfl : _ = 120) ?_
        refine xv_callv hX (As := [.int (nI e)]) (rest := []) (ct_MD_leave _ Y (xm_set Mx 277 7 1) e (md_wr (M := Mx) (v := 1) ix (by decide)).1 (by omega)) ml_MD_77 li_MD_leave rfl (by decide) rfl rfl rfl (by decide) ⟨by decide, by decide⟩ ⟨Nat.le_refl _, Nat.le_refl _⟩ (Nat.le_of_ble_eq_true rfl) dc_MD_bounds_120 (rfl : _ = 123) (fun M120 p120 => ?_)
        obtain ⟨i120, f120, h120⟩ := p120
        obtain ⟨a1, a2, a3⟩ := md_wr (M := Mx) (v := 1) ix (by decide)
        refine xv_retv hX hR dc_MD_bounds_123 ?_
        refine ⟨i120, (md_X.tt (f4.x.up (by decide)) (md_X.tt (fp.up (by decide)) (md_X.tt (fx.up (by decide)) (md_X.tt (a2.x.up (by decide)) (f120.x.up (by decide)))))), ?_⟩
        rw [h120]
        refine (mo_in hen (mo_bnd hp hx (n := Mp 277 32) (m := Mx 277 35) (fun x h => h.1) (fun x h => h.1) ?_)).imp (fun z hz => ?_)
        · rw [a3, md_ss Mx]
          repeat' split
          all_goals first
            | rfl
            | (exfalso; omega)
        · have q : ∀ j, j ≠ 6 → j ≠ 7 → M120 277 j = Mx 277 j := fun j a b => by rw [f120.2 j a b, a2.2 j a b]
          rw [q 32 (by decide) (by decide), q 33 (by decide) (by decide), q 34 (by decide) (by decide), q 35 (by decide) (by decide), q 36 (by decide) (by decide), q 37 (by decide) (by decide), z32, fx.2 33 (by decide), fx.2 34 (by decide)]
          exact hz
      · skip
        refine xv_aload_n hX 0 dc_MD_bounds_98 rfl (rfl : _ = 99) ?_
        refine xv_geti hX fl_MD_90 rfl rfl (by decide) (v := Mp 277 32) z32 dc_MD_bounds_99 (rfl : _ = 102) ?_
        refine xv_aload_n hX 0 dc_MD_bounds_102 rfl (rfl : _ = 103) ?_
        refine xv_geti hX fl_MD_99 rfl rfl (by decide) (v := Mx 277 35) rfl dc_MD_bounds_103 (rfl : _ = 106) ?_
        refine xv_iadd hX dc_MD_bounds_106 (nI_add (Mp 277 32) (Mx 277 35)) (rfl : _ = 107) ?_
        refine xv_if_ne hX (nI_toInt (by omega)) (tgt := 114) (pq := 110) dc_MD_bounds_107 (by decide) rfl (fun c107 => ?_) (fun c107 => ?_)
        · skip
          refine xv_iconst hX (v := nI 0) dc_MD_bounds_114 (by decide) (rfl : _ = 115) ?_
          refine xv_putz hX fl_MD_34 rfl rfl (by decide) (by decide) dc_MD_bounds_115 (rfl : _ = 118) ?_
          refine xv_aload_n hX 0 dc_MD_bounds_118 rfl (rfl : _ = 119) ?_
          refine xv_iload_n hX 2 dc_MD_bounds_119 rfl (rfl : _ = 120) ?_
          refine xv_callv hX (As := [.int (nI e)]) (rest := []) (ct_MD_leave _ Y (xm_set Mx 277 7 0) e (md_wr (M := Mx) (v := 0) ix (by decide)).1 (by omega)) ml_MD_77 li_MD_leave rfl (by decide) rfl rfl rfl (by decide) ⟨by decide, by decide⟩ ⟨Nat.le_refl _, Nat.le_refl _⟩ (Nat.le_of_ble_eq_true rfl) dc_MD_bounds_120 (rfl : _ = 123) (fun M120 p120 => ?_)
          obtain ⟨i120, f120, h120⟩ := p120
          obtain ⟨a1, a2, a3⟩ := md_wr (M := Mx) (v := 0) ix (by decide)
          refine xv_retv hX hR dc_MD_bounds_123 ?_
          refine ⟨i120, (md_X.tt (f4.x.up (by decide)) (md_X.tt (fp.up (by decide)) (md_X.tt (fx.up (by decide)) (md_X.tt (a2.x.up (by decide)) (f120.x.up (by decide)))))), ?_⟩
          rw [h120]
          refine (mo_in hen (mo_bnd hp hx (n := Mp 277 32) (m := Mx 277 35) (fun x h => h.1) (fun x h => h.1) ?_)).imp (fun z hz => ?_)
          · rw [a3, md_ss Mx]
            repeat' split
            all_goals first
              | rfl
              | (exfalso; omega)
          · have q : ∀ j, j ≠ 6 → j ≠ 7 → M120 277 j = Mx 277 j := fun j a b => by rw [f120.2 j a b, a2.2 j a b]
            rw [q 32 (by decide) (by decide), q 33 (by decide) (by decide), q 34 (by decide) (by decide), q 35 (by decide) (by decide), q 36 (by decide) (by decide), q 37 (by decide) (by decide), z32, fx.2 33 (by decide), fx.2 34 (by decide)]
            exact hz
        · skip
          refine xv_iconst hX (v := nI 1) dc_MD_bounds_110 (by decide) (rfl : _ = 111) ?_
          refine xv_goto hX (pq := 115) dc_MD_bounds_111 (by decide) ?_
          refine xv_putz hX fl_MD_34 rfl rfl (by decide) (by decide) dc_MD_bounds_115 (rfl : _ = 118) ?_
          refine xv_aload_n hX 0 dc_MD_bounds_118 rfl (rfl : _ = 119) ?_
          refine xv_iload_n hX 2 dc_MD_bounds_119 rfl (rfl : _ = 120) ?_
          refine xv_callv hX (As := [.int (nI e)]) (rest := []) (ct_MD_leave _ Y (xm_set Mx 277 7 1) e (md_wr (M := Mx) (v := 1) ix (by decide)).1 (by omega)) ml_MD_77 li_MD_leave rfl (by decide) rfl rfl rfl (by decide) ⟨by decide, by decide⟩ ⟨Nat.le_refl _, Nat.le_refl _⟩ (Nat.le_of_ble_eq_true rfl) dc_MD_bounds_120 (rfl : _ = 123) (fun M120 p120 => ?_)
          obtain ⟨i120, f120, h120⟩ := p120
          obtain ⟨a1, a2, a3⟩ := md_wr (M := Mx) (v := 1) ix (by decide)
          refine xv_retv hX hR dc_MD_bounds_123 ?_
          refine ⟨i120, (md_X.tt (f4.x.up (by decide)) (md_X.tt (fp.up (by decide)) (md_X.tt (fx.up (by decide)) (md_X.tt (a2.x.up (by decide)) (f120.x.up (by decide)))))), ?_⟩
          rw [h120]
          refine (mo_in hen (mo_bnd hp hx (n := Mp 277 32) (m := Mx 277 35) (fun x h => h.1) (fun x h => h.1) ?_)).imp (fun z hz => ?_)
          · rw [a3, md_ss Mx]
            repeat' split
            all_goals first
              | rfl
              | (exfalso; omega)
          · have q : ∀ j, j ≠ 6 → j ≠ 7 → M120 277 j = Mx 277 j := fun j a b => by rw [f120.2 j a b, a2.2 j a b]
            rw [q 32 (by decide) (by decide), q 33 (by decide) (by decide), q 34 (by decide) (by decide), q 35 (by decide) (by decide), q 36 (by decide) (by decide), q 37 (by decide) (by decide), z32, fx.2 33 (by decide), fx.2 34 (by decide)]
            exact hz
    refine xv_aload_n hX 0 dc_MD_bounds_49 rfl (rfl : _ = 50) ?_
    refine xv_sipush hX (v := nI 161) dc_MD_bounds_50 (by decide) (rfl : _ = 53) ?_
    refine xv_iload_n hX 2 dc_MD_bounds_53 rfl (rfl : _ = 54) ?_
    refine xv_calli hX (As := [.int (nI 161), .int (nI e)]) (rest := []) (ct_MD_tagged _ Y Mp 161 e ip (by omega) (by decide)) ml_MD_41 li_MD_tagged rfl (by decide) rfl rfl rfl (by decide) ⟨by decide, by decide⟩ ⟨Nat.le_refl _, Nat.le_refl _⟩ (Nat.le_of_ble_eq_true rfl) dc_MD_bounds_54 (rfl : _ = 57) (fun r54 M54 p54 => ?_)
    obtain ⟨pM54, t54, pr54, pt54, pi54⟩ := p54
    rw [pM54, pr54]
    refine xv_if_eq hX (nI_toInt (by omega)) (tgt := 90) (pq := 60) dc_MD_bounds_57 (by decide) rfl (fun c57 => ?_) (fun c57 => ?_)
    · skip
      refine xv_sub (L' := [(0, .ref (Y.2.2.2 277)), (1, .int (nI l)), (2, .int (nI e))]) [0, 1, 2] rfl ?_
      exact j90 Mp ip (md_X.rf _ _) (by omega) ((mo_lst0 (b := M 278) (tag := 161) (l := e) (s := md_s Mp) (fun i hi z => by obtain ⟨q7, q6⟩ := md_g hi; rw [← q6] at z; exact absurd (pi54.mpr ⟨q7, by rw [bp]; exact z⟩) (by omega))).imp (fun x hx => by rw [hx]; exact ⟨by rw [hp35]; rfl, fun z => absurd rfl z⟩))
    · skip
      refine xv_aload_n hX 0 dc_MD_bounds_60 rfl (rfl : _ = 61) ?_
      refine xv_aload_n hX 0 dc_MD_bounds_61 rfl (rfl : _ = 62) ?_
      refine xv_geti hX fl_MD_38 rfl rfl (by decide) (v := Mp 277 6) rfl dc_MD_bounds_62 (rfl : _ = 65) ?_
      refine xv_iconst hX (v := nI 2) dc_MD_bounds_65 (by decide) (rfl : _ = 66) ?_
      refine xv_iadd hX dc_MD_bounds_66 (nI_add (Mp 277 6) 2) (rfl : _ = 67) ?_
      refine xv_puti hX fl_MD_96 rfl rfl (by decide) dc_MD_bounds_67 (rfl : _ = 70) ?_
      refine xv_aload_n hX 0 dc_MD_bounds_70 rfl (rfl : _ = 71) ?_
      refine xv_aload_n hX 0 dc_MD_bounds_71 rfl (rfl : _ = 72) ?_
      refine xv_sipush hX (v := nI 161) dc_MD_bounds_72 (by decide) (rfl : _ = 75) ?_
      refine xv_iload_n hX 2 dc_MD_bounds_75 rfl (rfl : _ = 76) ?_
      refine xv_calli hX (As := [.int (nI 161), .int (nI e)]) (rest := [.ref (Y.2.2.2 277)]) (ct_MD_names _ Y (xm_set Mp 277 36 (Mp 277 6 + 2)) 161 e (md_put (by decide) (by decide) ip).1 (by omega) (by decide) (by rw [xm_nk (by decide), xm_nk (by decide), xm_oth (by decide)]; exact pi54.mp (by omega))) ml_MD_87 li_MD_names rfl (by decide) rfl rfl rfl (by decide) ⟨by decide, by decide⟩ ⟨Nat.le_refl _, Nat.le_refl _⟩ (Nat.le_of_ble_eq_true rfl) dc_MD_bounds_76 (rfl : _ = 79) (fun r76 M76 p76 => ?_)
      obtain ⟨i76, f76, n, z76, hn8, h76⟩ := p76
      rw [z76]
      rw [(md_put (M := Mp) (k := 36) (v := Mp 277 6 + 2) (by decide) (by decide) ip).2, xm_oth (by decide), bp] at h76
      refine xv_puti hX fl_MD_99 rfl rfl (by decide) dc_MD_bounds_79 (rfl : _ = 82) ?_
      refine xv_aload_n hX 0 dc_MD_bounds_82 rfl (rfl : _ = 83) ?_
      refine xv_aload_n hX 0 dc_MD_bounds_83 rfl (rfl : _ = 84) ?_
      refine xv_geti hX fl_MD_38 rfl rfl (by decide) (v := M76 277 6) (xm_nk (by decide)) dc_MD_bounds_84 (rfl : _ = 87) ?_
      refine xv_puti hX fl_MD_102 rfl rfl (by decide) dc_MD_bounds_87 (rfl : _ = 90) ?_
      have htg := pi54.mp (by omega)
      rw [bp] at htg
      obtain ⟨iQ, oQ⟩ := md_put (M := M76) (k := 35) (v := n) (by decide) (by decide) i76
      obtain ⟨iR, oR⟩ := md_put (M := (xm_set M76 277 35 n)) (k := 37) (v := M76 277 6) (by decide) (by decide) iQ
      refine xv_sub (L' := [(0, .ref (Y.2.2.2 277)), (1, .int (nI l)), (2, .int (nI e))]) [0, 1, 2] rfl ?_
      exact j90 (xm_set (xm_set M76 277 35 n) 277 37 (M76 277 6)) iR (md_X.tt ((md_X.set Mp 36 (Mp 277 6 + 2)).up (by decide)) (md_X.tt (f76.up (by decide)) (md_X.tt ((md_X.set M76 35 n).up (by decide)) ((md_X.set (xm_set M76 277 35 n) 37 (M76 277 6)).up (by decide))))) (by rw [xm_nk (by decide), xm_eq]; omega) (by rw [oR, oQ]; rw [md_s0 htg.1] at h76 ⊢; exact md_lst htg.2 (by omega) h76 (by rw [xm_nk (by decide), xm_eq]) (by rw [xm_nk (by decide), xm_nk (by decide), f76.2 36 (by decide), xm_eq]) (fun j hj => by rw [xm_eq]; exact (md_g hj).2))
  refine xv_aload_n hX 0 dc_MD_bounds_8 rfl (rfl : _ = 9) ?_
  refine xv_sipush hX (v := nI 160) dc_MD_bounds_9 (by decide) (rfl : _ = 12) ?_
  refine xv_iload_n hX 2 dc_MD_bounds_12 rfl (rfl : _ = 13) ?_
  refine xv_calli hX (As := [.int (nI 160), .int (nI e)]) (rest := []) (ct_MD_tagged _ Y M4 160 e i4 (by omega) (by decide)) ml_MD_41 li_MD_tagged rfl (by decide) rfl rfl rfl (by decide) ⟨by decide, by decide⟩ ⟨Nat.le_refl _, Nat.le_refl _⟩ (Nat.le_of_ble_eq_true rfl) dc_MD_bounds_13 (rfl : _ = 16) (fun r13 M13 p13 => ?_)
  obtain ⟨pM, t, pr, pt, pi⟩ := p13
  rw [pM, pr]
  rw [b4] at pi
  refine xv_if_eq hX (nI_toInt (by omega)) (tgt := 49) (pq := 19) dc_MD_bounds_16 (by decide) rfl (fun c16 => ?_) (fun c16 => ?_)
  · skip
    refine xv_sub (L' := [(0, .ref (Y.2.2.2 277)), (1, .int (nI l)), (2, .int (nI e))]) [0, 1, 2] rfl ?_
    exact j49 M4 i4 (md_X.rf _ _) (by omega) (by omega) ((mo_lst0 (b := M 278) (tag := 160) (l := e) (s := md_s M4) (fun i hi z => by obtain ⟨q7, q6⟩ := md_g hi; rw [← q6] at z; exact absurd (pi.mpr ⟨q7, z⟩) (by omega))).imp (fun x hx => by rw [hx]; exact ⟨by rw [z432]; rfl, fun z => absurd rfl z⟩))
  · skip
    refine xv_aload_n hX 0 dc_MD_bounds_19 rfl (rfl : _ = 20) ?_
    refine xv_aload_n hX 0 dc_MD_bounds_20 rfl (rfl : _ = 21) ?_
    refine xv_geti hX fl_MD_38 rfl rfl (by decide) (v := M4 277 6) rfl dc_MD_bounds_21 (rfl : _ = 24) ?_
    refine xv_iconst hX (v := nI 2) dc_MD_bounds_24 (by decide) (rfl : _ = 25) ?_
    refine xv_iadd hX dc_MD_bounds_25 (nI_add (M4 277 6) 2) (rfl : _ = 26) ?_
    refine xv_puti hX fl_MD_84 rfl rfl (by decide) dc_MD_bounds_26 (rfl : _ = 29) ?_
    refine xv_aload_n hX 0 dc_MD_bounds_29 rfl (rfl : _ = 30) ?_
    refine xv_aload_n hX 0 dc_MD_bounds_30 rfl (rfl : _ = 31) ?_
    refine xv_sipush hX (v := nI 160) dc_MD_bounds_31 (by decide) (rfl : _ = 34) ?_
    refine xv_iload_n hX 2 dc_MD_bounds_34 rfl (rfl : _ = 35) ?_
    refine xv_calli hX (As := [.int (nI 160), .int (nI e)]) (rest := [.ref (Y.2.2.2 277)]) (ct_MD_names _ Y (xm_set M4 277 33 (M4 277 6 + 2)) 160 e (md_put (by decide) (by decide) i4).1 (by omega) (by decide) (by rw [xm_nk (by decide), xm_nk (by decide), xm_oth (by decide), b4]; exact pi.mp (by omega))) ml_MD_87 li_MD_names rfl (by decide) rfl rfl rfl (by decide) ⟨by decide, by decide⟩ ⟨Nat.le_refl _, Nat.le_refl _⟩ (Nat.le_of_ble_eq_true rfl) dc_MD_bounds_35 (rfl : _ = 38) (fun r35 M35 p35 => ?_)
    obtain ⟨i35, f35, n, z35, hn8, h35⟩ := p35
    rw [z35]
    rw [(md_put (M := M4) (k := 33) (v := M4 277 6 + 2) (by decide) (by decide) i4).2, xm_oth (by decide), b4] at h35
    refine xv_puti hX fl_MD_90 rfl rfl (by decide) dc_MD_bounds_38 (rfl : _ = 41) ?_
    refine xv_aload_n hX 0 dc_MD_bounds_41 rfl (rfl : _ = 42) ?_
    refine xv_aload_n hX 0 dc_MD_bounds_42 rfl (rfl : _ = 43) ?_
    refine xv_geti hX fl_MD_38 rfl rfl (by decide) (v := M35 277 6) (xm_nk (by decide)) dc_MD_bounds_43 (rfl : _ = 46) ?_
    refine xv_puti hX fl_MD_93 rfl rfl (by decide) dc_MD_bounds_46 (rfl : _ = 49) ?_
    have htg := pi.mp (by omega)
    obtain ⟨iQ, oQ⟩ := md_put (M := M35) (k := 32) (v := n) (by decide) (by decide) i35
    obtain ⟨iR, oR⟩ := md_put (M := (xm_set M35 277 32 n)) (k := 34) (v := M35 277 6) (by decide) (by decide) iQ
    refine xv_sub (L' := [(0, .ref (Y.2.2.2 277)), (1, .int (nI l)), (2, .int (nI e))]) [0, 1, 2] rfl ?_
    exact j49 (xm_set (xm_set M35 277 32 n) 277 34 (M35 277 6)) iR (md_X.tt ((md_X.set M4 33 (M4 277 6 + 2)).up (by decide)) (md_X.tt (f35.up (by decide)) (md_X.tt ((md_X.set M35 32 n).up (by decide)) ((md_X.set (xm_set M35 277 32 n) 34 (M35 277 6)).up (by decide))))) (by rw [xm_nk (by decide), xm_eq]; omega) (by rw [xm_nk (by decide), xm_nk (by decide), f35.2 35 (by decide), xm_nk (by decide)]; exact z435) (by rw [oR, oQ]; rw [md_s0 htg.1] at h35 ⊢; exact md_lst htg.2 (by omega) h35 (by rw [xm_nk (by decide), xm_eq]) (by rw [xm_nk (by decide), xm_nk (by decide), f35.2 33 (by decide), xm_eq]) (fun j hj => by rw [xm_eq]; exact (md_g hj).2))
