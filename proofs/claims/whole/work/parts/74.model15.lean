/-! the reference: check -/
theorem bk_stop {As : Nat → ab_T} {P : Nat → Nat} {len : Nat} {T : Int} {a p km ke : Nat} {hn : ps_N} {rest : Int} {w : Nat} (hp : p < len) (h : bk_P As P len p km ke hn T a rest w) (hw : w ≠ 0) : ab_run As P len T a (len - p) p km ke hn rest (16 * p + w) := by
  obtain ⟨n, e⟩ : ∃ n, len - p = n + 1 := ⟨len - p - 1, by omega⟩
  rw [e]
  obtain ⟨v, h1, h2⟩ := h
  refine ⟨v, w, h1, ?_, Or.inl ⟨hw, rfl⟩⟩
  rcases h2 with h2 | ⟨h2, ⟨h3, h4⟩ | ⟨h3, h4⟩⟩
  · exact Or.inl h2
  · exact Or.inr ⟨h2, Or.inl ⟨by omega, h4⟩⟩
  · exact Or.inr ⟨h2, Or.inr ⟨by omega, h4⟩⟩
theorem bk_end {As : Nat → ab_T} {P : Nat → Nat} {len : Nat} {T : Int} {a p km ke : Nat} {hn : ps_N} {rest : Int} (hp : p + 1 = len) (h : bk_P As P len p km ke hn T a rest 0) : ab_run As P len T a (len - p) p km ke hn rest 0 := by
  have e : len - p = 0 + 1 := by omega
  rw [e]
  obtain ⟨v, h1, h2⟩ := h
  obtain ⟨r, hr⟩ := gk_rest_ex (ab_self (As (P p))) (ab_re (As (P p))) rest
  refine ⟨v, 0, h1, ?_, Or.inr ⟨rfl, r, hr, rfl⟩⟩
  rcases h2 with h2 | ⟨h2, ⟨h3, h4⟩ | ⟨h3, h4⟩⟩
  · exact Or.inl h2
  · exact Or.inr ⟨h2, Or.inl ⟨rfl, h4⟩⟩
  · exact absurd hp h3
theorem bk_go {As : Nat → ab_T} {P : Nat → Nat} {len : Nat} {T : Int} {a p km ke : Nat} {hn : ps_N} {rest : Int} {r' : Int} {k : Nat} (hp : p + 1 < len) (h : bk_P As P len p km ke hn T a rest 0) (hr : gk_rest (ab_self (As (P p))) (ab_re (As (P p))) rest r') (g : ab_run As P len T a (len - (p + 1)) (p + 1) (As (P p)).1.2.2.2.2.1 (As (P p)).1.2.2.2.2.2 (As (P p)).1.2.2.2.1 r' k) : ab_run As P len T a (len - p) p km ke hn rest k := by
  have e : len - p = (len - (p + 1)) + 1 := by omega
  rw [e]
  obtain ⟨v, h1, h2⟩ := h
  refine ⟨v, 0, h1, ?_, Or.inr ⟨rfl, r', hr, g⟩⟩
  rcases h2 with h2 | ⟨h2, ⟨h3, h4⟩ | ⟨h3, h4⟩⟩
  · exact Or.inl h2
  · omega
  · exact Or.inr ⟨h2, Or.inr ⟨by omega, h4⟩⟩
def bk_K (b : Nat → Nat) (hn : ps_N) (M : xm_M) : Prop := (2 ≤ M 277 38 ∧ M 277 38 < 2147483648 ∧ M 277 39 ≤ 1000) ∧ ps_labels b (M 277 41) 4 (M 277 40) = some hn ∧ M 277 40 ≤ M 277 41 ∧ M 277 41 ≤ 1440 ∧ M 277 42 ≤ 6
theorem bk_QK {b : Nat → Nat} {A : ab_T} {rest : Int} {M1 : xm_M} (hV : ab_v A) (h : bk_Q b A rest M1) : bk_K b A.1.2.2.2.1 M1 := by
  obtain ⟨h1, h2, h3, h4, h5, h6, -⟩ := h
  obtain ⟨a1, a2⟩ := hV.1.2.2.2.2.1
  obtain ⟨-, a4⟩ := hV.1.2.2.2.2.2
  exact ⟨⟨by omega, by omega, by omega⟩, h3, h4, h5, h6⟩
theorem bk_take0 {b : Nat → Nat} {A : ab_T} {M2 M3 M4 : xm_M} {l : Nat} (hM : M3 = xm_set (xm_set (xm_set (xm_set M2 277 38 (M2 277 11)) 277 39 (M2 277 12)) 277 40 (M2 277 22)) 277 41 (M2 277 23)) (hM4 : M4 = xm_set M3 277 42 l) (hl : l ≤ 6) (hV : ab_v A) (hH : md_H b M2 A.1) : bk_K b A.1.2.2.2.1 M4 ∧ M4 277 38 = A.1.2.2.2.2.1 ∧ M4 277 39 = A.1.2.2.2.2.2 ∧ M4 277 42 = l := by
  obtain ⟨-, -, -, h4, h5, h6⟩ := hH
  obtain ⟨n1, -, n3, n4⟩ := h4
  have k38 : M4 277 38 = M2 277 11 := by rw [hM4, hM, xm_nk (by decide), xm_nk (by decide), xm_nk (by decide), xm_nk (by decide), xm_eq]
  have k39 : M4 277 39 = M2 277 12 := by rw [hM4, hM, xm_nk (by decide), xm_nk (by decide), xm_nk (by decide), xm_eq]
  have k40 : M4 277 40 = M2 277 22 := by rw [hM4, hM, xm_nk (by decide), xm_nk (by decide), xm_eq]
  have k41 : M4 277 41 = M2 277 23 := by rw [hM4, hM, xm_nk (by decide), xm_eq]
  have k42 : M4 277 42 = l := by rw [hM4, xm_eq]
  obtain ⟨a1, a2⟩ := hV.1.2.2.2.2.1
  obtain ⟨-, a4⟩ := hV.1.2.2.2.2.2
  refine ⟨⟨⟨by omega, by omega, by omega⟩, ?_, by omega, by omega, by omega⟩, k38.trans h5, k39.trans h6, k42⟩
  rw [k40, k41]
  exact n1

set_option maxRecDepth 100000 in
set_option maxHeartbeats 4000000 in
theorem ct_MD_check (ln : Launch) (Y : xw_Y) (M : xm_M) (i T u : Int32) (As : Nat → ab_T) (hG : md_G M As) (hl6 : M 277 5 ≤ 6) (hpa : ∀ q, q < M 277 5 → M 280 q < M 277 2) : xc_i ln qm_MD_check 12 Y [.ref (Y.2.2.2 277), .int i, .int T, .int u] M (fun r M1 => md_Y md_bl M M1 ∧ ((¬ ((0 ≤ i.toInt ∧ i.toInt < (M 277 2 : Nat)) ∧ M 277 5 ≠ 0 ∧ 0 ≤ u.toInt ∧ u.toInt ≤ 255) ∧ r = nI 4294967295) ∨ ∃ x a k, i = nI x ∧ x < M 277 2 ∧ M 277 5 ≠ 0 ∧ u = nI a ∧ a < 256 ∧ r = nI k ∧ k < 256 ∧ ab_run As (M 280) (M 277 5) T.toInt a (M 277 5) 0 (As x).1.2.2.2.2.1 (As x).1.2.2.2.2.2 (As x).1.2.2.2.1 (M 277 5 : Nat) k)) := by
  refine xc_i.mk .int rfl (by decide) (Nat.le_of_ble_eq_true rfl) ?_
  intro X hXl hX hR
  subst hXl
  have hX : xv_ok X Y prog_9_method_41_code "CertificatePathModel" 6 (xc_rm 12) := hX
  show xv_V X Y 6 0 0 xw_lk xw_N M 0 [(0, .ref (Y.2.2.2 277)), (1, .int i), (2, .int T), (3, .int u)] []
  obtain ⟨hk8, hby, hkp⟩ := id hG
  clear hkp
  refine xv_aload_n hX 0 dc_MD_check_0 rfl (rfl : _ = 1) ?_
  refine xv_iload_n hX 1 dc_MD_check_1 rfl (rfl : _ = 2) ?_
  refine xv_calli hX (As := [.int i]) (rest := []) (ct_MD_kept _ Y M i hk8) ml_MD_177 li_MD_kept rfl (by decide) rfl rfl rfl (by decide) ⟨by decide, by decide⟩ ⟨Nat.le_refl _, Nat.le_refl _⟩ (Nat.le_of_ble_eq_true rfl) dc_MD_check_2 (rfl : _ = 5) (fun r2 M2 p2 => ?_)
  obtain ⟨pM, t, pr, pt, pi⟩ := p2
  rw [pM, pr]
  refine xv_if_eq hX (nI_toInt (by omega)) (tgt := 34) (pq := 8) dc_MD_check_5 (by decide) rfl (fun c5 => ?_) (fun c5 => ?_)
  · skip
    refine xv_iconst hX (v := nI 4294967295) dc_MD_check_34 (by decide) (rfl : _ = 35) ?_
    refine xv_reti hX hR rfl dc_MD_check_35 ?_
    exact ⟨md_Y.rf _ _, Or.inl ⟨fun z => by omega, rfl⟩⟩
  · skip
    have hka := pi.mp (by omega)
    obtain ⟨x, hx, rfl⟩ := xi_of (x := i) (by omega)
    have tx : (nI x).toInt = (x : Int) := nI_toInt hx
    refine xv_aload_n hX 0 dc_MD_check_8 rfl (rfl : _ = 9) ?_
    refine xv_geti hX fl_MD_190 rfl rfl (by decide) (v := M 277 5) rfl dc_MD_check_9 (rfl : _ = 12) ?_
    refine xv_if_eq hX (nI_toInt (by omega)) (tgt := 34) (pq := 15) dc_MD_check_12 (by decide) rfl (fun c12 => ?_) (fun c12 => ?_)
    · skip
      refine xv_iconst hX (v := nI 4294967295) dc_MD_check_34 (by decide) (rfl : _ = 35) ?_
      refine xv_reti hX hR rfl dc_MD_check_35 ?_
      exact ⟨md_Y.rf _ _, Or.inl ⟨fun z => by omega, rfl⟩⟩
    · skip
      refine xv_iload_n hX 3 dc_MD_check_15 rfl (rfl : _ = 16) ?_
      refine xv_if_lt hX (rfl : (u).toInt = _) (tgt := 34) (pq := 19) dc_MD_check_16 (by decide) rfl (fun c16 => ?_) (fun c16 => ?_)
      · skip
        refine xv_iconst hX (v := nI 4294967295) dc_MD_check_34 (by decide) (rfl : _ = 35) ?_
        refine xv_reti hX hR rfl dc_MD_check_35 ?_
        exact ⟨md_Y.rf _ _, Or.inl ⟨fun z => by omega, rfl⟩⟩
      · skip
        refine xv_iload_n hX 3 dc_MD_check_19 rfl (rfl : _ = 20) ?_
        refine xv_sipush hX (v := nI 255) dc_MD_check_20 (by decide) (rfl : _ = 23) ?_
        refine xv_icmp_gt hX (rfl : (u).toInt = _) (show (nI 255).toInt = 255 by decide) (tgt := 34) (pq := 26) dc_MD_check_23 (by decide) rfl (fun c23 => ?_) (fun c23 => ?_)
        · skip
          refine xv_iconst hX (v := nI 4294967295) dc_MD_check_34 (by decide) (rfl : _ = 35) ?_
          refine xv_reti hX hR rfl dc_MD_check_35 ?_
          exact ⟨md_Y.rf _ _, Or.inl ⟨fun z => by omega, rfl⟩⟩
        · skip
          obtain ⟨a, ha, rfl⟩ := xi_of (x := u) (by omega)
          have ta : (nI a).toInt = (a : Int) := nI_toInt ha
          have ha : a < 256 := by omega
          have hl0 : M 277 5 ≠ 0 := by omega
          have hxx : x < M 277 2 := by omega
          refine xv_aload_n hX 0 dc_MD_check_26 rfl (rfl : _ = 27) ?_
          refine xv_iload_n hX 1 dc_MD_check_27 rfl (rfl : _ = 28) ?_
          refine xv_calli hX (As := [.int (nI x)]) (rest := []) (ct_MD_fetch _ Y M (nI x) As hG) ml_MD_183 li_MD_fetch rfl (by decide) rfl rfl rfl (by decide) ⟨by decide, by decide⟩ ⟨Nat.le_refl _, Nat.le_refl _⟩ (Nat.le_of_ble_eq_true rfl) dc_MD_check_28 (rfl : _ = 31) (fun r28 M28 p28 => ?_)
          obtain ⟨f28, h28⟩ := p28
          obtain ⟨hr28, hH28, -⟩ := md_fch hxx hk8 h28
          clear h28
          rw [hr28]
          refine xv_if_ne hX (show (nI 1).toInt = 1 by decide) (tgt := 36) (pq := 34) dc_MD_check_31 (by decide) rfl (fun c31 => ?_) (fun c31 => ?_)
          · skip
            refine xv_aload_n hX 0 dc_MD_check_36 rfl (rfl : _ = 37) ?_
            refine xv_callv hX (As := []) (rest := []) (ct_MD_takeKey _ Y M28) ml_MD_222 li_MD_takeKey rfl (by decide) rfl rfl rfl (by decide) ⟨by decide, by decide⟩ ⟨Nat.le_refl _, Nat.le_refl _⟩ (Nat.le_of_ble_eq_true rfl) dc_MD_check_37 (rfl : _ = 40) (fun M37 p37 => ?_)
            have F37 : md_Y md_bl M M37 := (f28.up (by decide)).tt (bk_tY p37)
            have e5 : M37 277 5 = M 277 5 := F37.2 5 (by decide)
            refine xv_aload_n hX 0 dc_MD_check_40 rfl (rfl : _ = 41) ?_
            refine xv_aload_n hX 0 dc_MD_check_41 rfl (rfl : _ = 42) ?_
            refine xv_geti hX fl_MD_190 rfl rfl (by decide) (v := M 277 5) e5 dc_MD_check_42 (rfl : _ = 45) ?_
            refine xv_puti hX fl_MD_219 rfl rfl (by decide) dc_MD_check_45 (rfl : _ = 48) ?_
            obtain ⟨M48, h48⟩ : ∃ M48, M48 = (xm_set M37 277 42 (M 277 5)) := ⟨_, rfl⟩
            rw [← h48]
            obtain ⟨K0, e38, e39, e42⟩ := bk_take0 p37 h48 hl6 (hG.v hxx) hH28
            have F48 : md_Y md_bl M M48 := by rw [h48]; exact F37.tt ((md_X.set _ 42 _).y.up (by decide))
            refine xv_iconst hX (v := nI 0) dc_MD_check_48 (by decide) (rfl : _ = 49) ?_
            refine xv_istore hX [1, 2, 3, 4, 0] dc_MD_check_49 (by decide) (L' := [(0, .ref (Y.2.2.2 277)), (1, .int (nI x)), (2, .int T), (3, .int (nI a)), (4, .int (nI 0))]) rfl (rfl : _ = 51) ?_
            have lp51 : ∀ (fu51 : Nat) (Mk : xm_M) (p : Nat) (hn : ps_N) (hF : md_Y md_bl M Mk) (hp : p ≤ M 277 5) (hkey : p < M 277 5 → bk_K (M 278) hn Mk) (hGo : ∀ k, ((p < M 277 5 ∧ ab_run As (M 280) (M 277 5) T.toInt a (M 277 5 - p) p (Mk 277 38) (Mk 277 39) hn (Mk 277 42 : Nat) k) ∨ (p = M 277 5 ∧ k = 0)) → ab_run As (M 280) (M 277 5) T.toInt a (M 277 5) 0 (As x).1.2.2.2.2.1 (As x).1.2.2.2.2.2 (As x).1.2.2.2.1 (M 277 5 : Nat) k), M 277 5 - p < fu51 → xv_V X Y 6 0 0 xw_lk xw_N Mk 51 [(0, .ref (Y.2.2.2 277)), (1, .int (nI x)), (2, .int T), (3, .int (nI a)), (4, .int (nI p))] [] := by
              intro n51
              induction n51 with
              | zero => intro Mk p hn hF hp hkey hGo hm51; exact absurd hm51 (Nat.not_lt_zero _)
              | succ n51 ih51 =>
                intro Mk p hn hF hp hkey hGo hm51
                refine xv_iload hX 4 dc_MD_check_51 rfl (rfl : _ = 53) ?_
                have e5k : Mk 277 5 = M 277 5 := hF.2 5 (by decide)
                refine xv_aload_n hX 0 dc_MD_check_53 rfl (rfl : _ = 54) ?_
                refine xv_geti hX fl_MD_190 rfl rfl (by decide) (v := M 277 5) e5k dc_MD_check_54 (rfl : _ = 57) ?_
                refine xv_icmp_ge hX (nI_toInt (by omega)) (nI_toInt (by omega)) (tgt := 90) (pq := 60) dc_MD_check_57 (by decide) rfl (fun c57 => ?_) (fun c57 => ?_)
                · skip
                  refine xv_iconst hX (v := nI 0) dc_MD_check_90 (by decide) (rfl : _ = 91) ?_
                  refine xv_reti hX hR rfl dc_MD_check_91 ?_
                  exact ⟨hF, Or.inr ⟨x, a, 0, rfl, hxx, hl0, rfl, ha, rfl, by decide, hGo 0 (Or.inr ⟨by omega, rfl⟩)⟩⟩
                · skip
                  have hpl : p < M 277 5 := by omega
                  have b280k : Mk 280 = M 280 := hF.1 280 (by decide) (by decide)
                  have b278k : Mk 278 = M 278 := hF.1 278 (by decide) (by decide)
                  have e2k : Mk 277 2 = M 277 2 := hF.2 2 (by decide)
                  obtain ⟨⟨q1, q2, q3⟩, q4, q5, q6, q7⟩ := hkey hpl
                  refine xv_aload_n hX 0 dc_MD_check_60 rfl (rfl : _ = 61) ?_
                  refine xv_iload hX 4 dc_MD_check_61 rfl (rfl : _ = 63) ?_
                  refine xv_iload_n hX 2 dc_MD_check_63 rfl (rfl : _ = 64) ?_
                  refine xv_iload_n hX 3 dc_MD_check_64 rfl (rfl : _ = 65) ?_
                  refine xv_calli hX (As := [.int (nI p), .int T, .int (nI a)]) (rest := []) (ct_MD_broken _ Y Mk p T a hn As (hG.b hF) (by omega) (by omega) (fun q hq => by rw [b280k, e2k]; exact hpa q (by omega)) q1 q2 q3 (by rw [b278k]; exact q4) q5 q6 q7 ha) ml_MD_225 li_MD_broken rfl (by decide) rfl rfl rfl (by decide) ⟨by decide, by decide⟩ ⟨Nat.le_refl _, Nat.le_refl _⟩ (Nat.le_of_ble_eq_true rfl) dc_MD_check_65 (rfl : _ = 68) (fun r65 M65 p65 => ?_)
                  obtain ⟨f65, w, hw, hw9, hP, hQ⟩ := p65
                  rw [b280k, e5k] at hP hQ
                  rw [b278k] at hQ
                  rw [hw]
                  refine xv_istore hX [1, 2, 3, 4, 5, 0] dc_MD_check_68 (by decide) (L' := [(0, .ref (Y.2.2.2 277)), (1, .int (nI x)), (2, .int T), (3, .int (nI a)), (4, .int (nI p)), (5, .int (nI w))]) rfl (rfl : _ = 70) ?_
                  refine xv_iload hX 5 dc_MD_check_70 rfl (rfl : _ = 72) ?_
                  refine xv_if_eq hX (nI_toInt (by omega)) (tgt := 84) (pq := 75) dc_MD_check_72 (by decide) rfl (fun c72 => ?_) (fun c72 => ?_)
                  · skip
                    have hw0 : w = 0 := by omega
                    rw [hw0] at hP
                    refine xv_iinc hX 4 [1, 2, 3, 4, 0, 5] dc_MD_check_84 rfl (xi_inc p 1) (by decide) (L' := [(0, .ref (Y.2.2.2 277)), (1, .int (nI x)), (2, .int T), (3, .int (nI a)), (4, .int (nI (p + 1))), (5, .int (nI w))]) rfl (rfl : _ = 87) ?_
                    refine xv_goto hX (pq := 51) dc_MD_check_87 (by decide) ?_
                    refine xv_sub (L' := [(0, .ref (Y.2.2.2 277)), (1, .int (nI x)), (2, .int T), (3, .int (nI a)), (4, .int (nI (p + 1)))]) [0, 1, 2, 3, 4] rfl ?_
                    exact ih51 M65 (p + 1) (As (M 280 p)).1.2.2.2.1 (hF.tt f65) (by omega) (fun h => bk_QK (hG.v (hpa p hpl)) (hQ hw0 (by omega))) (fun k hk => by
                      rcases hk with ⟨h1, h2⟩ | ⟨h1, h2⟩
                      · have q := hQ hw0 (by omega)
                        rw [q.1, q.2.1] at h2
                        exact hGo k (Or.inl ⟨hpl, bk_go h1 hP q.2.2.2.2.2.2 h2⟩)
                      · rw [h2]
                        exact hGo 0 (Or.inl ⟨hpl, bk_end h1 hP⟩)) (by omega)
                  · skip
                    refine xv_bipush hX (v := nI 16) dc_MD_check_75 (by decide) (rfl : _ = 77) ?_
                    refine xv_iload hX 4 dc_MD_check_77 rfl (rfl : _ = 79) ?_
                    refine xv_imul hX dc_MD_check_79 (pk_mul 16 p) (rfl : _ = 80) ?_
                    refine xv_iload hX 5 dc_MD_check_80 rfl (rfl : _ = 82) ?_
                    refine xv_iadd hX dc_MD_check_82 (nI_add (16 * p) w) (rfl : _ = 83) ?_
                    refine xv_reti hX hR rfl dc_MD_check_83 ?_
                    exact ⟨hF.tt f65, Or.inr ⟨x, a, 16 * p + w, rfl, hxx, hl0, rfl, ha, rfl, by omega, hGo _ (Or.inl ⟨hpl, bk_stop hpl hP (by omega)⟩)⟩⟩
            refine xv_sub (L' := [(0, .ref (Y.2.2.2 277)), (1, .int (nI x)), (2, .int T), (3, .int (nI a)), (4, .int (nI 0))]) [0, 1, 2, 3, 4] rfl ?_
            exact lp51 _ M48 0 (As x).1.2.2.2.1 F48 (Nat.zero_le _) (fun _ => K0) (fun k hk => by
              rcases hk with ⟨-, h⟩ | ⟨h, -⟩
              · rw [e38, e39, e42] at h
                exact h
              · exact absurd h.symm hl0) (Nat.lt_succ_self _)
          · exact absurd c31 (by decide)
