/-! the reference: an extension -/
set_option maxRecDepth 100000 in
set_option maxHeartbeats 4000000 in
theorem ct_MD_extension (ln : Launch) (Y : xw_Y) (M : xm_M) (l : Nat) (E : ps_E) (hI : md_I M) (hl : l ≤ 1440) (hE : md_E (M 278) M E) : xc_v ln qm_MD_extension 5 Y [.ref (Y.2.2.2 277), .int (nI l)] M (fun M1 => md_I M1 ∧ md_Y md_sl M M1 ∧ mo_ok (if E.1.length = 4 then none else mo_run (ps_ext (M 278) E) l (md_s M)) (md_s M1) (fun E2 => md_E (M 278) M1 E2)) := by
  refine xc_v.mk rfl (by decide) (Nat.le_of_ble_eq_true rfl) ?_
  intro X hXl hX hR
  subst hXl
  have hX : xv_ok X Y prog_9_method_19_code "CertificatePathModel" 6 (xc_rm 5) := hX
  show xv_V X Y 6 0 0 xw_lk xw_N M 0 [(0, .ref (Y.2.2.2 277)), (1, .int (nI l))] []
  obtain ⟨k6, k7, k8⟩ := id hI
  obtain ⟨hEL, hER, hE3⟩ := id hE
  obtain ⟨k, hk⟩ : ∃ k, E.1.length = k := ⟨_, rfl⟩
  have hk4 : k ≤ 4 := by have := hEL.1; omega
  have hk25 : M 277 25 = k := hEL.2.1.trans hk
  refine xv_aload_n hX 0 dc_MD_extension_0 rfl (rfl : _ = 1) ?_
  refine xv_bipush hX (v := nI 48) dc_MD_extension_1 (by decide) (rfl : _ = 3) ?_
  refine xv_iload_n hX 1 dc_MD_extension_3 rfl (rfl : _ = 4) ?_
  refine xv_calli hX (As := [.int (nI 48), .int (nI l)]) (rest := []) (ct_MD_enter _ Y M 48 l hI hl (by decide)) ml_MD_45 li_MD_enter rfl (by decide) rfl rfl rfl (by decide) ⟨by decide, by decide⟩ ⟨Nat.le_refl _, Nat.le_refl _⟩ (Nat.le_of_ble_eq_true rfl) dc_MD_extension_4 (rfl : _ = 7) (fun r4 M4 p4 => ?_)
  obtain ⟨i4, f4, h4⟩ := p4
  obtain ⟨e, z4, hel, hen⟩ := mo_enter h4
  rw [z4]
  have b4 : M4 278 = M 278 := f4.1 278 (by decide)
  refine xv_istore_n hX [1, 2, 0] dc_MD_extension_7 (by decide) (L' := [(0, .ref (Y.2.2.2 277)), (1, .int (nI l)), (2, .int (nI e))]) rfl (rfl : _ = 8) ?_
  refine xv_aload_n hX 0 dc_MD_extension_8 rfl (rfl : _ = 9) ?_
  refine xv_iload_n hX 2 dc_MD_extension_9 rfl (rfl : _ = 10) ?_
  refine xv_calli hX (As := [.int (nI e)]) (rest := []) (ct_MD_integer _ Y M4 e i4 (by omega)) ml_MD_70 li_MD_integer rfl (by decide) rfl rfl rfl (by decide) ⟨by decide, by decide⟩ ⟨Nat.le_refl _, Nat.le_refl _⟩ (Nat.le_of_ble_eq_true rfl) dc_MD_extension_10 (rfl : _ = 13) (fun r10 M10 p10 => ?_)
  obtain ⟨i10, f10, num, z10, hm31, h10⟩ := p10
  rw [z10]
  rw [b4] at h10
  have z1025 : M10 277 25 = k := by rw [f10.2 25 (by decide) (by decide), f4.2 25 (by decide) (by decide)]; exact hk25
  have k107 := i10.2.1
  refine xv_istore_n hX [1, 2, 3, 0] dc_MD_extension_13 (by decide) (L' := [(0, .ref (Y.2.2.2 277)), (1, .int (nI l)), (2, .int (nI e)), (3, .int (nI num))]) rfl (rfl : _ = 14) ?_
  have j42 : ∀ (v : Nat) (hv : (v = 0 ∧ (M10 277 7 = 0 ∧ num ≤ 255 ∧ k ≠ 4)) ∨ (v = 1 ∧ ¬ (M10 277 7 = 0 ∧ num ≤ 255 ∧ k ≠ 4))), xv_V X Y 6 0 0 xw_lk xw_N M10 42 [(0, .ref (Y.2.2.2 277)), (1, .int (nI l)), (2, .int (nI e)), (3, .int (nI num))] [.int (nI v), .ref (Y.2.2.2 277)] := by
    intro v hv
    refine xv_putz hX fl_MD_34 rfl rfl (by decide) (by omega) dc_MD_extension_42 (rfl : _ = 45) ?_
    refine xv_iconst hX (v := nI 0) dc_MD_extension_45 (by decide) (rfl : _ = 46) ?_
    refine xv_istore hX [1, 2, 3, 4, 0] dc_MD_extension_46 (by decide) (L' := [(0, .ref (Y.2.2.2 277)), (1, .int (nI l)), (2, .int (nI e)), (3, .int (nI num)), (4, .int (nI 0))]) rfl (rfl : _ = 48) ?_
    have lp48 : ∀ (fu48 : Nat) (Mk : xm_M) (t : Nat) (hIk : md_I Mk) (hFk : md_F M10 Mk) (h6k : Mk 277 6 = M10 277 6) (htk4 : t ≤ k) (hJ : (Mk 277 7 = 0 ∧ (M10 277 7 = 0 ∧ num ≤ 255 ∧ k ≠ 4) ∧ ∀ j, j < t → M 281 j ≠ num) ∨ (Mk 277 7 = 1 ∧ ¬ ((M10 277 7 = 0 ∧ num ≤ 255 ∧ k ≠ 4) ∧ ∀ j, j < k → M 281 j ≠ num))), k - t < fu48 → xv_V X Y 6 0 0 xw_lk xw_N Mk 48 [(0, .ref (Y.2.2.2 277)), (1, .int (nI l)), (2, .int (nI e)), (3, .int (nI num)), (4, .int (nI t))] [] := by
      intro n48
      induction n48 with
      | zero => intro Mk t hIk hFk h6k htk4 hJ hm48; exact absurd hm48 (Nat.not_lt_zero _)
      | succ n48 ih48 =>
        intro Mk t hIk hFk h6k htk4 hJ hm48
        refine xv_iload hX 4 dc_MD_extension_48 rfl (rfl : _ = 50) ?_
        have z25k : Mk 277 25 = k := by rw [hFk.2 25 (by decide) (by decide)]; exact z1025
        have kk7 := hIk.2.1
        have kk6 := hIk.1
        refine xv_aload_n hX 0 dc_MD_extension_50 rfl (rfl : _ = 51) ?_
        refine xv_geti hX fl_MD_105 rfl rfl (by decide) (v := k) z25k dc_MD_extension_51 (rfl : _ = 54) ?_
        refine xv_icmp_ge hX (nI_toInt (by omega)) (nI_toInt (by omega)) (tgt := 90) (pq := 57) dc_MD_extension_54 (by decide) rfl (fun c54 => ?_) (fun c54 => ?_)
        · skip
          refine xv_aload_n hX 0 dc_MD_extension_90 rfl (rfl : _ = 91) ?_
          refine xv_geti hX fl_MD_34 rfl rfl (by decide) (v := Mk 277 7) rfl dc_MD_extension_91 (rfl : _ = 94) ?_
          refine xv_if_eq hX (nI_toInt (by omega)) (tgt := 98) (pq := 97) dc_MD_extension_94 (by decide) rfl (fun c94 => ?_) (fun c94 => ?_)
          · skip
            have hk70 : Mk 277 7 = 0 := by omega
            obtain ⟨hg, hnd⟩ : (M10 277 7 = 0 ∧ num ≤ 255 ∧ k ≠ 4) ∧ ∀ j, j < t → M 281 j ≠ num := by rcases hJ with h | h; exact h.2; omega
            have htk : t = k := by omega
            have hdup : ¬ (E.1.any (fun x => x.1 == num)) = true := fun z => by obtain ⟨j, hj, hw⟩ := (md_any hEL).mp z; exact hnd j (by omega) hw
            have hsk : md_s Mk = md_s M10 := by rw [md_s0 hk70, md_s0 hg.1, h6k]
            have iD : md_I (xm_set (xm_set Mk 281 k num) 277 25 (k + 1)) := md_I.cg (M := Mk) (by rw [xm_nk (by decide), xm_oth (by decide)]) (by rw [xm_nk (by decide), xm_oth (by decide)]) (by rw [xm_oth (by decide), xm_oth (by decide)]) hIk
            have sD : md_s (xm_set (xm_set Mk 281 k num) 277 25 (k + 1)) = md_s M10 := by rw [md_s_cg (M := Mk) (M' := (xm_set (xm_set Mk 281 k num) 277 25 (k + 1))) (by rw [xm_nk (by decide), xm_oth (by decide)]) (by rw [xm_nk (by decide), xm_oth (by decide)])]; exact hsk
            have bD : (xm_set (xm_set Mk 281 k num) 277 25 (k + 1)) 278 = M 278 := by rw [xm_oth (by decide), xm_oth (by decide), hFk.1 278 (by decide), f10.1 278 (by decide), b4]
            refine xv_aload_n hX 0 dc_MD_extension_98 rfl (rfl : _ = 99) ?_
            refine xv_getr hX fl_MD_19 rfl rfl (by decide) rfl dc_MD_extension_99 (rfl : _ = 102) ?_
            refine xv_aload_n hX 0 dc_MD_extension_102 rfl (rfl : _ = 103) ?_
            refine xv_geti hX fl_MD_105 rfl rfl (by decide) (v := k) z25k dc_MD_extension_103 (rfl : _ = 106) ?_
            refine xv_iload_n hX 3 dc_MD_extension_106 rfl (rfl : _ = 107) ?_
            refine xv_iast hX rfl (by decide) (by omega) (by decide) dc_MD_extension_107 (rfl : _ = 108) ?_
            refine xv_aload_n hX 0 dc_MD_extension_108 rfl (rfl : _ = 109) ?_
            refine xv_aload_n hX 0 dc_MD_extension_109 rfl (rfl : _ = 110) ?_
            refine xv_geti hX fl_MD_105 rfl rfl (by decide) (v := k) ((xm_np (by decide)).trans z25k) dc_MD_extension_110 (rfl : _ = 113) ?_
            refine xv_iconst hX (v := nI 1) dc_MD_extension_113 (by decide) (rfl : _ = 114) ?_
            refine xv_iadd hX dc_MD_extension_114 (nI_add k 1) (rfl : _ = 115) ?_
            refine xv_puti hX fl_MD_105 rfl rfl (by decide) dc_MD_extension_115 (rfl : _ = 118) ?_
            refine xv_aload_n hX 0 dc_MD_extension_118 rfl (rfl : _ = 119) ?_
            refine xv_iload_n hX 2 dc_MD_extension_119 rfl (rfl : _ = 120) ?_
            refine xv_calli hX (As := [.int (nI e)]) (rest := []) (ct_MD_truth _ Y (xm_set (xm_set Mk 281 k num) 277 25 (k + 1)) e iD (by omega)) ml_MD_63 li_MD_truth rfl (by decide) rfl rfl rfl (by decide) ⟨by decide, by decide⟩ ⟨Nat.le_refl _, Nat.le_refl _⟩ (Nat.le_of_ble_eq_true rfl) dc_MD_extension_120 (rfl : _ = 123) (fun r120 M120 p120 => ?_)
            obtain ⟨i120, f120, ct, z120, hct2, h120⟩ := p120
            rw [z120]
            rw [bD] at h120
            obtain ⟨c, hct⟩ : ∃ c : Bool, ct = if c = true then 1 else 0 := ⟨decide (ct = 1), by rcases (show ct = 0 ∨ ct = 1 by omega) with h | h <;> rw [h] <;> rfl⟩
            replace h120 := h120.imp (W := fun x => x = c) (fun x hx => by rw [hct] at hx; cases x <;> cases c <;> simp at hx ⊢)
            refine xv_istore hX [1, 2, 3, 4, 0] dc_MD_extension_123 (by decide) (L' := [(0, .ref (Y.2.2.2 277)), (1, .int (nI l)), (2, .int (nI e)), (3, .int (nI num)), (4, .int (nI ct))]) rfl (rfl : _ = 125) ?_
            have z27 : M120 277 27 = M 277 27 := by rw [f120.2 27 (by decide) (by decide), xm_nk (by decide), xm_oth (by decide), hFk.2 27 (by decide) (by decide), f10.2 27 (by decide) (by decide), f4.2 27 (by decide) (by decide)]
            have k27 := hEL.2.2.2.1
            have j153 : ∀ (v27 : Nat) (hv1 : v27 ≤ 1) (hv2 : v27 = 1 ↔ (M 277 27 = 1 ∨ (ct = 1 ∧ ¬ (num = 1 ∨ num = 2 ∨ num = 3)))), xv_V X Y 6 0 0 xw_lk xw_N M120 153 [(0, .ref (Y.2.2.2 277)), (1, .int (nI l)), (2, .int (nI e)), (3, .int (nI num)), (4, .int (nI ct))] [.int (nI v27), .ref (Y.2.2.2 277)] := by
              intro v27 hv1 hv2
              refine xv_putz hX fl_MD_108 rfl rfl (by decide) (by omega) dc_MD_extension_153 (rfl : _ = 156) ?_
              refine xv_aload_n hX 0 dc_MD_extension_156 rfl (rfl : _ = 157) ?_
              refine xv_iconst hX (v := nI 4) dc_MD_extension_157 (by decide) (rfl : _ = 158) ?_
              refine xv_iload_n hX 2 dc_MD_extension_158 rfl (rfl : _ = 159) ?_
              refine xv_calli hX (As := [.int (nI 4), .int (nI e)]) (rest := []) (ct_MD_enter _ Y (xm_set M120 277 27 v27) 4 e (md_put (by decide) (by decide) i120).1 (by omega) (by decide)) ml_MD_45 li_MD_enter rfl (by decide) rfl rfl rfl (by decide) ⟨by decide, by decide⟩ ⟨Nat.le_refl _, Nat.le_refl _⟩ (Nat.le_of_ble_eq_true rfl) dc_MD_extension_159 (rfl : _ = 162) (fun r159 M159 p159 => ?_)
              obtain ⟨i159, f159, h159⟩ := p159
              rw [(md_put (M := M120) (k := 27) (v := v27) (by decide) (by decide) i120).2, xm_oth (by decide), f120.1 278 (by decide), bD] at h159
              obtain ⟨g, z159, hge, hen4⟩ := mo_enter h159
              rw [z159]
              refine xv_istore hX [1, 2, 3, 4, 5, 0] dc_MD_extension_162 (by decide) (L' := [(0, .ref (Y.2.2.2 277)), (1, .int (nI l)), (2, .int (nI e)), (3, .int (nI num)), (4, .int (nI ct)), (5, .int (nI g))]) rfl (rfl : _ = 164) ?_
              have b159 : M159 278 = M 278 := by rw [f159.1 278 (by decide), xm_oth (by decide), f120.1 278 (by decide), bD]
              have hv3 : v27 = 1 ↔ (M 277 27 = 1 ∨ (c = true ∧ ¬ (num = 1 ∨ num = 2 ∨ num = 3))) := by rw [hv2, hct]; cases c <;> simp
              have q159 : ∀ j, j ≠ 6 → j ≠ 7 → j ≠ 25 → j ≠ 27 → M159 277 j = M 277 j := fun j a b c d => by rw [f159.2 j a b, xm_nk d, f120.2 j a b, xm_nk c, xm_oth (by decide), hFk.2 j a b, f10.2 j a b, f4.2 j a b]
              have q25 : M159 277 25 = E.1.length + 1 := by rw [f159.2 25 (by decide) (by decide), xm_nk (by decide), f120.2 25 (by decide) (by decide), xm_eq, hk]
              have q27 : M159 277 27 = v27 := by rw [f159.2 27 (by decide) (by decide), xm_eq]
              have q81 : M159 281 E.1.length = num := by rw [f159.1 281 (by decide), xm_oth (by decide), f120.1 281 (by decide), xm_oth (by decide), hk, xm_eq]
              have q81b : ∀ j, j ≠ E.1.length → M159 281 j = M 281 j := fun j a => by rw [f159.1 281 (by decide), xm_oth (by decide), f120.1 281 (by decide), xm_oth (by decide), xm_nk (by rw [← hk]; exact a), hFk.1 281 (by decide), f10.1 281 (by decide), f4.1 281 (by decide)]
              have hLL : ∀ (Mc : xm_M) (o : List Nat), md_X [6, 7, 16, 17, 18, 28, 29, 30, 31, 32, 33, 34, 35, 36, 37] M159 Mc → md_L Mc (E.1 ++ [(num, c, o)]) := fun Mc o hX' => md_L_app hEL (by omega) (by omega) (by rw [hX'.2 25 (by decide)]; exact q25) (fun j a => by rw [hX'.1 281 (by decide)]; exact q81b j a) (by rw [hX'.1 281 (by decide)]; exact q81) (by rw [hX'.2 27 (by decide)]; exact q27) hv1 hv3
              have k1597 := i159.2.1
              have k1596 := i159.1
              have j240 : ∀ (Mc : xm_M) (ic : md_I Mc) (fc : md_X [6, 7, 16, 17, 18, 28, 29, 30, 31, 32, 33, 34, 35, 36, 37] M159 Mc) (hc : mo_ok (mo_run (ps_con (M 278) num c E) g (md_s M159)) (md_s Mc) (fun E2 => md_E (M 278) Mc E2)), xv_V X Y 6 0 0 xw_lk xw_N Mc 240 [(0, .ref (Y.2.2.2 277)), (1, .int (nI l)), (2, .int (nI e)), (3, .int (nI num)), (4, .int (nI ct)), (5, .int (nI g))] [] := by
                intro Mc ic fc hc
                refine xv_aload_n hX 0 dc_MD_extension_240 rfl (rfl : _ = 241) ?_
                refine xv_iload hX 5 dc_MD_extension_241 rfl (rfl : _ = 243) ?_
                refine xv_callv hX (As := [.int (nI g)]) (rest := []) (ct_MD_leave _ Y Mc g ic (by omega)) ml_MD_77 li_MD_leave rfl (by decide) rfl rfl rfl (by decide) ⟨by decide, by decide⟩ ⟨Nat.le_refl _, Nat.le_refl _⟩ (Nat.le_of_ble_eq_true rfl) dc_MD_extension_243 (rfl : _ = 246) (fun M243 p243 => ?_)
                obtain ⟨i243, f243, h243⟩ := p243
                refine xv_aload_n hX 0 dc_MD_extension_246 rfl (rfl : _ = 247) ?_
                refine xv_iload_n hX 2 dc_MD_extension_247 rfl (rfl : _ = 248) ?_
                refine xv_callv hX (As := [.int (nI e)]) (rest := []) (ct_MD_leave _ Y M243 e i243 (by omega)) ml_MD_77 li_MD_leave rfl (by decide) rfl rfl rfl (by decide) ⟨by decide, by decide⟩ ⟨Nat.le_refl _, Nat.le_refl _⟩ (Nat.le_of_ble_eq_true rfl) dc_MD_extension_248 (rfl : _ = 251) (fun M248 p248 => ?_)
                obtain ⟨i248, f248, h248⟩ := p248
                refine xv_retv hX hR dc_MD_extension_251 ?_
                rw [if_neg (by omega)]
                refine ⟨i248, (md_Y.tt (f4.x.y.up (by decide)) (md_Y.tt (f10.x.y.up (by decide)) (md_Y.tt (hFk.x.y.up (by decide)) (md_Y.tt ((md_Y.num Mk k num).up (by decide)) (md_Y.tt ((md_X.set (xm_set Mk 281 k num) 25 (k + 1)).y.up (by decide)) (md_Y.tt (f120.x.y.up (by decide)) (md_Y.tt ((md_X.set M120 27 v27).y.up (by decide)) (md_Y.tt (f159.x.y.up (by decide)) (md_Y.tt (fc.y.up (by decide)) (md_Y.tt (f243.x.y.up (by decide)) (f248.x.y.up (by decide)))))))))))), ?_⟩
                rw [h248, h243]
                refine (mo_in hen (mo_exc h10 (by rw [md_s0 hg.1]; exact fun z => by cases z) (by omega) hdup (by rw [← sD]; exact h120) (mo_in hen4 hc))).imp (fun E2 h => ?_)
                exact md_E_cg (by rw [f248.1 281 (by decide), f243.1 281 (by decide)]) (fun j hj => by rw [f248.2 j (by omega) (by omega), f243.2 j (by omega) (by omega)]) h
              refine xv_iload_n hX 3 dc_MD_extension_164 rfl (rfl : _ = 165) ?_
              refine xv_iconst hX (v := nI 1) dc_MD_extension_165 (by decide) (rfl : _ = 166) ?_
              refine xv_icmp_ne hX (nI_toInt (by omega)) (show (nI 1).toInt = 1 by decide) (tgt := 178) (pq := 169) dc_MD_extension_166 (by decide) rfl (fun c166 => ?_) (fun c166 => ?_)
              · skip
                refine xv_iload_n hX 3 dc_MD_extension_178 rfl (rfl : _ = 179) ?_
                refine xv_iconst hX (v := nI 2) dc_MD_extension_179 (by decide) (rfl : _ = 180) ?_
                refine xv_icmp_ne hX (nI_toInt (by omega)) (show (nI 2).toInt = 2 by decide) (tgt := 192) (pq := 183) dc_MD_extension_180 (by decide) rfl (fun c180 => ?_) (fun c180 => ?_)
                · skip
                  refine xv_iload_n hX 3 dc_MD_extension_192 rfl (rfl : _ = 193) ?_
                  refine xv_iconst hX (v := nI 3) dc_MD_extension_193 (by decide) (rfl : _ = 194) ?_
                  refine xv_icmp_ne hX (nI_toInt (by omega)) (show (nI 3).toInt = 3 by decide) (tgt := 206) (pq := 197) dc_MD_extension_194 (by decide) rfl (fun c194 => ?_) (fun c194 => ?_)
                  · skip
                    refine xv_aload_n hX 0 dc_MD_extension_206 rfl (rfl : _ = 207) ?_
                    refine xv_aload_n hX 0 dc_MD_extension_207 rfl (rfl : _ = 208) ?_
                    refine xv_geti hX fl_MD_34 rfl rfl (by decide) (v := M159 277 7) rfl dc_MD_extension_208 (rfl : _ = 211) ?_
                    refine xv_if_ne hX (nI_toInt (by omega)) (tgt := 226) (pq := 214) dc_MD_extension_211 (by decide) rfl (fun c211 => ?_) (fun c211 => ?_)
                    · skip
                      refine xv_iconst hX (v := nI 1) dc_MD_extension_226 (by decide) (rfl : _ = 227) ?_
                      refine xv_goto hX (pq := 231) dc_MD_extension_227 (by decide) ?_
                      refine xv_putz hX fl_MD_34 rfl rfl (by decide) (by decide) dc_MD_extension_231 (rfl : _ = 234) ?_
                      refine xv_aload_n hX 0 dc_MD_extension_234 rfl (rfl : _ = 235) ?_
                      refine xv_iload hX 5 dc_MD_extension_235 rfl (rfl : _ = 237) ?_
                      refine xv_puti hX fl_MD_38 rfl rfl (by decide) dc_MD_extension_237 (rfl : _ = 240) ?_
                      obtain ⟨a1, a2, a3⟩ := md_done (M := M159) (M' := (xm_set (xm_set M159 277 7 1) 277 6 g)) (v := g) (w := 1) xm_eq ((xm_nk (by decide)).trans xm_eq) (fun q a => by simp only [xm_oth a]) (fun j a b => by simp only [xm_nk a, xm_nk b]) i159 (by omega) (by decide)
                      have X9 : md_X [6, 7, 16, 17, 18, 28, 29, 30, 31, 32, 33, 34, 35, 36, 37] M159 (xm_set (xm_set M159 277 7 1) 277 6 g) := a2.x.up (by decide)
                      refine xv_sub (L' := [(0, .ref (Y.2.2.2 277)), (1, .int (nI l)), (2, .int (nI e)), (3, .int (nI num)), (4, .int (nI ct)), (5, .int (nI g))]) [0, 1, 2, 3, 4, 5] rfl ?_
                      exact j240 (xm_set (xm_set M159 277 7 1) 277 6 g) a1 X9 (by
                        refine (mo_con4 (by omega) (fun h => ?_) (fun i h => ?_)).imp (fun E2 hE2 => ?_)
                        · rw [a3]; have := md_w i159 h; exact if_neg (by decide)
                        · obtain ⟨q7, q6⟩ := md_g h; rw [a3, if_neg (show ¬ 1 = 0 by decide), if_neg (by omega)]
                        · obtain ⟨o, rfl⟩ := hE2
                          refine ⟨hLL _ o X9, ⟨?_, ?_, ?_, ?_, ?_, ?_, ?_⟩, fun z => hE3 (by rw [List.any_append, Bool.or_eq_false_iff] at z; exact z.1)⟩
                          · rw [a2.2 28 (by decide) (by decide), q159 28 (by decide) (by decide) (by decide) (by decide)]; exact hER.1
                          · rw [a2.2 28 (by decide) (by decide), q159 28 (by decide) (by decide) (by decide) (by decide)]; exact hER.2.1
                          · rw [a2.2 29 (by decide) (by decide), q159 29 (by decide) (by decide) (by decide) (by decide)]; exact hER.2.2.1
                          · rw [a2.2 30 (by decide) (by decide), q159 30 (by decide) (by decide) (by decide) (by decide)]; exact hER.2.2.2.1
                          · rw [a2.2 31 (by decide) (by decide), q159 31 (by decide) (by decide) (by decide) (by decide)]; exact hER.2.2.2.2.1
                          · rw [a2.2 32 (by decide) (by decide), q159 32 (by decide) (by decide) (by decide) (by decide), a2.2 33 (by decide) (by decide), q159 33 (by decide) (by decide) (by decide) (by decide), a2.2 34 (by decide) (by decide), q159 34 (by decide) (by decide) (by decide) (by decide)]; exact hER.2.2.2.2.2.1
                          · rw [a2.2 35 (by decide) (by decide), q159 35 (by decide) (by decide) (by decide) (by decide), a2.2 36 (by decide) (by decide), q159 36 (by decide) (by decide) (by decide) (by decide), a2.2 37 (by decide) (by decide), q159 37 (by decide) (by decide) (by decide) (by decide)]; exact hER.2.2.2.2.2.2)
                    · skip
                      have hg9 : M159 277 6 ≤ g := by
                        have h7 : M159 277 7 = 0 := by omega
                        rw [md_s0 h7] at hen4
                        rcases hen4 with ⟨h, -⟩ | ⟨f, h, hf⟩
                        · cases h
                        · cases hf
                          exact (mo_hd_some h).1
                      refine xv_iload hX 5 dc_MD_extension_214 rfl (rfl : _ = 216) ?_
                      refine xv_aload_n hX 0 dc_MD_extension_216 rfl (rfl : _ = 217) ?_
                      refine xv_geti hX fl_MD_38 rfl rfl (by decide) (v := M159 277 6) rfl dc_MD_extension_217 (rfl : _ = 220) ?_
                      refine xv_isub hX dc_MD_extension_220 (pk_sub (by omega)) (rfl : _ = 221) ?_
                      refine xv_bipush hX (v := nI 20) dc_MD_extension_221 (by decide) (rfl : _ = 223) ?_
                      refine xv_icmp_le hX (nI_toInt (by omega)) (show (nI 20).toInt = 20 by decide) (tgt := 230) (pq := 226) dc_MD_extension_223 (by decide) rfl (fun c223 => ?_) (fun c223 => ?_)
                      · skip
                        refine xv_iconst hX (v := nI 0) dc_MD_extension_230 (by decide) (rfl : _ = 231) ?_
                        refine xv_putz hX fl_MD_34 rfl rfl (by decide) (by decide) dc_MD_extension_231 (rfl : _ = 234) ?_
                        refine xv_aload_n hX 0 dc_MD_extension_234 rfl (rfl : _ = 235) ?_
                        refine xv_iload hX 5 dc_MD_extension_235 rfl (rfl : _ = 237) ?_
                        refine xv_puti hX fl_MD_38 rfl rfl (by decide) dc_MD_extension_237 (rfl : _ = 240) ?_
                        obtain ⟨a1, a2, a3⟩ := md_done (M := M159) (M' := (xm_set (xm_set M159 277 7 0) 277 6 g)) (v := g) (w := 0) xm_eq ((xm_nk (by decide)).trans xm_eq) (fun q a => by simp only [xm_oth a]) (fun j a b => by simp only [xm_nk a, xm_nk b]) i159 (by omega) (by decide)
                        have X9 : md_X [6, 7, 16, 17, 18, 28, 29, 30, 31, 32, 33, 34, 35, 36, 37] M159 (xm_set (xm_set M159 277 7 0) 277 6 g) := a2.x.up (by decide)
                        refine xv_sub (L' := [(0, .ref (Y.2.2.2 277)), (1, .int (nI l)), (2, .int (nI e)), (3, .int (nI num)), (4, .int (nI ct)), (5, .int (nI g))]) [0, 1, 2, 3, 4, 5] rfl ?_
                        exact j240 (xm_set (xm_set M159 277 7 0) 277 6 g) a1 X9 (by
                          refine (mo_con4 (by omega) (fun h => ?_) (fun i h => ?_)).imp (fun E2 hE2 => ?_)
                          · rw [a3]; have := md_w i159 h; exfalso; omega
                          · obtain ⟨q7, q6⟩ := md_g h; rw [a3, if_pos rfl, if_pos (by omega)]
                          · obtain ⟨o, rfl⟩ := hE2
                            refine ⟨hLL _ o X9, ⟨?_, ?_, ?_, ?_, ?_, ?_, ?_⟩, fun z => hE3 (by rw [List.any_append, Bool.or_eq_false_iff] at z; exact z.1)⟩
                            · rw [a2.2 28 (by decide) (by decide), q159 28 (by decide) (by decide) (by decide) (by decide)]; exact hER.1
                            · rw [a2.2 28 (by decide) (by decide), q159 28 (by decide) (by decide) (by decide) (by decide)]; exact hER.2.1
                            · rw [a2.2 29 (by decide) (by decide), q159 29 (by decide) (by decide) (by decide) (by decide)]; exact hER.2.2.1
                            · rw [a2.2 30 (by decide) (by decide), q159 30 (by decide) (by decide) (by decide) (by decide)]; exact hER.2.2.2.1
                            · rw [a2.2 31 (by decide) (by decide), q159 31 (by decide) (by decide) (by decide) (by decide)]; exact hER.2.2.2.2.1
                            · rw [a2.2 32 (by decide) (by decide), q159 32 (by decide) (by decide) (by decide) (by decide), a2.2 33 (by decide) (by decide), q159 33 (by decide) (by decide) (by decide) (by decide), a2.2 34 (by decide) (by decide), q159 34 (by decide) (by decide) (by decide) (by decide)]; exact hER.2.2.2.2.2.1
                            · rw [a2.2 35 (by decide) (by decide), q159 35 (by decide) (by decide) (by decide) (by decide), a2.2 36 (by decide) (by decide), q159 36 (by decide) (by decide) (by decide) (by decide), a2.2 37 (by decide) (by decide), q159 37 (by decide) (by decide) (by decide) (by decide)]; exact hER.2.2.2.2.2.2)
                      · skip
                        refine xv_iconst hX (v := nI 1) dc_MD_extension_226 (by decide) (rfl : _ = 227) ?_
                        refine xv_goto hX (pq := 231) dc_MD_extension_227 (by decide) ?_
                        refine xv_putz hX fl_MD_34 rfl rfl (by decide) (by decide) dc_MD_extension_231 (rfl : _ = 234) ?_
                        refine xv_aload_n hX 0 dc_MD_extension_234 rfl (rfl : _ = 235) ?_
                        refine xv_iload hX 5 dc_MD_extension_235 rfl (rfl : _ = 237) ?_
                        refine xv_puti hX fl_MD_38 rfl rfl (by decide) dc_MD_extension_237 (rfl : _ = 240) ?_
                        obtain ⟨a1, a2, a3⟩ := md_done (M := M159) (M' := (xm_set (xm_set M159 277 7 1) 277 6 g)) (v := g) (w := 1) xm_eq ((xm_nk (by decide)).trans xm_eq) (fun q a => by simp only [xm_oth a]) (fun j a b => by simp only [xm_nk a, xm_nk b]) i159 (by omega) (by decide)
                        have X9 : md_X [6, 7, 16, 17, 18, 28, 29, 30, 31, 32, 33, 34, 35, 36, 37] M159 (xm_set (xm_set M159 277 7 1) 277 6 g) := a2.x.up (by decide)
                        refine xv_sub (L' := [(0, .ref (Y.2.2.2 277)), (1, .int (nI l)), (2, .int (nI e)), (3, .int (nI num)), (4, .int (nI ct)), (5, .int (nI g))]) [0, 1, 2, 3, 4, 5] rfl ?_
                        exact j240 (xm_set (xm_set M159 277 7 1) 277 6 g) a1 X9 (by
                          refine (mo_con4 (by omega) (fun h => ?_) (fun i h => ?_)).imp (fun E2 hE2 => ?_)
                          · rw [a3]; have := md_w i159 h; exact if_neg (by decide)
                          · obtain ⟨q7, q6⟩ := md_g h; rw [a3, if_neg (show ¬ 1 = 0 by decide), if_neg (by omega)]
                          · obtain ⟨o, rfl⟩ := hE2
                            refine ⟨hLL _ o X9, ⟨?_, ?_, ?_, ?_, ?_, ?_, ?_⟩, fun z => hE3 (by rw [List.any_append, Bool.or_eq_false_iff] at z; exact z.1)⟩
                            · rw [a2.2 28 (by decide) (by decide), q159 28 (by decide) (by decide) (by decide) (by decide)]; exact hER.1
                            · rw [a2.2 28 (by decide) (by decide), q159 28 (by decide) (by decide) (by decide) (by decide)]; exact hER.2.1
                            · rw [a2.2 29 (by decide) (by decide), q159 29 (by decide) (by decide) (by decide) (by decide)]; exact hER.2.2.1
                            · rw [a2.2 30 (by decide) (by decide), q159 30 (by decide) (by decide) (by decide) (by decide)]; exact hER.2.2.2.1
                            · rw [a2.2 31 (by decide) (by decide), q159 31 (by decide) (by decide) (by decide) (by decide)]; exact hER.2.2.2.2.1
                            · rw [a2.2 32 (by decide) (by decide), q159 32 (by decide) (by decide) (by decide) (by decide), a2.2 33 (by decide) (by decide), q159 33 (by decide) (by decide) (by decide) (by decide), a2.2 34 (by decide) (by decide), q159 34 (by decide) (by decide) (by decide) (by decide)]; exact hER.2.2.2.2.2.1
                            · rw [a2.2 35 (by decide) (by decide), q159 35 (by decide) (by decide) (by decide) (by decide), a2.2 36 (by decide) (by decide), q159 36 (by decide) (by decide) (by decide) (by decide), a2.2 37 (by decide) (by decide), q159 37 (by decide) (by decide) (by decide) (by decide)]; exact hER.2.2.2.2.2.2)
                  · skip
                    refine xv_aload_n hX 0 dc_MD_extension_197 rfl (rfl : _ = 198) ?_
                    refine xv_iload hX 5 dc_MD_extension_198 rfl (rfl : _ = 200) ?_
                    have hn3 : num = 3 := by omega
                    have hE32 := hE3 (by rw [hn3] at hdup; exact Bool.eq_false_iff.mpr hdup)
                    have hz32 : M159 277 32 = 0 := by rw [q159 32 (by decide) (by decide) (by decide) (by decide), hER.2.2.2.2.2.1.1, hE32]; rfl
                    have hz35 : M159 277 35 = 0 := by rw [q159 35 (by decide) (by decide) (by decide) (by decide), hER.2.2.2.2.2.2.1, hE32]; rfl
                    refine xv_callv hX (As := [.int (nI g)]) (rest := []) (ct_MD_bounds _ Y M159 g i159 (by omega) hz32 hz35) ml_MD_117 li_MD_bounds rfl (by decide) rfl rfl rfl (by decide) ⟨by decide, by decide⟩ ⟨Nat.le_refl _, Nat.le_refl _⟩ (Nat.le_of_ble_eq_true rfl) dc_MD_extension_200 (rfl : _ = 203) (fun M200 p200 => ?_)
                    obtain ⟨i200, f200, h200⟩ := p200
                    rw [b159] at h200
                    refine xv_goto hX (pq := 240) dc_MD_extension_203 (by decide) ?_
                    have X200 : md_X [6, 7, 16, 17, 18, 28, 29, 30, 31, 32, 33, 34, 35, 36, 37] M159 M200 := f200.up (by decide)
                    refine xv_sub (L' := [(0, .ref (Y.2.2.2 277)), (1, .int (nI l)), (2, .int (nI e)), (3, .int (nI num)), (4, .int (nI ct)), (5, .int (nI g))]) [0, 1, 2, 3, 4, 5] rfl ?_
                    exact j240 M200 i200 X200 (by
                      have hLx := hLL M200
                      subst hn3
                      refine (mo_con3 h200).imp (fun E2 hE2 => ?_)
                      obtain ⟨z, ⟨z1, z2⟩, rfl⟩ := hE2
                      refine ⟨hLx _ X200, ⟨?_, ?_, ?_, ?_, ?_, z1, z2⟩, fun z => by rw [List.any_append] at z; simp at z⟩
                      · rw [f200.2 28 (by decide), q159 28 (by decide) (by decide) (by decide) (by decide)]; exact hER.1
                      · rw [f200.2 28 (by decide), q159 28 (by decide) (by decide) (by decide) (by decide)]; exact hER.2.1
                      · rw [f200.2 29 (by decide), q159 29 (by decide) (by decide) (by decide) (by decide)]; exact hER.2.2.1
                      · rw [f200.2 30 (by decide), q159 30 (by decide) (by decide) (by decide) (by decide)]; exact hER.2.2.2.1
                      · rw [f200.2 31 (by decide), q159 31 (by decide) (by decide) (by decide) (by decide)]; exact hER.2.2.2.2.1)
                · skip
                  refine xv_aload_n hX 0 dc_MD_extension_183 rfl (rfl : _ = 184) ?_
                  refine xv_iload hX 5 dc_MD_extension_184 rfl (rfl : _ = 186) ?_
                  refine xv_callv hX (As := [.int (nI g)]) (rest := []) (ct_MD_usageBits _ Y M159 g i159 (by omega)) ml_MD_114 li_MD_usageBits rfl (by decide) rfl rfl rfl (by decide) ⟨by decide, by decide⟩ ⟨Nat.le_refl _, Nat.le_refl _⟩ (Nat.le_of_ble_eq_true rfl) dc_MD_extension_186 (rfl : _ = 189) (fun M186 p186 => ?_)
                  obtain ⟨i186, f186, h186⟩ := p186
                  rw [b159] at h186
                  refine xv_goto hX (pq := 240) dc_MD_extension_189 (by decide) ?_
                  have hn1 : num = 2 := by omega
                  have X186 : md_X [6, 7, 16, 17, 18, 28, 29, 30, 31, 32, 33, 34, 35, 36, 37] M159 M186 := f186.up (by decide)
                  refine xv_sub (L' := [(0, .ref (Y.2.2.2 277)), (1, .int (nI l)), (2, .int (nI e)), (3, .int (nI num)), (4, .int (nI ct)), (5, .int (nI g))]) [0, 1, 2, 3, 4, 5] rfl ?_
                  exact j240 M186 i186 X186 (by
                    have hLx := hLL M186
                    subst hn1
                    refine (mo_con2 h186).imp (fun E2 hE2 => ?_)
                    obtain ⟨z, z1, rfl⟩ := hE2
                    refine ⟨hLx _ X186, ⟨?_, ?_, ?_, ?_, z1, ?_, ?_⟩, fun z => hE3 (by rw [List.any_append, Bool.or_eq_false_iff] at z; exact z.1)⟩
                    · rw [f186.2 28 (by decide), q159 28 (by decide) (by decide) (by decide) (by decide)]; exact hER.1
                    · rw [f186.2 28 (by decide), q159 28 (by decide) (by decide) (by decide) (by decide)]; exact hER.2.1
                    · rw [f186.2 29 (by decide), q159 29 (by decide) (by decide) (by decide) (by decide)]; exact hER.2.2.1
                    · rw [f186.2 30 (by decide), q159 30 (by decide) (by decide) (by decide) (by decide)]; exact hER.2.2.2.1
                    · rw [f186.2 32 (by decide), q159 32 (by decide) (by decide) (by decide) (by decide), f186.2 33 (by decide), q159 33 (by decide) (by decide) (by decide) (by decide), f186.2 34 (by decide), q159 34 (by decide) (by decide) (by decide) (by decide)]; exact hER.2.2.2.2.2.1
                    · rw [f186.2 35 (by decide), q159 35 (by decide) (by decide) (by decide) (by decide), f186.2 36 (by decide), q159 36 (by decide) (by decide) (by decide) (by decide), f186.2 37 (by decide), q159 37 (by decide) (by decide) (by decide) (by decide)]; exact hER.2.2.2.2.2.2)
              · skip
                refine xv_aload_n hX 0 dc_MD_extension_169 rfl (rfl : _ = 170) ?_
                refine xv_iload hX 5 dc_MD_extension_170 rfl (rfl : _ = 172) ?_
                refine xv_callv hX (As := [.int (nI g)]) (rest := []) (ct_MD_basicContent _ Y M159 g i159 (by omega)) ml_MD_111 li_MD_basicContent rfl (by decide) rfl rfl rfl (by decide) ⟨by decide, by decide⟩ ⟨Nat.le_refl _, Nat.le_refl _⟩ (Nat.le_of_ble_eq_true rfl) dc_MD_extension_172 (rfl : _ = 175) (fun M172 p172 => ?_)
                obtain ⟨i172, f172, g172, h172⟩ := p172
                rw [b159] at h172
                refine xv_goto hX (pq := 240) dc_MD_extension_175 (by decide) ?_
                have hn1 : num = 1 := by omega
                have X172 : md_X [6, 7, 16, 17, 18, 28, 29, 30, 31, 32, 33, 34, 35, 36, 37] M159 M172 := f172.up (by decide)
                refine xv_sub (L' := [(0, .ref (Y.2.2.2 277)), (1, .int (nI l)), (2, .int (nI e)), (3, .int (nI num)), (4, .int (nI ct)), (5, .int (nI g))]) [0, 1, 2, 3, 4, 5] rfl ?_
                exact j240 M172 i172 X172 (by
                  have hLx := hLL M172
                  subst hn1
                  refine (mo_con1 h172).imp (fun E2 hE2 => ?_)
                  obtain ⟨z, ⟨z1, z2⟩, rfl⟩ := hE2
                  refine ⟨hLx _ X172, ⟨by omega, fun _ => g172, z1, ?_, ?_, ?_, ?_⟩, fun z => hE3 (by rw [List.any_append, Bool.or_eq_false_iff] at z; exact z.1)⟩
                  · rw [z2]
                    cases z.2 with
                    | some v => rfl
                    | none => exact (q159 30 (by decide) (by decide) (by decide) (by decide)).trans hER.2.2.2.1
                  · rw [f172.2 31 (by decide), q159 31 (by decide) (by decide) (by decide) (by decide)]; exact hER.2.2.2.2.1
                  · rw [f172.2 32 (by decide), q159 32 (by decide) (by decide) (by decide) (by decide), f172.2 33 (by decide), q159 33 (by decide) (by decide) (by decide) (by decide), f172.2 34 (by decide), q159 34 (by decide) (by decide) (by decide) (by decide)]; exact hER.2.2.2.2.2.1
                  · rw [f172.2 35 (by decide), q159 35 (by decide) (by decide) (by decide) (by decide), f172.2 36 (by decide), q159 36 (by decide) (by decide) (by decide) (by decide), f172.2 37 (by decide), q159 37 (by decide) (by decide) (by decide) (by decide)]; exact hER.2.2.2.2.2.2)
            refine xv_aload_n hX 0 dc_MD_extension_125 rfl (rfl : _ = 126) ?_
            refine xv_aload_n hX 0 dc_MD_extension_126 rfl (rfl : _ = 127) ?_
            refine xv_geti hX fl_MD_108 rfl rfl (by decide) (v := M120 277 27) rfl dc_MD_extension_127 (rfl : _ = 130) ?_
            refine xv_if_ne hX (nI_toInt (by omega)) (tgt := 148) (pq := 133) dc_MD_extension_130 (by decide) rfl (fun c130 => ?_) (fun c130 => ?_)
            · skip
              refine xv_iconst hX (v := nI 1) dc_MD_extension_148 (by decide) (rfl : _ = 149) ?_
              refine xv_goto hX (pq := 153) dc_MD_extension_149 (by decide) ?_
              refine xv_sub (L' := [(0, .ref (Y.2.2.2 277)), (1, .int (nI l)), (2, .int (nI e)), (3, .int (nI num)), (4, .int (nI ct))]) [0, 1, 2, 3, 4] rfl ?_
              exact j153 1 (by decide) (by omega)
            · skip
              refine xv_iload hX 4 dc_MD_extension_133 rfl (rfl : _ = 135) ?_
              refine xv_if_eq hX (nI_toInt (by omega)) (tgt := 152) (pq := 138) dc_MD_extension_135 (by decide) rfl (fun c135 => ?_) (fun c135 => ?_)
              · skip
                refine xv_iconst hX (v := nI 0) dc_MD_extension_152 (by decide) (rfl : _ = 153) ?_
                refine xv_sub (L' := [(0, .ref (Y.2.2.2 277)), (1, .int (nI l)), (2, .int (nI e)), (3, .int (nI num)), (4, .int (nI ct))]) [0, 1, 2, 3, 4] rfl ?_
                exact j153 0 (by decide) (by omega)
              · skip
                refine xv_iload_n hX 3 dc_MD_extension_138 rfl (rfl : _ = 139) ?_
                refine xv_iconst hX (v := nI 1) dc_MD_extension_139 (by decide) (rfl : _ = 140) ?_
                refine xv_icmp_lt hX (nI_toInt (by omega)) (show (nI 1).toInt = 1 by decide) (tgt := 148) (pq := 143) dc_MD_extension_140 (by decide) rfl (fun c140 => ?_) (fun c140 => ?_)
                · skip
                  refine xv_iconst hX (v := nI 1) dc_MD_extension_148 (by decide) (rfl : _ = 149) ?_
                  refine xv_goto hX (pq := 153) dc_MD_extension_149 (by decide) ?_
                  refine xv_sub (L' := [(0, .ref (Y.2.2.2 277)), (1, .int (nI l)), (2, .int (nI e)), (3, .int (nI num)), (4, .int (nI ct))]) [0, 1, 2, 3, 4] rfl ?_
                  exact j153 1 (by decide) (by omega)
                · skip
                  refine xv_iload_n hX 3 dc_MD_extension_143 rfl (rfl : _ = 144) ?_
                  refine xv_iconst hX (v := nI 3) dc_MD_extension_144 (by decide) (rfl : _ = 145) ?_
                  refine xv_icmp_le hX (nI_toInt (by omega)) (show (nI 3).toInt = 3 by decide) (tgt := 152) (pq := 148) dc_MD_extension_145 (by decide) rfl (fun c145 => ?_) (fun c145 => ?_)
                  · skip
                    refine xv_iconst hX (v := nI 0) dc_MD_extension_152 (by decide) (rfl : _ = 153) ?_
                    refine xv_sub (L' := [(0, .ref (Y.2.2.2 277)), (1, .int (nI l)), (2, .int (nI e)), (3, .int (nI num)), (4, .int (nI ct))]) [0, 1, 2, 3, 4] rfl ?_
                    exact j153 0 (by decide) (by omega)
                  · skip
                    refine xv_iconst hX (v := nI 1) dc_MD_extension_148 (by decide) (rfl : _ = 149) ?_
                    refine xv_goto hX (pq := 153) dc_MD_extension_149 (by decide) ?_
                    refine xv_sub (L' := [(0, .ref (Y.2.2.2 277)), (1, .int (nI l)), (2, .int (nI e)), (3, .int (nI num)), (4, .int (nI ct))]) [0, 1, 2, 3, 4] rfl ?_
                    exact j153 1 (by decide) (by omega)
          · skip
            refine xv_retv hX hR dc_MD_extension_97 ?_
            refine ⟨hIk, (md_Y.tt (f4.x.y.up (by decide)) (md_Y.tt (f10.x.y.up (by decide)) (hFk.x.y.up (by decide)))), Or.inl ⟨md_s1 (by omega), ?_⟩⟩
            by_cases h4 : E.1.length = 4
            · exact if_pos h4
            · rw [if_neg h4]
              refine mo_excF hen h10 ?_
              rcases hJ with h | ⟨-, h⟩
              · omega
              · by_cases h7 : M10 277 7 = 0
                · by_cases hn : num ≤ 255
                  · refine Or.inr (Or.inr ((md_any hEL).mpr ?_))
                    apply Classical.byContradiction
                    intro z
                    exact h ⟨⟨h7, hn, by omega⟩, fun j hj e => z ⟨j, by omega, e⟩⟩
                  · exact Or.inr (Or.inl (by omega))
                · exact Or.inl (md_s1 h7)
        · skip
          refine xv_aload_n hX 0 dc_MD_extension_57 rfl (rfl : _ = 58) ?_
          refine xv_geti hX fl_MD_34 rfl rfl (by decide) (v := Mk 277 7) rfl dc_MD_extension_58 (rfl : _ = 61) ?_
          refine xv_if_ne hX (nI_toInt (by omega)) (tgt := 90) (pq := 64) dc_MD_extension_61 (by decide) rfl (fun c61 => ?_) (fun c61 => ?_)
          · skip
            refine xv_aload_n hX 0 dc_MD_extension_90 rfl (rfl : _ = 91) ?_
            refine xv_geti hX fl_MD_34 rfl rfl (by decide) (v := Mk 277 7) rfl dc_MD_extension_91 (rfl : _ = 94) ?_
            refine xv_if_eq hX (nI_toInt (by omega)) (tgt := 98) (pq := 97) dc_MD_extension_94 (by decide) rfl (fun c94 => ?_) (fun c94 => ?_)
            · skip
              exact absurd c94 (by omega)
            · skip
              refine xv_retv hX hR dc_MD_extension_97 ?_
              refine ⟨hIk, (md_Y.tt (f4.x.y.up (by decide)) (md_Y.tt (f10.x.y.up (by decide)) (hFk.x.y.up (by decide)))), Or.inl ⟨md_s1 (by omega), ?_⟩⟩
              by_cases h4 : E.1.length = 4
              · exact if_pos h4
              · rw [if_neg h4]
                refine mo_excF hen h10 ?_
                rcases hJ with h | ⟨-, h⟩
                · omega
                · by_cases h7 : M10 277 7 = 0
                  · by_cases hn : num ≤ 255
                    · refine Or.inr (Or.inr ((md_any hEL).mpr ?_))
                      apply Classical.byContradiction
                      intro z
                      exact h ⟨⟨h7, hn, by omega⟩, fun j hj e => z ⟨j, by omega, e⟩⟩
                    · exact Or.inr (Or.inl (by omega))
                  · exact Or.inl (md_s1 h7)
          · skip
            refine xv_aload_n hX 0 dc_MD_extension_64 rfl (rfl : _ = 65) ?_
            refine xv_aload_n hX 0 dc_MD_extension_65 rfl (rfl : _ = 66) ?_
            refine xv_getr hX fl_MD_19 rfl rfl (by decide) rfl dc_MD_extension_66 (rfl : _ = 69) ?_
            have hJk : (M10 277 7 = 0 ∧ num ≤ 255 ∧ k ≠ 4) ∧ ∀ j, j < t → M 281 j ≠ num := by rcases hJ with h | h; exact h.2; omega
            have h81t : Mk 281 t = M 281 t := by rw [hFk.1 281 (by decide), f10.1 281 (by decide), f4.1 281 (by decide)]
            have hn81 := (hEL.2.2.1 t (by omega)).2
            refine xv_iload hX 4 dc_MD_extension_69 rfl (rfl : _ = 71) ?_
            refine xv_iald hX rfl (by decide) (by omega) (by decide) (v := M 281 t) h81t dc_MD_extension_71 (rfl : _ = 72) ?_
            refine xv_iload_n hX 3 dc_MD_extension_72 rfl (rfl : _ = 73) ?_
            refine xv_icmp_ne hX (nI_toInt (by omega)) (nI_toInt (by omega)) (tgt := 80) (pq := 76) dc_MD_extension_73 (by decide) rfl (fun c73 => ?_) (fun c73 => ?_)
            · skip
              refine xv_iconst hX (v := nI 0) dc_MD_extension_80 (by decide) (rfl : _ = 81) ?_
              refine xv_putz hX fl_MD_34 rfl rfl (by decide) (by decide) dc_MD_extension_81 (rfl : _ = 84) ?_
              refine xv_iinc hX 4 [1, 2, 3, 4, 0] dc_MD_extension_84 rfl (xi_inc t 1) (by decide) (L' := [(0, .ref (Y.2.2.2 277)), (1, .int (nI l)), (2, .int (nI e)), (3, .int (nI num)), (4, .int (nI (t + 1)))]) rfl (rfl : _ = 87) ?_
              refine xv_goto hX (pq := 48) dc_MD_extension_87 (by decide) ?_
              refine xv_sub (L' := [(0, .ref (Y.2.2.2 277)), (1, .int (nI l)), (2, .int (nI e)), (3, .int (nI num)), (4, .int (nI (t + 1)))]) [0, 1, 2, 3, 4] rfl ?_
              exact ih48 (xm_set Mk 277 7 0) (t + 1) (md_wr hIk (by decide)).1 (hFk.tr (md_wr hIk (by decide)).2.1) ((xm_nk (by decide)).trans h6k) (by omega) (Or.inl ⟨xm_eq, hJk.1, fun j hj => by by_cases hjt : j = t; rw [hjt]; omega; exact hJk.2 j (by omega)⟩) (by omega)
            · skip
              refine xv_iconst hX (v := nI 1) dc_MD_extension_76 (by decide) (rfl : _ = 77) ?_
              refine xv_goto hX (pq := 81) dc_MD_extension_77 (by decide) ?_
              refine xv_putz hX fl_MD_34 rfl rfl (by decide) (by decide) dc_MD_extension_81 (rfl : _ = 84) ?_
              refine xv_iinc hX 4 [1, 2, 3, 4, 0] dc_MD_extension_84 rfl (xi_inc t 1) (by decide) (L' := [(0, .ref (Y.2.2.2 277)), (1, .int (nI l)), (2, .int (nI e)), (3, .int (nI num)), (4, .int (nI (t + 1)))]) rfl (rfl : _ = 87) ?_
              refine xv_goto hX (pq := 48) dc_MD_extension_87 (by decide) ?_
              refine xv_sub (L' := [(0, .ref (Y.2.2.2 277)), (1, .int (nI l)), (2, .int (nI e)), (3, .int (nI num)), (4, .int (nI (t + 1)))]) [0, 1, 2, 3, 4] rfl ?_
              exact ih48 (xm_set Mk 277 7 1) (t + 1) (md_wr hIk (by decide)).1 (hFk.tr (md_wr hIk (by decide)).2.1) ((xm_nk (by decide)).trans h6k) (by omega) (Or.inr ⟨xm_eq, fun z => z.2 t (by omega) (by omega)⟩) (by omega)
    refine xv_sub (L' := [(0, .ref (Y.2.2.2 277)), (1, .int (nI l)), (2, .int (nI e)), (3, .int (nI num)), (4, .int (nI 0))]) [0, 1, 2, 3, 4] rfl ?_
    exact lp48 _ (xm_set M10 277 7 v) 0 (md_wr i10 (by omega)).1 (md_wr i10 (by omega)).2.1 (xm_nk (by decide)) (by omega) (by rw [xm_eq]; rcases hv with ⟨h, g⟩ | ⟨h, g⟩; exact Or.inl ⟨h, g, fun j hj => absurd hj (Nat.not_lt_zero _)⟩; exact Or.inr ⟨h, fun z => g z.1⟩) (Nat.lt_succ_self _)
  refine xv_aload_n hX 0 dc_MD_extension_14 rfl (rfl : _ = 15) ?_
  refine xv_aload_n hX 0 dc_MD_extension_15 rfl (rfl : _ = 16) ?_
  refine xv_geti hX fl_MD_34 rfl rfl (by decide) (v := M10 277 7) rfl dc_MD_extension_16 (rfl : _ = 19) ?_
  refine xv_if_ne hX (nI_toInt (by omega)) (tgt := 37) (pq := 22) dc_MD_extension_19 (by decide) rfl (fun c19 => ?_) (fun c19 => ?_)
  · skip
    refine xv_iconst hX (v := nI 1) dc_MD_extension_37 (by decide) (rfl : _ = 38) ?_
    refine xv_goto hX (pq := 42) dc_MD_extension_38 (by decide) ?_
    refine xv_sub (L' := [(0, .ref (Y.2.2.2 277)), (1, .int (nI l)), (2, .int (nI e)), (3, .int (nI num))]) [0, 1, 2, 3] rfl ?_
    exact j42 1 (by omega)
  · skip
    refine xv_iload_n hX 3 dc_MD_extension_22 rfl (rfl : _ = 23) ?_
    refine xv_sipush hX (v := nI 255) dc_MD_extension_23 (by decide) (rfl : _ = 26) ?_
    refine xv_icmp_gt hX (nI_toInt (by omega)) (show (nI 255).toInt = 255 by decide) (tgt := 37) (pq := 29) dc_MD_extension_26 (by decide) rfl (fun c26 => ?_) (fun c26 => ?_)
    · skip
      refine xv_iconst hX (v := nI 1) dc_MD_extension_37 (by decide) (rfl : _ = 38) ?_
      refine xv_goto hX (pq := 42) dc_MD_extension_38 (by decide) ?_
      refine xv_sub (L' := [(0, .ref (Y.2.2.2 277)), (1, .int (nI l)), (2, .int (nI e)), (3, .int (nI num))]) [0, 1, 2, 3] rfl ?_
      exact j42 1 (by omega)
    · skip
      refine xv_aload_n hX 0 dc_MD_extension_29 rfl (rfl : _ = 30) ?_
      refine xv_geti hX fl_MD_105 rfl rfl (by decide) (v := k) z1025 dc_MD_extension_30 (rfl : _ = 33) ?_
      refine xv_iconst hX (v := nI 4) dc_MD_extension_33 (by decide) (rfl : _ = 34) ?_
      refine xv_icmp_ne hX (nI_toInt (by omega)) (show (nI 4).toInt = 4 by decide) (tgt := 41) (pq := 37) dc_MD_extension_34 (by decide) rfl (fun c34 => ?_) (fun c34 => ?_)
      · skip
        refine xv_iconst hX (v := nI 0) dc_MD_extension_41 (by decide) (rfl : _ = 42) ?_
        refine xv_sub (L' := [(0, .ref (Y.2.2.2 277)), (1, .int (nI l)), (2, .int (nI e)), (3, .int (nI num))]) [0, 1, 2, 3] rfl ?_
        exact j42 0 (by omega)
      · skip
        refine xv_iconst hX (v := nI 1) dc_MD_extension_37 (by decide) (rfl : _ = 38) ?_
        refine xv_goto hX (pq := 42) dc_MD_extension_38 (by decide) ?_
        refine xv_sub (L' := [(0, .ref (Y.2.2.2 277)), (1, .int (nI l)), (2, .int (nI e)), (3, .int (nI num))]) [0, 1, 2, 3] rfl ?_
        exact j42 1 (by omega)
