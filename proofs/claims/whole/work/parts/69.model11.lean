/-! the reference: fetch, accept, field -/
/-- what field tells -/
def ab_f (A : ab_T) : Nat → Nat
  | 0 => A.1.1
  | 1 => A.1.2.2.1.1
  | 2 => A.1.2.2.1.2
  | 3 => A.1.2.2.2.2.1
  | 4 => A.1.2.2.2.2.2
  | 5 => A.2.2.1
  | 6 => A.2.2.2
  | 7 => if A.2.1.2.1 = true then 1 else 0
  | 8 => ct_o A.2.1.2.2.1
  | 9 => ct_u A.2.1.2.2.2.1
  | 10 => A.2.1.1.length
  | 11 => A.2.1.2.2.2.2.1.length
  | 12 => A.2.1.2.2.2.2.2.length
  | 13 => A.1.2.1.length
  | 14 => A.1.2.2.2.1.length
  | _ => 4294967295

set_option maxRecDepth 100000 in
set_option maxHeartbeats 4000000 in
theorem ct_MD_fetch (ln : Launch) (Y : xw_Y) (M : xm_M) (i : Int32) (As : Nat → ab_T) (hG : md_G M As) : xc_i ln qm_MD_fetch 9 Y [.ref (Y.2.2.2 277), .int i] M (fun r M1 => md_Y md_al M M1 ∧ ((¬ (0 ≤ i.toInt ∧ i.toInt < (M 277 2 : Nat)) ∧ r = nI 0) ∨ ∃ a, i = nI a ∧ a < M 277 2 ∧ r = nI 1 ∧ md_A (M 278) M1 (As a))) := by
  refine xc_i.mk .boolean rfl (by decide) (Nat.le_of_ble_eq_true rfl) ?_
  intro X hXl hX hR
  subst hXl
  have hX : xv_ok X Y prog_9_method_25_code "CertificatePathModel" 2 (xc_rm 9) := hX
  show xv_V X Y 2 0 0 xw_lk xw_N M 0 [(0, .ref (Y.2.2.2 277)), (1, .int i)] []
  obtain ⟨hk8, hb8, hkp⟩ := id hG
  refine xv_aload_n hX 0 dc_MD_fetch_0 rfl (rfl : _ = 1) ?_
  refine xv_iload_n hX 1 dc_MD_fetch_1 rfl (rfl : _ = 2) ?_
  refine xv_calli hX (As := [.int i]) (rest := []) (ct_MD_kept _ Y M i hk8) ml_MD_177 li_MD_kept rfl (by decide) rfl rfl rfl (by decide) ⟨by decide, by decide⟩ ⟨Nat.le_refl _, Nat.le_refl _⟩ (Nat.le_of_ble_eq_true rfl) dc_MD_fetch_2 (rfl : _ = 5) (fun r2 M2 p2 => ?_)
  obtain ⟨pM, t, pr, pt, pi⟩ := p2
  rw [pM, pr]
  refine xv_if_eq hX (nI_toInt (by omega)) (tgt := 30) (pq := 8) dc_MD_fetch_5 (by decide) rfl (fun c5 => ?_) (fun c5 => ?_)
  · skip
    refine xv_iconst hX (v := nI 0) dc_MD_fetch_30 (by decide) (rfl : _ = 31) ?_
    refine xv_reti hX hR (by decide) dc_MD_fetch_31 ?_
    exact ⟨md_Y.rf _ _, Or.inl ⟨fun z => by have := pi.mpr z; omega, rfl⟩⟩
  · skip
    have hka := pi.mp (by omega)
    obtain ⟨a, ha, rfl⟩ := xi_of (x := i) (by omega)
    have ta : (nI a).toInt = (a : Int) := nI_toInt ha
    obtain ⟨hsa, C, hC, hCA⟩ := hkp a (by omega)
    refine xv_aload_n hX 0 dc_MD_fetch_8 rfl (rfl : _ = 9) ?_
    refine xv_sipush hX (v := nI 160) dc_MD_fetch_9 (by decide) (rfl : _ = 12) ?_
    refine xv_iload_n hX 1 dc_MD_fetch_12 rfl (rfl : _ = 13) ?_
    refine xv_imul hX dc_MD_fetch_13 (pk_mul 160 a) (rfl : _ = 14) ?_
    refine xv_aload_n hX 0 dc_MD_fetch_14 rfl (rfl : _ = 15) ?_
    refine xv_getr hX fl_MD_13 rfl rfl (by decide) rfl dc_MD_fetch_15 (rfl : _ = 18) ?_
    refine xv_iload_n hX 1 dc_MD_fetch_18 rfl (rfl : _ = 19) ?_
    refine xv_iald hX rfl (by decide) (by omega) (by decide) (v := M 279 a) rfl dc_MD_fetch_19 (rfl : _ = 20) ?_
    refine xv_calli hX (As := [.int (nI (160 * a)), .int (nI (M 279 a))]) (rest := []) (ct_MD_read _ Y M (160 * a) (M 279 a) hb8 (by omega)) ml_MD_180 li_MD_read rfl (by decide) rfl rfl rfl (by decide) ⟨by decide, by decide⟩ ⟨Nat.le_refl _, Nat.le_refl _⟩ (Nat.le_of_ble_eq_true rfl) dc_MD_fetch_20 (rfl : _ = 23) (fun r20 M20 p20 => ?_)
    obtain ⟨i20, f20, h20⟩ := p20
    obtain ⟨hr, hA⟩ : r20 = nI 1 ∧ md_A (M 278) M20 (As a) := by
      rcases h20 with ⟨-, h⟩ | ⟨h, C2, hC2, hm⟩
      · rw [hC] at h; cases h
      · refine ⟨h, ?_⟩
        rw [← hCA]
        rw [hC] at hC2
        cases hC2
        exact md_C.a (fun k hk => hb8 k (by omega)) (by omega) (by omega) hC hm
    rw [hr]
    refine xv_if_eq hX (show (nI 1).toInt = 1 by decide) (tgt := 30) (pq := 26) dc_MD_fetch_23 (by decide) rfl (fun c23 => ?_) (fun c23 => ?_)
    · exact absurd c23 (by decide)
    · skip
      refine xv_iconst hX (v := nI 1) dc_MD_fetch_26 (by decide) (rfl : _ = 27) ?_
      refine xv_goto hX (pq := 31) dc_MD_fetch_27 (by decide) ?_
      refine xv_reti hX hR (by decide) dc_MD_fetch_31 ?_
      exact ⟨f20, Or.inr ⟨a, rfl, by omega, rfl, hA⟩⟩

set_option maxRecDepth 100000 in
set_option maxHeartbeats 4000000 in
theorem ct_MD_accept (ln : Launch) (Y : xw_Y) (M : xm_M) (hk8 : M 277 2 ≤ 8) (h1 : M 277 1 ≤ 160) (hb8 : ∀ j, j < 1440 → M 278 j < 256) : xc_i ln qm_MD_accept 9 Y [.ref (Y.2.2.2 277)] M (fun r M1 => (r = nI 4294967295 ∧ ps_cert (M 278) 1280 (1280 + M 277 1) = none ∧ md_Y md_al M M1) ∨ ∃ C, ps_cert (M 278) 1280 (1280 + M 277 1) = some C ∧ ((r = nI 4294967294 ∧ M 277 2 = 8 ∧ md_Y md_al M M1) ∨ (M 277 2 < 8 ∧ r = nI (M 277 2) ∧ M1 277 2 = M 277 2 + 1 ∧ (∀ j, j < M 277 1 → M1 278 (160 * M 277 2 + j) = M 278 (1280 + j)) ∧ (∀ j, (j < 160 * M 277 2 ∨ 160 * M 277 2 + M 277 1 ≤ j) → M1 278 j = M 278 j) ∧ (∀ j, j ∉ md_al → j ≠ 2 → M1 277 j = M 277 j) ∧ M1 279 (M 277 2) = M 277 1 ∧ (∀ j, j ≠ M 277 2 → M1 279 j = M 279 j) ∧ ∀ q, q ≠ 277 → q ≠ 278 → q ≠ 279 → q ≠ 281 → M1 q = M q))) := by
  refine xc_i.mk .int rfl (by decide) (Nat.le_of_ble_eq_true rfl) ?_
  intro X hXl hX hR
  subst hXl
  have hX : xv_ok X Y prog_9_method_26_code "CertificatePathModel" 2 (xc_rm 9) := hX
  show xv_V X Y 2 0 0 xw_lk xw_N M 0 [(0, .ref (Y.2.2.2 277))] []
  refine xv_aload_n hX 0 dc_MD_accept_0 rfl (rfl : _ = 1) ?_
  refine xv_sipush hX (v := nI 1280) dc_MD_accept_1 (by decide) (rfl : _ = 4) ?_
  refine xv_aload_n hX 0 dc_MD_accept_4 rfl (rfl : _ = 5) ?_
  refine xv_geti hX fl_MD_22 rfl rfl (by decide) (v := M 277 1) rfl dc_MD_accept_5 (rfl : _ = 8) ?_
  refine xv_calli hX (As := [.int (nI 1280), .int (nI (M 277 1))]) (rest := []) (ct_MD_read _ Y M 1280 (M 277 1) hb8 (by omega)) ml_MD_180 li_MD_read rfl (by decide) rfl rfl rfl (by decide) ⟨by decide, by decide⟩ ⟨Nat.le_refl _, Nat.le_refl _⟩ (Nat.le_of_ble_eq_true rfl) dc_MD_accept_8 (rfl : _ = 11) (fun r8 M8 p8 => ?_)
  obtain ⟨i8, f8, h8⟩ := p8
  obtain ⟨t8, z8, ht8, hi8⟩ : ∃ t, r8 = nI t ∧ t < 2 ∧ (t = 1 ↔ ∃ C, ps_cert (M 278) 1280 (1280 + M 277 1) = some C) := by
    rcases h8 with ⟨h, hc⟩ | ⟨h, C, hc, -⟩
    · exact ⟨0, h, by decide, fun z => absurd z (by decide), fun ⟨C, z⟩ => by rw [hc] at z; cases z⟩
    · exact ⟨1, h, by decide, fun _ => ⟨C, hc⟩, fun _ => rfl⟩
  rw [z8]
  have s81 : M8 277 1 = M 277 1 := f8.2 1 (by decide)
  have s82 : M8 277 2 = M 277 2 := f8.2 2 (by decide)
  refine xv_if_ne hX (nI_toInt (by omega)) (tgt := 16) (pq := 14) dc_MD_accept_11 (by decide) rfl (fun c11 => ?_) (fun c11 => ?_)
  · skip
    refine xv_aload_n hX 0 dc_MD_accept_16 rfl (rfl : _ = 17) ?_
    refine xv_geti hX fl_MD_174 rfl rfl (by decide) (v := M8 277 2) rfl dc_MD_accept_17 (rfl : _ = 20) ?_
    refine xv_bipush hX (v := nI 8) dc_MD_accept_20 (by decide) (rfl : _ = 22) ?_
    refine xv_icmp_ne hX (nI_toInt (by omega)) (show (nI 8).toInt = 8 by decide) (tgt := 28) (pq := 25) dc_MD_accept_22 (by decide) rfl (fun c22 => ?_) (fun c22 => ?_)
    · skip
      have hcn : M 277 2 < 8 := by omega
      refine xv_iconst hX (v := nI 0) dc_MD_accept_28 (by decide) (rfl : _ = 29) ?_
      refine xv_istore_n hX [1, 0] dc_MD_accept_29 (by decide) (L' := [(0, .ref (Y.2.2.2 277)), (1, .int (nI 0))]) rfl (rfl : _ = 30) ?_
      have lp30 : ∀ (fu30 : Nat) (Mk : xm_M) (k : Nat) (hk : k ≤ M 277 1) (hz : Mk 277 = M8 277) (hbb : ∀ j, j < k → Mk 278 (160 * M 277 2 + j) = M 278 (1280 + j)) (ho : ∀ j, (j < 160 * M 277 2 ∨ 160 * M 277 2 + k ≤ j) → Mk 278 j = M 278 j) (hF : ∀ q, q ≠ 278 → Mk q = M8 q), M 277 1 - k < fu30 → xv_V X Y 2 0 0 xw_lk xw_N Mk 30 [(0, .ref (Y.2.2.2 277)), (1, .int (nI k))] [] := by
        intro n30
        induction n30 with
        | zero => intro Mk k hk hz hbb ho hF hm30; exact absurd hm30 (Nat.not_lt_zero _)
        | succ n30 ih30 =>
          intro Mk k hk hz hbb ho hF hm30
          refine xv_iload_n hX 1 dc_MD_accept_30 rfl (rfl : _ = 31) ?_
          have z1 : Mk 277 1 = M 277 1 := by rw [hz]; exact s81
          have z2 : Mk 277 2 = M 277 2 := by rw [hz]; exact s82
          refine xv_aload_n hX 0 dc_MD_accept_31 rfl (rfl : _ = 32) ?_
          refine xv_geti hX fl_MD_22 rfl rfl (by decide) (v := M 277 1) z1 dc_MD_accept_32 (rfl : _ = 35) ?_
          refine xv_icmp_ge hX (nI_toInt (by omega)) (nI_toInt (by omega)) (tgt := 69) (pq := 38) dc_MD_accept_35 (by decide) rfl (fun c35 => ?_) (fun c35 => ?_)
          · skip
            refine xv_aload_n hX 0 dc_MD_accept_69 rfl (rfl : _ = 70) ?_
            refine xv_getr hX fl_MD_13 rfl rfl (by decide) rfl dc_MD_accept_70 (rfl : _ = 73) ?_
            refine xv_aload_n hX 0 dc_MD_accept_73 rfl (rfl : _ = 74) ?_
            refine xv_geti hX fl_MD_174 rfl rfl (by decide) (v := M 277 2) z2 dc_MD_accept_74 (rfl : _ = 77) ?_
            refine xv_aload_n hX 0 dc_MD_accept_77 rfl (rfl : _ = 78) ?_
            refine xv_geti hX fl_MD_22 rfl rfl (by decide) (v := M 277 1) z1 dc_MD_accept_78 (rfl : _ = 81) ?_
            refine xv_iast hX rfl (by decide) (by omega) (by decide) dc_MD_accept_81 (rfl : _ = 82) ?_
            refine xv_aload_n hX 0 dc_MD_accept_82 rfl (rfl : _ = 83) ?_
            refine xv_aload_n hX 0 dc_MD_accept_83 rfl (rfl : _ = 84) ?_
            refine xv_geti hX fl_MD_174 rfl rfl (by decide) (v := M 277 2) ((xm_np (by decide)).trans z2) dc_MD_accept_84 (rfl : _ = 87) ?_
            refine xv_iconst hX (v := nI 1) dc_MD_accept_87 (by decide) (rfl : _ = 88) ?_
            refine xv_iadd hX dc_MD_accept_88 (nI_add (M 277 2) 1) (rfl : _ = 89) ?_
            refine xv_puti hX fl_MD_174 rfl rfl (by decide) dc_MD_accept_89 (rfl : _ = 92) ?_
            refine xv_aload_n hX 0 dc_MD_accept_92 rfl (rfl : _ = 93) ?_
            refine xv_geti hX fl_MD_174 rfl rfl (by decide) (v := M 277 2 + 1) xm_eq dc_MD_accept_93 (rfl : _ = 96) ?_
            refine xv_iconst hX (v := nI 1) dc_MD_accept_96 (by decide) (rfl : _ = 97) ?_
            refine xv_isub hX dc_MD_accept_97 (pk_sub (by omega)) (rfl : _ = 98) ?_
            refine xv_reti hX hR rfl dc_MD_accept_98 ?_
            obtain ⟨C, hc⟩ := hi8.mp (by omega)
            refine Or.inr ⟨C, hc, Or.inr ⟨hcn, ?_, ?_, fun j hj => ?_, fun j hj => ?_, fun j a b => ?_, ?_, fun j a => ?_, fun q a b c d => ?_⟩⟩
            · congr 1
            · rw [xm_eq]
            · rw [xm_oth (by decide), xm_oth (by decide)]; exact hbb j (by omega)
            · rw [xm_oth (by decide), xm_oth (by decide)]; exact ho j (by omega)
            · rw [xm_nk b, xm_oth (by decide), hz]; exact f8.2 j a
            · rw [xm_oth (by decide), xm_eq]
            · rw [xm_oth (by decide), xm_nk a, hF 279 (by decide), f8.1 279 (by decide) (by decide)]
            · rw [xm_oth a, xm_oth c, hF q b, f8.1 q a d]
          · skip
            refine xv_aload_n hX 0 dc_MD_accept_38 rfl (rfl : _ = 39) ?_
            refine xv_getr hX fl_MD_7 rfl rfl (by decide) rfl dc_MD_accept_39 (rfl : _ = 42) ?_
            refine xv_sipush hX (v := nI 160) dc_MD_accept_42 (by decide) (rfl : _ = 45) ?_
            refine xv_aload_n hX 0 dc_MD_accept_45 rfl (rfl : _ = 46) ?_
            refine xv_geti hX fl_MD_174 rfl rfl (by decide) (v := M 277 2) z2 dc_MD_accept_46 (rfl : _ = 49) ?_
            refine xv_imul hX dc_MD_accept_49 (pk_mul 160 (M 277 2)) (rfl : _ = 50) ?_
            refine xv_iload_n hX 1 dc_MD_accept_50 rfl (rfl : _ = 51) ?_
            refine xv_iadd hX dc_MD_accept_51 (nI_add (160 * (M 277 2)) k) (rfl : _ = 52) ?_
            refine xv_aload_n hX 0 dc_MD_accept_52 rfl (rfl : _ = 53) ?_
            refine xv_getr hX fl_MD_7 rfl rfl (by decide) rfl dc_MD_accept_53 (rfl : _ = 56) ?_
            refine xv_sipush hX (v := nI 1280) dc_MD_accept_56 (by decide) (rfl : _ = 59) ?_
            refine xv_iload_n hX 1 dc_MD_accept_59 rfl (rfl : _ = 60) ?_
            refine xv_iadd hX dc_MD_accept_60 (nI_add 1280 k) (rfl : _ = 61) ?_
            refine xv_iald hX rfl (by decide) (by omega) (by decide) (v := Mk 278 (1280 + k)) rfl dc_MD_accept_61 (rfl : _ = 62) ?_
            refine xv_iast hX rfl (by decide) (by omega) (by decide) dc_MD_accept_62 (rfl : _ = 63) ?_
            refine xv_iinc hX 1 [1, 0] dc_MD_accept_63 rfl (xi_inc k 1) (by decide) (L' := [(0, .ref (Y.2.2.2 277)), (1, .int (nI (k + 1)))]) rfl (rfl : _ = 66) ?_
            refine xv_goto hX (pq := 30) dc_MD_accept_66 (by decide) ?_
            refine xv_sub (L' := [(0, .ref (Y.2.2.2 277)), (1, .int (nI (k + 1)))]) [0, 1] rfl ?_
            exact ih30 (xm_set Mk 278 ((160 * (M 277 2)) + k) (Mk 278 (1280 + k))) (k + 1) (by omega) (by rw [xm_oth (by decide)]; exact hz) (fun j hj => by by_cases e : j = k; (rw [e, xm_eq]; exact ho _ (by omega)); (rw [xm_nk (by omega)]; exact hbb j (by omega))) (fun j hj => by rw [xm_nk (by omega)]; exact ho j (by omega)) (fun q x => by rw [xm_oth x]; exact hF q x) (by omega)
      refine xv_sub (L' := [(0, .ref (Y.2.2.2 277)), (1, .int (nI 0))]) [0, 1] rfl ?_
      exact lp30 _ M8 0 (Nat.zero_le _) rfl (fun j hj => absurd hj (Nat.not_lt_zero _)) (fun j _ => by rw [f8.1 278 (by decide) (by decide)]) (fun q _ => rfl) (Nat.lt_succ_self _)
    · skip
      refine xv_bipush hX (v := nI 4294967294) dc_MD_accept_25 (by decide) (rfl : _ = 27) ?_
      refine xv_reti hX hR rfl dc_MD_accept_27 ?_
      obtain ⟨C, hc⟩ := hi8.mp (by omega)
      exact Or.inr ⟨C, hc, Or.inl ⟨rfl, by omega, f8⟩⟩
  · skip
    refine xv_iconst hX (v := nI 4294967295) dc_MD_accept_14 (by decide) (rfl : _ = 15) ?_
    refine xv_reti hX hR rfl dc_MD_accept_15 ?_
    rcases h8 with ⟨h, hc⟩ | ⟨h, C, hc, -⟩
    · exact Or.inl ⟨rfl, hc, f8⟩
    · have := hi8.mpr ⟨C, hc⟩; omega

set_option maxRecDepth 100000 in
set_option maxHeartbeats 4000000 in
theorem ct_MD_field (ln : Launch) (Y : xw_Y) (M : xm_M) (i k : Int32) (As : Nat → ab_T) (hG : md_G M As) : xc_i ln qm_MD_field 10 Y [.ref (Y.2.2.2 277), .int i, .int k] M (fun r M1 => md_Y md_al M M1 ∧ ((¬ (0 ≤ i.toInt ∧ i.toInt < (M 277 2 : Nat)) ∧ r = nI 4294967295) ∨ ∃ a, i = nI a ∧ a < M 277 2 ∧ ((∃ j : Nat, j < 15 ∧ k.toInt = (j : Int) ∧ r = nI (ab_f (As a) j)) ∨ (¬ (0 ≤ k.toInt ∧ k.toInt ≤ 14) ∧ r = nI 4294967295)))) := by
  refine xc_i.mk .int rfl (by decide) (Nat.le_of_ble_eq_true rfl) ?_
  intro X hXl hX hR
  subst hXl
  have hX : xv_ok X Y prog_9_method_28_code "CertificatePathModel" 3 (xc_rm 10) := hX
  show xv_V X Y 3 0 0 xw_lk xw_N M 0 [(0, .ref (Y.2.2.2 277)), (1, .int i), (2, .int k)] []
  obtain ⟨hk8, hb8, hkp⟩ := id hG
  refine xv_aload_n hX 0 dc_MD_field_0 rfl (rfl : _ = 1) ?_
  refine xv_iload_n hX 1 dc_MD_field_1 rfl (rfl : _ = 2) ?_
  refine xv_calli hX (As := [.int i]) (rest := []) (ct_MD_fetch _ Y M i As hG) ml_MD_183 li_MD_fetch rfl (by decide) rfl rfl rfl (by decide) ⟨by decide, by decide⟩ ⟨Nat.le_refl _, Nat.le_refl _⟩ (Nat.le_of_ble_eq_true rfl) dc_MD_field_2 (rfl : _ = 5) (fun r2 M2 p2 => ?_)
  obtain ⟨f2, h2⟩ := p2
  obtain ⟨t2, z2, ht2, hi2⟩ : ∃ t, r2 = nI t ∧ t < 2 ∧ (t = 1 ↔ (0 ≤ i.toInt ∧ i.toInt < (M 277 2 : Nat))) := by
    rcases h2 with ⟨h, hr⟩ | ⟨a, rfl, ha, hr, -⟩
    · exact ⟨0, hr, by decide, fun z => absurd z (by decide), fun z => absurd z h⟩
    · exact ⟨1, hr, by decide, fun _ => by rw [nI_toInt (by omega)]; omega, fun _ => rfl⟩
  rw [z2]
  have G2 := hG.y f2
  refine xv_if_ne hX (nI_toInt (by omega)) (tgt := 10) (pq := 8) dc_MD_field_5 (by decide) rfl (fun c5 => ?_) (fun c5 => ?_)
  · skip
    have hin := hi2.mp (by omega)
    obtain ⟨a, rfl, ha, -, hH, hE, h14, h15, hHs0, hSg⟩ : ∃ a, i = nI a ∧ a < M 277 2 ∧ r2 = nI 1 ∧ md_A (M 278) M2 (As a) := by rcases h2 with ⟨h, -⟩ | h; exact absurd hin h; exact h
    have h29 := hE.2.1.2.2.1
    have h29b : M2 277 29 ≤ 1 := by rw [h29]; split <;> decide
    refine xv_iload_n hX 2 dc_MD_field_10 rfl (rfl : _ = 11) ?_
    by_cases sw11_0 : (k).toInt = 0
    · skip
      refine xv_tsIn hX (rfl : (k).toInt = _) (tgt := 84) dc_MD_field_11 (by omega) (by omega) (by rw [sw11_0]; rfl) (by decide) ?_
      refine xv_aload_n hX 0 dc_MD_field_84 rfl (rfl : _ = 85) ?_
      refine xv_geti hX fl_MD_132 rfl rfl (by decide) (v := M2 277 8) rfl dc_MD_field_85 (rfl : _ = 88) ?_
      refine xv_reti hX hR rfl dc_MD_field_88 ?_
      exact ⟨f2, Or.inr ⟨a, rfl, ha, Or.inl ⟨0, by decide, by omega, congrArg nI hH.1⟩⟩⟩
    by_cases sw11_1 : (k).toInt = 1
    · skip
      refine xv_tsIn hX (rfl : (k).toInt = _) (tgt := 89) dc_MD_field_11 (by omega) (by omega) (by rw [sw11_1]; rfl) (by decide) ?_
      refine xv_aload_n hX 0 dc_MD_field_89 rfl (rfl : _ = 90) ?_
      refine xv_geti hX fl_MD_144 rfl rfl (by decide) (v := M2 277 9) rfl dc_MD_field_90 (rfl : _ = 93) ?_
      refine xv_reti hX hR rfl dc_MD_field_93 ?_
      exact ⟨f2, Or.inr ⟨a, rfl, ha, Or.inl ⟨1, by decide, by omega, congrArg nI hH.2.2.1.1⟩⟩⟩
    by_cases sw11_2 : (k).toInt = 2
    · skip
      refine xv_tsIn hX (rfl : (k).toInt = _) (tgt := 94) dc_MD_field_11 (by omega) (by omega) (by rw [sw11_2]; rfl) (by decide) ?_
      refine xv_aload_n hX 0 dc_MD_field_94 rfl (rfl : _ = 95) ?_
      refine xv_geti hX fl_MD_147 rfl rfl (by decide) (v := M2 277 10) rfl dc_MD_field_95 (rfl : _ = 98) ?_
      refine xv_reti hX hR rfl dc_MD_field_98 ?_
      exact ⟨f2, Or.inr ⟨a, rfl, ha, Or.inl ⟨2, by decide, by omega, congrArg nI hH.2.2.1.2⟩⟩⟩
    by_cases sw11_3 : (k).toInt = 3
    · skip
      refine xv_tsIn hX (rfl : (k).toInt = _) (tgt := 99) dc_MD_field_11 (by omega) (by omega) (by rw [sw11_3]; rfl) (by decide) ?_
      refine xv_aload_n hX 0 dc_MD_field_99 rfl (rfl : _ = 100) ?_
      refine xv_geti hX fl_MD_120 rfl rfl (by decide) (v := M2 277 11) rfl dc_MD_field_100 (rfl : _ = 103) ?_
      refine xv_reti hX hR rfl dc_MD_field_103 ?_
      exact ⟨f2, Or.inr ⟨a, rfl, ha, Or.inl ⟨3, by decide, by omega, congrArg nI hH.2.2.2.2.1⟩⟩⟩
    by_cases sw11_4 : (k).toInt = 4
    · skip
      refine xv_tsIn hX (rfl : (k).toInt = _) (tgt := 104) dc_MD_field_11 (by omega) (by omega) (by rw [sw11_4]; rfl) (by decide) ?_
      refine xv_aload_n hX 0 dc_MD_field_104 rfl (rfl : _ = 105) ?_
      refine xv_geti hX fl_MD_123 rfl rfl (by decide) (v := M2 277 12) rfl dc_MD_field_105 (rfl : _ = 108) ?_
      refine xv_reti hX hR rfl dc_MD_field_108 ?_
      exact ⟨f2, Or.inr ⟨a, rfl, ha, Or.inl ⟨4, by decide, by omega, congrArg nI hH.2.2.2.2.2⟩⟩⟩
    by_cases sw11_5 : (k).toInt = 5
    · skip
      refine xv_tsIn hX (rfl : (k).toInt = _) (tgt := 109) dc_MD_field_11 (by omega) (by omega) (by rw [sw11_5]; rfl) (by decide) ?_
      refine xv_aload_n hX 0 dc_MD_field_109 rfl (rfl : _ = 110) ?_
      refine xv_geti hX fl_MD_171 rfl rfl (by decide) (v := M2 277 13) rfl dc_MD_field_110 (rfl : _ = 113) ?_
      refine xv_reti hX hR rfl dc_MD_field_113 ?_
      exact ⟨f2, Or.inr ⟨a, rfl, ha, Or.inl ⟨5, by decide, by omega, congrArg nI hSg⟩⟩⟩
    by_cases sw11_6 : (k).toInt = 6
    · skip
      refine xv_tsIn hX (rfl : (k).toInt = _) (tgt := 114) dc_MD_field_11 (by omega) (by omega) (by rw [sw11_6]; rfl) (by decide) ?_
      refine xv_aload_n hX 0 dc_MD_field_114 rfl (rfl : _ = 115) ?_
      refine xv_aload_n hX 0 dc_MD_field_115 rfl (rfl : _ = 116) ?_
      refine xv_geti hX fl_MD_129 rfl rfl (by decide) (v := M2 277 14) rfl dc_MD_field_116 (rfl : _ = 119) ?_
      refine xv_aload_n hX 0 dc_MD_field_119 rfl (rfl : _ = 120) ?_
      refine xv_geti hX fl_MD_165 rfl rfl (by decide) (v := M2 277 15) rfl dc_MD_field_120 (rfl : _ = 123) ?_
      refine xv_calli hX (As := [.int (nI (M2 277 14)), .int (nI (M2 277 15))]) (rest := []) (ct_MD_hashed _ Y M2 (M2 277 14) (M2 277 15) (by omega) (by omega) G2.2.1) ml_MD_30 li_MD_hashed rfl (by decide) rfl rfl rfl (by decide) ⟨by decide, by decide⟩ ⟨Nat.le_refl _, Nat.le_refl _⟩ (Nat.le_of_ble_eq_true rfl) dc_MD_field_123 (rfl : _ = 126) (fun r123 M123 p123 => ?_)
      rw [p123.1, p123.2]
      have hHs : ps_hash (M2 278) (M2 277 14) (M2 277 15 - M2 277 14) = (As a).2.2.2 := by rw [f2.1 278 (by decide) (by decide)]; exact hHs0
      refine xv_reti hX hR rfl dc_MD_field_126 ?_
      exact ⟨f2, Or.inr ⟨a, rfl, ha, Or.inl ⟨6, by decide, by omega, congrArg nI hHs⟩⟩⟩
    by_cases sw11_7 : (k).toInt = 7
    · skip
      refine xv_tsIn hX (rfl : (k).toInt = _) (tgt := 127) dc_MD_field_11 (by omega) (by omega) (by rw [sw11_7]; rfl) (by decide) ?_
      refine xv_aload_n hX 0 dc_MD_field_127 rfl (rfl : _ = 128) ?_
      refine xv_geti hX fl_MD_67 rfl rfl (by decide) (v := M2 277 29) rfl dc_MD_field_128 (rfl : _ = 131) ?_
      refine xv_if_eq hX (nI_toInt (by omega)) (tgt := 138) (pq := 134) dc_MD_field_131 (by decide) rfl (fun c131 => ?_) (fun c131 => ?_)
      · skip
        refine xv_iconst hX (v := nI 0) dc_MD_field_138 (by decide) (rfl : _ = 139) ?_
        refine xv_reti hX hR rfl dc_MD_field_139 ?_
        exact ⟨f2, Or.inr ⟨a, rfl, ha, Or.inl ⟨7, by decide, by omega, congrArg nI (show 0 = (if (As a).2.1.2.1 = true then 1 else 0) by omega)⟩⟩⟩
      · skip
        refine xv_iconst hX (v := nI 1) dc_MD_field_134 (by decide) (rfl : _ = 135) ?_
        refine xv_goto hX (pq := 139) dc_MD_field_135 (by decide) ?_
        refine xv_reti hX hR rfl dc_MD_field_139 ?_
        exact ⟨f2, Or.inr ⟨a, rfl, ha, Or.inl ⟨7, by decide, by omega, congrArg nI (show 1 = (if (As a).2.1.2.1 = true then 1 else 0) by omega)⟩⟩⟩
    by_cases sw11_8 : (k).toInt = 8
    · skip
      refine xv_tsIn hX (rfl : (k).toInt = _) (tgt := 140) dc_MD_field_11 (by omega) (by omega) (by rw [sw11_8]; rfl) (by decide) ?_
      refine xv_aload_n hX 0 dc_MD_field_140 rfl (rfl : _ = 141) ?_
      refine xv_geti hX fl_MD_74 rfl rfl (by decide) (v := M2 277 30) rfl dc_MD_field_141 (rfl : _ = 144) ?_
      refine xv_reti hX hR rfl dc_MD_field_144 ?_
      exact ⟨f2, Or.inr ⟨a, rfl, ha, Or.inl ⟨8, by decide, by omega, congrArg nI hE.2.1.2.2.2.1⟩⟩⟩
    by_cases sw11_9 : (k).toInt = 9
    · skip
      refine xv_tsIn hX (rfl : (k).toInt = _) (tgt := 145) dc_MD_field_11 (by omega) (by omega) (by rw [sw11_9]; rfl) (by decide) ?_
      refine xv_aload_n hX 0 dc_MD_field_145 rfl (rfl : _ = 146) ?_
      refine xv_geti hX fl_MD_57 rfl rfl (by decide) (v := M2 277 31) rfl dc_MD_field_146 (rfl : _ = 149) ?_
      refine xv_reti hX hR rfl dc_MD_field_149 ?_
      exact ⟨f2, Or.inr ⟨a, rfl, ha, Or.inl ⟨9, by decide, by omega, congrArg nI hE.2.1.2.2.2.2.1⟩⟩⟩
    by_cases sw11_10 : (k).toInt = 10
    · skip
      refine xv_tsIn hX (rfl : (k).toInt = _) (tgt := 150) dc_MD_field_11 (by omega) (by omega) (by rw [sw11_10]; rfl) (by decide) ?_
      refine xv_aload_n hX 0 dc_MD_field_150 rfl (rfl : _ = 151) ?_
      refine xv_geti hX fl_MD_105 rfl rfl (by decide) (v := M2 277 25) rfl dc_MD_field_151 (rfl : _ = 154) ?_
      refine xv_reti hX hR rfl dc_MD_field_154 ?_
      exact ⟨f2, Or.inr ⟨a, rfl, ha, Or.inl ⟨10, by decide, by omega, congrArg nI hE.1.2.1⟩⟩⟩
    by_cases sw11_11 : (k).toInt = 11
    · skip
      refine xv_tsIn hX (rfl : (k).toInt = _) (tgt := 155) dc_MD_field_11 (by omega) (by omega) (by rw [sw11_11]; rfl) (by decide) ?_
      refine xv_aload_n hX 0 dc_MD_field_155 rfl (rfl : _ = 156) ?_
      refine xv_geti hX fl_MD_90 rfl rfl (by decide) (v := M2 277 32) rfl dc_MD_field_156 (rfl : _ = 159) ?_
      refine xv_reti hX hR rfl dc_MD_field_159 ?_
      exact ⟨f2, Or.inr ⟨a, rfl, ha, Or.inl ⟨11, by decide, by omega, congrArg nI hE.2.1.2.2.2.2.2.1.1⟩⟩⟩
    by_cases sw11_12 : (k).toInt = 12
    · skip
      refine xv_tsIn hX (rfl : (k).toInt = _) (tgt := 160) dc_MD_field_11 (by omega) (by omega) (by rw [sw11_12]; rfl) (by decide) ?_
      refine xv_aload_n hX 0 dc_MD_field_160 rfl (rfl : _ = 161) ?_
      refine xv_geti hX fl_MD_99 rfl rfl (by decide) (v := M2 277 35) rfl dc_MD_field_161 (rfl : _ = 164) ?_
      refine xv_reti hX hR rfl dc_MD_field_164 ?_
      exact ⟨f2, Or.inr ⟨a, rfl, ha, Or.inl ⟨12, by decide, by omega, congrArg nI hE.2.1.2.2.2.2.2.2.1⟩⟩⟩
    by_cases sw11_13 : (k).toInt = 13
    · skip
      refine xv_tsIn hX (rfl : (k).toInt = _) (tgt := 165) dc_MD_field_11 (by omega) (by omega) (by rw [sw11_13]; rfl) (by decide) ?_
      refine xv_aload_n hX 0 dc_MD_field_165 rfl (rfl : _ = 166) ?_
      refine xv_geti hX fl_MD_141 rfl rfl (by decide) (v := M2 277 21) rfl dc_MD_field_166 (rfl : _ = 169) ?_
      refine xv_reti hX hR rfl dc_MD_field_169 ?_
      exact ⟨f2, Or.inr ⟨a, rfl, ha, Or.inl ⟨13, by decide, by omega, congrArg nI hH.2.1.2.1⟩⟩⟩
    by_cases sw11_14 : (k).toInt = 14
    · skip
      refine xv_tsIn hX (rfl : (k).toInt = _) (tgt := 170) dc_MD_field_11 (by omega) (by omega) (by rw [sw11_14]; rfl) (by decide) ?_
      refine xv_aload_n hX 0 dc_MD_field_170 rfl (rfl : _ = 171) ?_
      refine xv_geti hX fl_MD_156 rfl rfl (by decide) (v := M2 277 24) rfl dc_MD_field_171 (rfl : _ = 174) ?_
      refine xv_reti hX hR rfl dc_MD_field_174 ?_
      exact ⟨f2, Or.inr ⟨a, rfl, ha, Or.inl ⟨14, by decide, by omega, congrArg nI hH.2.2.2.1.2.1⟩⟩⟩
    refine xv_tsOut hX (rfl : (k).toInt = _) (tgt := 175) dc_MD_field_11 (by omega) (by decide) ?_
    refine xv_iconst hX (v := nI 4294967295) dc_MD_field_175 (by decide) (rfl : _ = 176) ?_
    refine xv_reti hX hR rfl dc_MD_field_176 ?_
    exact ⟨f2, Or.inr ⟨a, rfl, ha, Or.inr ⟨by omega, rfl⟩⟩⟩
  · skip
    refine xv_iconst hX (v := nI 4294967295) dc_MD_field_8 (by decide) (rfl : _ = 9) ?_
    refine xv_reti hX hR rfl dc_MD_field_9 ?_
    exact ⟨f2, Or.inl ⟨fun z => by have := hi2.mpr z; omega, rfl⟩⟩
