/-! usage, bounds, extensions are written -/
theorem wr_nl {M : xm_M} {e : List Nat} {p : Nat} {x : List ps_N} (hp : 6 ≤ p) (h : nl_is M p x) : nl_is (wr_m M e) p x := by
  refine ⟨by rw [wr_o (by omega) (by omega)]; exact h.1, fun k hk => wr_nm (by omega) (h.2 k hk)⟩
theorem wr_ex {M : xm_M} {e : List Nat} {p : Nat} {x : Nat × Bool × List Nat} (hp : 6 ≤ p) (h : ex_is M p x) : ex_is (wr_m M e) p x := ex_is_cg (wr_o (by omega) (by omega)) (wr_o (by omega) (by omega)) h

set_option maxRecDepth 100000 in
set_option maxHeartbeats 4000000 in
theorem ct_CT_writeUsage (l : Launch) (Y : xw_Y) (M : xm_M) (c u : Nat) (hc : xk_ct c) (hu : M c 13 = ps_mir u 8) (hu8 : u < 256) (hfit : M 2 1 + (en_bits u).length ≤ 160) : xc_v l qm_CT_writeUsage 1 Y [.ref (Y.2.2.2 c), .ref (Y.2.2.2 2)] M (fun M1 => M1 = wr_m M (en_bits u)) := by
  refine xc_v.mk rfl (by decide) (Nat.le_of_ble_eq_true rfl) ?_
  intro X hXl hX hR
  subst hXl
  have hX : xv_ok X Y prog_3_method_22_code "CertificatePath$Certificate" 4 (xc_rm 1) := hX
  show xv_V X Y 4 0 0 xw_lk xw_N M 0 [(0, .ref (Y.2.2.2 c)), (1, .ref (Y.2.2.2 2))] []
  have hc6 : 6 ≤ c := hc.2.2.2.2.2.2.1
  have hc29 : c + 29 < 276 := hc.2.2.2.2.2.2.2
  have q0 : M = wr_m M [] := (wr_nil M).symm
  have hml := ps_mir_lt u 8
  have hge : (if u = 0 then [0] else [ps_tz u 8 0] ++ [u]).length + 2 ≤ (en_bits u).length := en_el_ge 3 _
  have hfit0 : M 2 1 + (en_el 3 (if u = 0 then [0] else [ps_tz u 8 0] ++ [u])).length ≤ 160 := hfit
  refine xv_aload_n hX 1 dc_CT_writeUsage_0 rfl (rfl : _ = 1) ?_
  refine xv_iconst hX (v := nI 3) dc_CT_writeUsage_1 (by decide) (rfl : _ = 2) ?_
  refine xv_calli hX (As := [.int (nI 3)]) (rest := []) (ct_BR_append _ Y M 3 (by first | omega | (rw [q0, wr_21]; simp only [List.length_append, List.length_cons, List.length_nil]; omega))) ml_CT_180 li_BR_append rfl (by decide) rfl rfl rfl (by decide) ⟨by decide, by decide⟩ ⟨Nat.le_refl _, Nat.le_refl _⟩ (Nat.le_of_ble_eq_true rfl) dc_CT_writeUsage_2 (rfl : _ = 5) (fun r2 M2 p2 => ?_)
  have q2 : M2 = wr_m M ([] ++ [3]) := by rw [p2.1]; exact wr_one M 3
  have zk2 : M 2 1 + 1 = M 2 1 + ([] ++ [3]).length := rfl
  rw [p2.2, zk2]
  refine xv_istore_n hX [1, 2, 0] dc_CT_writeUsage_5 (by decide) (L' := [(0, .ref (Y.2.2.2 c)), (1, .ref (Y.2.2.2 2)), (2, .int (nI (M 2 1 + ([] ++ [3]).length)))]) rfl (rfl : _ = 6) ?_
  refine xv_aload_n hX 0 dc_CT_writeUsage_6 rfl (rfl : _ = 7) ?_
  have h13 : M2 c 13 = ps_mir u 8 := by rw [q2, wr_o (by omega) (by omega)]; exact hu
  refine xv_geti hX fl_CT_52 rfl hc.1 (xk_N (by omega)) (v := ps_mir u 8) h13 dc_CT_writeUsage_7 (rfl : _ = 10) ?_
  refine xv_callsi hX (As := [.int (nI (ps_mir u 8))]) (rest := []) (ct_CT_mirrored _ Y M2 (ps_mir u 8) (by omega)) ml_CT_173 ls_CT_mirrored rfl (by decide) ⟨by decide, by decide⟩ ⟨Nat.le_refl _, Nat.le_refl _⟩ (Nat.le_of_ble_eq_true rfl) dc_CT_writeUsage_10 (rfl : _ = 13) (fun r10 M10 p10 => ?_)
  rw [p10.1, p10.2, ps_mir2 u hu8]
  refine xv_istore_n hX [1, 2, 3, 0] dc_CT_writeUsage_13 (by decide) (L' := [(0, .ref (Y.2.2.2 c)), (1, .ref (Y.2.2.2 2)), (2, .int (nI (M 2 1 + ([] ++ [3]).length))), (3, .int (nI u))]) rfl (rfl : _ = 14) ?_
  refine xv_iload_n hX 3 dc_CT_writeUsage_14 rfl (rfl : _ = 15) ?_
  refine xv_if_ne hX (nI_toInt (by omega)) (tgt := 27) (pq := 18) dc_CT_writeUsage_15 (by decide) rfl (fun c15 => ?_) (fun c15 => ?_)
  · skip
    refine xv_aload_n hX 1 dc_CT_writeUsage_27 rfl (rfl : _ = 28) ?_
    refine xv_iload_n hX 3 dc_CT_writeUsage_28 rfl (rfl : _ = 29) ?_
    refine xv_callsi hX (As := [.int (nI u)]) (rest := [.ref (Y.2.2.2 2)]) (ct_CT_zerosBehind _ Y M2 u hu8) ml_CT_170 ls_CT_zerosBehind rfl (by decide) ⟨by decide, by decide⟩ ⟨Nat.le_refl _, Nat.le_refl _⟩ (Nat.le_of_ble_eq_true rfl) dc_CT_writeUsage_29 (rfl : _ = 32) (fun r29 M29 p29 => ?_)
    rw [p29.1, p29.2]
    refine xv_calli hX (As := [.int (nI (ps_tz u 8 0))]) (rest := []) (ct_BR_append _ Y M2 (ps_tz u 8 0) (by rw [q2, wr_21]; rw [if_neg (by omega)] at hge; simp only [List.length_append, List.length_cons, List.length_nil] at *; omega)) ml_CT_180 li_BR_append rfl (by decide) rfl rfl rfl (by decide) ⟨by decide, by decide⟩ ⟨Nat.le_refl _, Nat.le_refl _⟩ (Nat.le_of_ble_eq_true rfl) dc_CT_writeUsage_32 (rfl : _ = 35) (fun r32 M32 p32 => ?_)
    have q32 : M32 = wr_m M (([] ++ [3]) ++ [ps_tz u 8 0]) := by rw [p32.1, wr_one, q2, wr_app]
    rw [p32.2]
    refine xv_pop hX dc_CT_writeUsage_35 rfl (rfl : _ = 36) ?_
    refine xv_aload_n hX 1 dc_CT_writeUsage_36 rfl (rfl : _ = 37) ?_
    refine xv_iload_n hX 3 dc_CT_writeUsage_37 rfl (rfl : _ = 38) ?_
    refine xv_calli hX (As := [.int (nI u)]) (rest := []) (ct_BR_append _ Y M32 u (by rw [q32, wr_21]; rw [if_neg (by omega)] at hge; simp only [List.length_append, List.length_cons, List.length_nil] at *; omega)) ml_CT_180 li_BR_append rfl (by decide) rfl rfl rfl (by decide) ⟨by decide, by decide⟩ ⟨Nat.le_refl _, Nat.le_refl _⟩ (Nat.le_of_ble_eq_true rfl) dc_CT_writeUsage_38 (rfl : _ = 41) (fun r38 M38 p38 => ?_)
    have q38 : M38 = wr_m M ((([] ++ [3]) ++ [ps_tz u 8 0]) ++ [u]) := by rw [p38.1, wr_one, q32, wr_app]
    rw [p38.2]
    refine xv_pop hX dc_CT_writeUsage_41 rfl (rfl : _ = 42) ?_
    rw [if_neg (by omega)] at hfit0
    refine xv_aload_n hX 1 dc_CT_writeUsage_42 rfl (rfl : _ = 43) ?_
    refine xv_iload_n hX 2 dc_CT_writeUsage_43 rfl (rfl : _ = 44) ?_
    refine xv_callv hX (As := [.int (nI (M 2 1 + ([] ++ [3]).length))]) (rest := []) (ct_BR_insertLength _ Y M38 M ([] ++ [3]) ([ps_tz u 8 0] ++ [u]) (by rw [q38] <;> try simp only [List.append_assoc, List.nil_append, List.append_nil]) (by simp only [List.length_append, List.length_cons, List.length_nil]; omega) (by have hel := en_el_len 3 ([ps_tz u 8 0] ++ [u]); rw [Nat.add_assoc, Nat.add_assoc]; simp only [List.length_append, List.length_cons, List.length_nil] at *; omega)) ml_CT_193 li_BR_insertLength rfl (by decide) rfl rfl rfl (by decide) ⟨by decide, by decide⟩ ⟨Nat.le_refl _, Nat.le_refl _⟩ (Nat.le_of_ble_eq_true rfl) dc_CT_writeUsage_44 (rfl : _ = 47) (fun M44 p44 => ?_)
    have q44 : M44 = wr_m M ([] ++ en_el 3 ([ps_tz u 8 0] ++ [u])) := by rw [p44]; simp only [List.append_assoc, en_el, List.cons_append, List.nil_append]
    refine xv_retv hX hR dc_CT_writeUsage_47 ?_
    rw [q44]
    unfold en_bits
    rw [if_neg (by omega)]
    rfl
  · skip
    refine xv_aload_n hX 1 dc_CT_writeUsage_18 rfl (rfl : _ = 19) ?_
    refine xv_iconst hX (v := nI 0) dc_CT_writeUsage_19 (by decide) (rfl : _ = 20) ?_
    refine xv_calli hX (As := [.int (nI 0)]) (rest := []) (ct_BR_append _ Y M2 0 (by rw [q2, wr_21]; rw [if_pos (by omega)] at hge; simp only [List.length_append, List.length_cons, List.length_nil] at *; omega)) ml_CT_180 li_BR_append rfl (by decide) rfl rfl rfl (by decide) ⟨by decide, by decide⟩ ⟨Nat.le_refl _, Nat.le_refl _⟩ (Nat.le_of_ble_eq_true rfl) dc_CT_writeUsage_20 (rfl : _ = 23) (fun r20 M20 p20 => ?_)
    have q20 : M20 = wr_m M (([] ++ [3]) ++ [0]) := by rw [p20.1, wr_one, q2, wr_app]
    rw [p20.2]
    refine xv_pop hX dc_CT_writeUsage_23 rfl (rfl : _ = 24) ?_
    refine xv_goto hX (pq := 42) dc_CT_writeUsage_24 (by decide) ?_
    rw [if_pos (by omega)] at hfit0
    refine xv_aload_n hX 1 dc_CT_writeUsage_42 rfl (rfl : _ = 43) ?_
    refine xv_iload_n hX 2 dc_CT_writeUsage_43 rfl (rfl : _ = 44) ?_
    refine xv_callv hX (As := [.int (nI (M 2 1 + ([] ++ [3]).length))]) (rest := []) (ct_BR_insertLength _ Y M20 M ([] ++ [3]) ([0]) (by rw [q20] <;> try simp only [List.append_assoc, List.nil_append, List.append_nil]) (by simp only [List.length_append, List.length_cons, List.length_nil]; omega) (by have hel := en_el_len 3 ([0]); rw [Nat.add_assoc, Nat.add_assoc]; simp only [List.length_append, List.length_cons, List.length_nil] at *; omega)) ml_CT_193 li_BR_insertLength rfl (by decide) rfl rfl rfl (by decide) ⟨by decide, by decide⟩ ⟨Nat.le_refl _, Nat.le_refl _⟩ (Nat.le_of_ble_eq_true rfl) dc_CT_writeUsage_44 (rfl : _ = 47) (fun M44 p44 => ?_)
    have q44 : M44 = wr_m M ([] ++ en_el 3 ([0])) := by rw [p44]; simp only [List.append_assoc, en_el, List.cons_append, List.nil_append]
    refine xv_retv hX hR dc_CT_writeUsage_47 ?_
    rw [q44]
    unfold en_bits
    rw [if_pos (by omega)]
    rfl

set_option maxRecDepth 100000 in
set_option maxHeartbeats 4000000 in
theorem ct_CT_writeBounds (l : Launch) (Y : xw_Y) (M : xm_M) (c : Nat) (p x : List ps_N) (hc : xk_ct c) (hp : nl_is M (c + 14) p) (hx : nl_is M (c + 22) x) (hvp : cv_L p) (hvx : cv_L x) (hfit : M 2 1 + (en_bounds p x).length ≤ 160) : xc_v l qm_CT_writeBounds 3 Y [.ref (Y.2.2.2 c), .ref (Y.2.2.2 2)] M (fun M1 => M1 = wr_m M (en_bounds p x)) := by
  refine xc_v.mk rfl (by decide) (Nat.le_of_ble_eq_true rfl) ?_
  intro X hXl hX hR
  subst hXl
  have hX : xv_ok X Y prog_3_method_23_code "CertificatePath$Certificate" 3 (xc_rm 3) := hX
  show xv_V X Y 3 0 0 xw_lk xw_N M 0 [(0, .ref (Y.2.2.2 c)), (1, .ref (Y.2.2.2 2))] []
  have hc6 : 6 ≤ c := hc.2.2.2.2.2.2.1
  have hc29 : c + 29 < 276 := hc.2.2.2.2.2.2.2
  have q0 : M = wr_m M [] := (wr_nil M).symm
  have hge := en_el_ge 48 (en_list 160 p ++ en_list 161 x)
  have hfit : M 2 1 + (en_el 48 (en_list 160 p ++ en_list 161 x)).length ≤ 160 := hfit
  rw [List.length_append] at hge
  refine xv_aload_n hX 1 dc_CT_writeBounds_0 rfl (rfl : _ = 1) ?_
  refine xv_bipush hX (v := nI 48) dc_CT_writeBounds_1 (by decide) (rfl : _ = 3) ?_
  refine xv_calli hX (As := [.int (nI 48)]) (rest := []) (ct_BR_append _ Y M 48 (by first | omega | (rw [q0, wr_21]; simp only [List.length_append, List.length_cons, List.length_nil]; omega))) ml_CT_180 li_BR_append rfl (by decide) rfl rfl rfl (by decide) ⟨by decide, by decide⟩ ⟨Nat.le_refl _, Nat.le_refl _⟩ (Nat.le_of_ble_eq_true rfl) dc_CT_writeBounds_3 (rfl : _ = 6) (fun r3 M3 p3 => ?_)
  have q3 : M3 = wr_m M ([] ++ [48]) := by rw [p3.1]; exact wr_one M 48
  have zk3 : M 2 1 + 1 = M 2 1 + ([] ++ [48]).length := rfl
  rw [p3.2, zk3]
  refine xv_istore_n hX [1, 2, 0] dc_CT_writeBounds_6 (by decide) (L' := [(0, .ref (Y.2.2.2 c)), (1, .ref (Y.2.2.2 2)), (2, .int (nI (M 2 1 + ([] ++ [48]).length)))]) rfl (rfl : _ = 7) ?_
  refine xv_aload_n hX 0 dc_CT_writeBounds_7 rfl (rfl : _ = 8) ?_
  refine xv_getr hX fl_CT_31 rfl hc.1 (xk_N (by omega)) hc.2.2.2.2.1.1 dc_CT_writeBounds_8 (rfl : _ = 11) ?_
  refine xv_aload_n hX 1 dc_CT_writeBounds_11 rfl (rfl : _ = 12) ?_
  refine xv_sipush hX (v := nI 160) dc_CT_writeBounds_12 (by decide) (rfl : _ = 15) ?_
  refine xv_callv hX (As := [.ref (Y.2.2.2 2), .int (nI 160)]) (rest := []) (ct_NL_writeIfThere _ Y M3 (c + 14) 160 p hc.2.2.2.2.1.2 (by decide) (by rw [q3]; exact wr_nl (by omega) hp) hvp (by rw [q3, wr_21]; simp only [List.length_append, List.length_cons, List.length_nil]; omega)) ml_CT_217 li_NL_writeIfThere hc.2.2.2.2.1.2.1 (xk_N (by have := hc.2.2.2.2.1.2.2.2.2.2.2; omega)) rfl rfl rfl (by decide) ⟨by decide, by decide⟩ ⟨Nat.le_refl _, Nat.le_refl _⟩ (Nat.le_of_ble_eq_true rfl) dc_CT_writeBounds_15 (rfl : _ = 18) (fun M15 p15 => ?_)
  have q15 : M15 = wr_m M (([] ++ [48]) ++ en_list 160 p) := by rw [p15, q3, wr_app]
  refine xv_aload_n hX 0 dc_CT_writeBounds_18 rfl (rfl : _ = 19) ?_
  refine xv_getr hX fl_CT_35 rfl hc.1 (xk_N (by omega)) hc.2.2.2.2.2.1.1 dc_CT_writeBounds_19 (rfl : _ = 22) ?_
  refine xv_aload_n hX 1 dc_CT_writeBounds_22 rfl (rfl : _ = 23) ?_
  refine xv_sipush hX (v := nI 161) dc_CT_writeBounds_23 (by decide) (rfl : _ = 26) ?_
  refine xv_callv hX (As := [.ref (Y.2.2.2 2), .int (nI 161)]) (rest := []) (ct_NL_writeIfThere _ Y M15 (c + 22) 161 x hc.2.2.2.2.2.1.2 (by decide) (by rw [q15]; exact wr_nl (by omega) hx) hvx (by rw [q15, wr_21]; simp only [List.length_append, List.length_cons, List.length_nil]; omega)) ml_CT_217 li_NL_writeIfThere hc.2.2.2.2.2.1.2.1 (xk_N (by have := hc.2.2.2.2.2.1.2.2.2.2.2.2; omega)) rfl rfl rfl (by decide) ⟨by decide, by decide⟩ ⟨Nat.le_refl _, Nat.le_refl _⟩ (Nat.le_of_ble_eq_true rfl) dc_CT_writeBounds_26 (rfl : _ = 29) (fun M26 p26 => ?_)
  have q26 : M26 = wr_m M ((([] ++ [48]) ++ en_list 160 p) ++ en_list 161 x) := by rw [p26, q15, wr_app]
  refine xv_aload_n hX 1 dc_CT_writeBounds_29 rfl (rfl : _ = 30) ?_
  refine xv_iload_n hX 2 dc_CT_writeBounds_30 rfl (rfl : _ = 31) ?_
  refine xv_callv hX (As := [.int (nI (M 2 1 + ([] ++ [48]).length))]) (rest := []) (ct_BR_insertLength _ Y M26 M ([] ++ [48]) (en_list 160 p ++ en_list 161 x) (by rw [q26] <;> try simp only [List.append_assoc, List.nil_append, List.append_nil]) (by simp only [List.length_append, List.length_cons, List.length_nil]; omega) (by have hel := en_el_len 48 (en_list 160 p ++ en_list 161 x); rw [Nat.add_assoc, Nat.add_assoc]; simp only [List.length_append, List.length_cons, List.length_nil] at *; omega)) ml_CT_193 li_BR_insertLength rfl (by decide) rfl rfl rfl (by decide) ⟨by decide, by decide⟩ ⟨Nat.le_refl _, Nat.le_refl _⟩ (Nat.le_of_ble_eq_true rfl) dc_CT_writeBounds_31 (rfl : _ = 34) (fun M31 p31 => ?_)
  have q31 : M31 = wr_m M ([] ++ en_el 48 (en_list 160 p ++ en_list 161 x)) := by rw [p31]; simp only [List.append_assoc, en_el, List.cons_append, List.nil_append]
  refine xv_retv hX hR dc_CT_writeBounds_34 ?_
  rw [q31]
  rfl

set_option maxRecDepth 100000 in
set_option maxHeartbeats 4000000 in
theorem ct_CT_writeExtension (l : Launch) (Y : xw_Y) (M : xm_M) (c k : Nat) (E : ps_E) (x : Nat × Bool × List Nat) (hc : xk_ct c) (hk : k < 4) (hx : ex_is M (c + 6 + 2 * k) x) (hm : x ∈ E.1) (hcv : cv_E E) (e11 : M c 11 = if E.2.1 = true then 1 else 0) (e12 : M c 12 = ct_o E.2.2.1) (e13 : M c 13 = ct_u E.2.2.2.1) (e14 : nl_is M (c + 14) E.2.2.2.2.1) (e22 : nl_is M (c + 22) E.2.2.2.2.2) (hfit : M 2 1 + (en_ext E x).length ≤ 160) : xc_v l qm_CT_writeExtension 4 Y [.ref (Y.2.2.2 c), .ref (Y.2.2.2 2), .ref (Y.2.2.2 (c + 6 + 2 * k))] M (fun M1 => M1 = wr_m M (en_ext E x)) := by
  refine xc_v.mk rfl (by decide) (Nat.le_of_ble_eq_true rfl) ?_
  intro X hXl hX hR
  subst hXl
  have hX : xv_ok X Y prog_3_method_20_code "CertificatePath$Certificate" 5 (xc_rm 4) := hX
  show xv_V X Y 5 0 0 xw_lk xw_N M 0 [(0, .ref (Y.2.2.2 c)), (1, .ref (Y.2.2.2 2)), (2, .ref (Y.2.2.2 (c + 6 + 2 * k)))] []
  have hc6 : 6 ≤ c := hc.2.2.2.2.2.2.1
  have hc29 : c + 29 < 276 := hc.2.2.2.2.2.2.2
  have q0 : M = wr_m M [] := (wr_nil M).symm
  have hxp : xk_ex (c + 6 + 2 * k) := (hc.2.2.2.1.2.2 k hk).2
  have hxm := hcv.2.1 x hm
  have hfit : M 2 1 + (en_el 48 (en_int x.1 ++ (if x.2.1 = true then en_true else []) ++ en_el 4 (en_con E x))).length ≤ 160 := hfit
  have hge := en_el_ge 48 (en_int x.1 ++ (if x.2.1 = true then en_true else []) ++ en_el 4 (en_con E x))
  have hge4 := en_el_ge 4 (en_con E x)
  have hn9 := hxm.1
  refine xv_aload_n hX 1 dc_CT_writeExtension_0 rfl (rfl : _ = 1) ?_
  refine xv_bipush hX (v := nI 48) dc_CT_writeExtension_1 (by decide) (rfl : _ = 3) ?_
  refine xv_calli hX (As := [.int (nI 48)]) (rest := []) (ct_BR_append _ Y M 48 (by first | omega | (rw [q0, wr_21]; simp only [List.length_append, List.length_cons, List.length_nil]; omega))) ml_CT_180 li_BR_append rfl (by decide) rfl rfl rfl (by decide) ⟨by decide, by decide⟩ ⟨Nat.le_refl _, Nat.le_refl _⟩ (Nat.le_of_ble_eq_true rfl) dc_CT_writeExtension_3 (rfl : _ = 6) (fun r3 M3 p3 => ?_)
  have q3 : M3 = wr_m M ([] ++ [48]) := by rw [p3.1]; exact wr_one M 48
  have zk3 : M 2 1 + 1 = M 2 1 + ([] ++ [48]).length := rfl
  rw [p3.2, zk3]
  refine xv_istore_n hX [1, 2, 3, 0] dc_CT_writeExtension_6 (by decide) (L' := [(0, .ref (Y.2.2.2 c)), (1, .ref (Y.2.2.2 2)), (2, .ref (Y.2.2.2 (c + 6 + 2 * k))), (3, .int (nI (M 2 1 + ([] ++ [48]).length)))]) rfl (rfl : _ = 7) ?_
  refine xv_aload_n hX 1 dc_CT_writeExtension_7 rfl (rfl : _ = 8) ?_
  have hx0 : M3 (c + 6 + 2 * k) 0 = x.1 := by rw [q3, wr_o (by omega) (by omega)]; exact hx.1
  refine xv_aload_n hX 2 dc_CT_writeExtension_8 rfl (rfl : _ = 9) ?_
  refine xv_geti hX fl_CT_149 rfl (hc.2.2.2.1.2.2 _ (by omega)).2.1 (xk_N (by omega)) (v := x.1) hx0 dc_CT_writeExtension_9 (rfl : _ = 12) ?_
  refine xv_callv hX (As := [.int (nI x.1)]) (rest := []) (ct_BR_appendInteger _ Y M3 x.1 (by omega) (by rw [q3, wr_21]; have hge2 := hge; simp only [List.length_append, List.length_cons, List.length_nil] at *; omega)) ml_CT_196 li_BR_appendInteger rfl (by decide) rfl rfl rfl (by decide) ⟨by decide, by decide⟩ ⟨Nat.le_refl _, Nat.le_refl _⟩ (Nat.le_of_ble_eq_true rfl) dc_CT_writeExtension_12 (rfl : _ = 15) (fun M12 p12 => ?_)
  have q12 : M12 = wr_m M (([] ++ [48]) ++ en_int x.1) := by rw [p12, q3, wr_app]
  have hx1 : M12 (c + 6 + 2 * k) 1 = if x.2.1 = true then 1 else 0 := by rw [q12, wr_o (by omega) (by omega)]; exact hx.2.1
  have hx1b : M12 (c + 6 + 2 * k) 1 < 2 := by rw [hx1]; split <;> decide
  refine xv_aload_n hX 2 dc_CT_writeExtension_15 rfl (rfl : _ = 16) ?_
  refine xv_geti hX fl_CT_84 rfl (hc.2.2.2.1.2.2 _ (by omega)).2.1 (xk_N (by omega)) (v := M12 (c + 6 + 2 * k) 1) rfl dc_CT_writeExtension_16 (rfl : _ = 19) ?_
  refine xv_if_eq hX (nI_toInt (by omega)) (tgt := 26) (pq := 22) dc_CT_writeExtension_19 (by decide) rfl (fun c19 => ?_) (fun c19 => ?_)
  · skip
    have hcr : x.2.1 = false := by cases h : x.2.1 with
      | false => rfl
      | true => rw [h] at hx1; simp at hx1; omega
    rw [hcr, if_neg (by decide)] at hfit hge
    simp only [List.length_append, List.length_nil, en_tl] at hge
    refine xv_aload_n hX 1 dc_CT_writeExtension_26 rfl (rfl : _ = 27) ?_
    refine xv_iconst hX (v := nI 4) dc_CT_writeExtension_27 (by decide) (rfl : _ = 28) ?_
    refine xv_calli hX (As := [.int (nI 4)]) (rest := []) (ct_BR_append _ Y M12 4 (by rw [q12, wr_21]; simp only [List.length_append, List.length_cons, List.length_nil, en_tl] at *; omega)) ml_CT_180 li_BR_append rfl (by decide) rfl rfl rfl (by decide) ⟨by decide, by decide⟩ ⟨Nat.le_refl _, Nat.le_refl _⟩ (Nat.le_of_ble_eq_true rfl) dc_CT_writeExtension_28 (rfl : _ = 31) (fun r28 M28 p28 => ?_)
    have q28 : M28 = wr_m M ((([] ++ [48]) ++ en_int x.1) ++ [4]) := by rw [p28.1, wr_one, q12, wr_app]
    have zk28 : M12 2 1 + 1 = M 2 1 + ((([] ++ [48]) ++ en_int x.1) ++ [4]).length := by rw [q12, wr_21]; simp only [List.length_append, List.length_cons, List.length_nil] <;> omega
    rw [p28.2, zk28]
    refine xv_istore hX [1, 2, 3, 4, 0] dc_CT_writeExtension_31 (by decide) (L' := [(0, .ref (Y.2.2.2 c)), (1, .ref (Y.2.2.2 2)), (2, .ref (Y.2.2.2 (c + 6 + 2 * k))), (3, .int (nI (M 2 1 + ([] ++ [48]).length))), (4, .int (nI (M 2 1 + ((([] ++ [48]) ++ en_int x.1) ++ [4]).length)))]) rfl (rfl : _ = 33) ?_
    have hx28 : M28 (c + 6 + 2 * k) 0 = x.1 := by rw [q28, wr_o (by omega) (by omega)]; exact hx.1
    refine xv_aload_n hX 2 dc_CT_writeExtension_33 rfl (rfl : _ = 34) ?_
    refine xv_geti hX fl_CT_149 rfl (hc.2.2.2.1.2.2 _ (by omega)).2.1 (xk_N (by omega)) (v := x.1) hx28 dc_CT_writeExtension_34 (rfl : _ = 37) ?_
    by_cases sw37_1 : x.1 = 1
    · skip
      refine xv_tsIn hX (nI_toInt (by omega)) (tgt := 64) dc_CT_writeExtension_37 (by omega) (by omega) (by rw [sw37_1]; rfl) (by decide) ?_
      have hcon : en_con E x = en_basic E.2.1 E.2.2.1 := if_pos sw37_1
      rw [hcon] at hfit hge hge4
      refine xv_aload_n hX 0 dc_CT_writeExtension_64 rfl (rfl : _ = 65) ?_
      refine xv_aload_n hX 1 dc_CT_writeExtension_65 rfl (rfl : _ = 66) ?_
      refine xv_callv hX (As := [.ref (Y.2.2.2 2)]) (rest := []) (ct_CT_writeBasic _ Y M28 c E.2.1 E.2.2.1 hc (by rw [q28, wr_o (by omega) (by omega)]; exact e11) (by rw [q28, wr_o (by omega) (by omega)]; exact e12) hcv.2.2.1 (by rw [q28, wr_21]; simp only [List.length_append, List.length_cons, List.length_nil, en_tl] at *; omega)) ml_CT_205 li_CT_writeBasic hc.1 (xk_N (by omega)) rfl rfl rfl (by decide) ⟨by decide, by decide⟩ ⟨Nat.le_refl _, Nat.le_refl _⟩ (Nat.le_of_ble_eq_true rfl) dc_CT_writeExtension_66 (rfl : _ = 69) (fun M9 p66 => ?_)
      have q9 : M9 = wr_m M (((([] ++ [48]) ++ en_int x.1) ++ [4]) ++ en_basic E.2.1 E.2.2.1) := by rw [p66, q28, wr_app]
      refine xv_goto hX (pq := 93) dc_CT_writeExtension_69 (by decide) ?_
      refine xv_aload_n hX 1 dc_CT_writeExtension_93 rfl (rfl : _ = 94) ?_
      refine xv_iload hX 4 dc_CT_writeExtension_94 rfl (rfl : _ = 96) ?_
      refine xv_callv hX (As := [.int (nI (M 2 1 + ((([] ++ [48]) ++ en_int x.1) ++ [4]).length))]) (rest := []) (ct_BR_insertLength _ Y M9 M ((([] ++ [48]) ++ en_int x.1) ++ [4]) (en_basic E.2.1 E.2.2.1) (by rw [q9] <;> try simp only [List.append_assoc, List.nil_append, List.append_nil]) (by simp only [List.length_append, List.length_cons, List.length_nil]; omega) (by have hel := en_el_len 4 (en_basic E.2.1 E.2.2.1); rw [Nat.add_assoc, Nat.add_assoc]; simp only [List.length_append, List.length_cons, List.length_nil] at *; (try simp only [en_tl] at *); omega)) ml_CT_193 li_BR_insertLength rfl (by decide) rfl rfl rfl (by decide) ⟨by decide, by decide⟩ ⟨Nat.le_refl _, Nat.le_refl _⟩ (Nat.le_of_ble_eq_true rfl) dc_CT_writeExtension_96 (rfl : _ = 99) (fun M96 p96 => ?_)
      have q96 : M96 = wr_m M ((([] ++ [48]) ++ en_int x.1) ++ en_el 4 (en_basic E.2.1 E.2.2.1)) := by rw [p96]; simp only [List.append_assoc, en_el, List.cons_append, List.nil_append]
      refine xv_aload_n hX 1 dc_CT_writeExtension_99 rfl (rfl : _ = 100) ?_
      refine xv_iload_n hX 3 dc_CT_writeExtension_100 rfl (rfl : _ = 101) ?_
      refine xv_callv hX (As := [.int (nI (M 2 1 + ([] ++ [48]).length))]) (rest := []) (ct_BR_insertLength _ Y M96 M ([] ++ [48]) (en_int x.1 ++ [] ++ en_el 4 (en_basic E.2.1 E.2.2.1)) (by rw [q96] <;> try simp only [List.append_assoc, List.nil_append, List.append_nil]) (by simp only [List.length_append, List.length_cons, List.length_nil]; omega) (by have hel := en_el_len 48 (en_int x.1 ++ [] ++ en_el 4 (en_basic E.2.1 E.2.2.1)); rw [Nat.add_assoc, Nat.add_assoc]; simp only [List.length_append, List.length_cons, List.length_nil] at *; omega)) ml_CT_193 li_BR_insertLength rfl (by decide) rfl rfl rfl (by decide) ⟨by decide, by decide⟩ ⟨Nat.le_refl _, Nat.le_refl _⟩ (Nat.le_of_ble_eq_true rfl) dc_CT_writeExtension_101 (rfl : _ = 104) (fun M101 p101 => ?_)
      have q101 : M101 = wr_m M ([] ++ en_el 48 (en_int x.1 ++ [] ++ en_el 4 (en_basic E.2.1 E.2.2.1))) := by rw [p101]; simp only [List.append_assoc, en_el, List.cons_append, List.nil_append]
      refine xv_retv hX hR dc_CT_writeExtension_104 ?_
      rw [q101]
      unfold en_ext
      rw [hcon, hcr, if_neg (by decide)]
      rfl
    by_cases sw37_2 : x.1 = 2
    · skip
      refine xv_tsIn hX (nI_toInt (by omega)) (tgt := 72) dc_CT_writeExtension_37 (by omega) (by omega) (by rw [sw37_2]; rfl) (by decide) ?_
      obtain ⟨u, hu9⟩ : ∃ u, E.2.2.2.1 = some u := by cases h : E.2.2.2.1 with
        | none => exact absurd h (hxm.2.2 sw37_2)
        | some u => exact ⟨u, rfl⟩
      have hcon : en_con E x = en_bits u := (if_neg (by omega)).trans ((if_pos sw37_2).trans (by rw [hu9]))
      rw [hcon] at hfit hge hge4
      refine xv_aload_n hX 0 dc_CT_writeExtension_72 rfl (rfl : _ = 73) ?_
      refine xv_aload_n hX 1 dc_CT_writeExtension_73 rfl (rfl : _ = 74) ?_
      refine xv_callv hX (As := [.ref (Y.2.2.2 2)]) (rest := []) (ct_CT_writeUsage _ Y M28 c u hc (by rw [q28, wr_o (by omega) (by omega), e13, hu9]; rfl) (hcv.2.2.2.1 u hu9) (by rw [q28, wr_21]; simp only [List.length_append, List.length_cons, List.length_nil, en_tl] at *; omega)) ml_CT_208 li_CT_writeUsage hc.1 (xk_N (by omega)) rfl rfl rfl (by decide) ⟨by decide, by decide⟩ ⟨Nat.le_refl _, Nat.le_refl _⟩ (Nat.le_of_ble_eq_true rfl) dc_CT_writeExtension_74 (rfl : _ = 77) (fun M9 p74 => ?_)
      have q9 : M9 = wr_m M (((([] ++ [48]) ++ en_int x.1) ++ [4]) ++ en_bits u) := by rw [p74, q28, wr_app]
      refine xv_goto hX (pq := 93) dc_CT_writeExtension_77 (by decide) ?_
      refine xv_aload_n hX 1 dc_CT_writeExtension_93 rfl (rfl : _ = 94) ?_
      refine xv_iload hX 4 dc_CT_writeExtension_94 rfl (rfl : _ = 96) ?_
      refine xv_callv hX (As := [.int (nI (M 2 1 + ((([] ++ [48]) ++ en_int x.1) ++ [4]).length))]) (rest := []) (ct_BR_insertLength _ Y M9 M ((([] ++ [48]) ++ en_int x.1) ++ [4]) (en_bits u) (by rw [q9] <;> try simp only [List.append_assoc, List.nil_append, List.append_nil]) (by simp only [List.length_append, List.length_cons, List.length_nil]; omega) (by have hel := en_el_len 4 (en_bits u); rw [Nat.add_assoc, Nat.add_assoc]; simp only [List.length_append, List.length_cons, List.length_nil] at *; (try simp only [en_tl] at *); omega)) ml_CT_193 li_BR_insertLength rfl (by decide) rfl rfl rfl (by decide) ⟨by decide, by decide⟩ ⟨Nat.le_refl _, Nat.le_refl _⟩ (Nat.le_of_ble_eq_true rfl) dc_CT_writeExtension_96 (rfl : _ = 99) (fun M96 p96 => ?_)
      have q96 : M96 = wr_m M ((([] ++ [48]) ++ en_int x.1) ++ en_el 4 (en_bits u)) := by rw [p96]; simp only [List.append_assoc, en_el, List.cons_append, List.nil_append]
      refine xv_aload_n hX 1 dc_CT_writeExtension_99 rfl (rfl : _ = 100) ?_
      refine xv_iload_n hX 3 dc_CT_writeExtension_100 rfl (rfl : _ = 101) ?_
      refine xv_callv hX (As := [.int (nI (M 2 1 + ([] ++ [48]).length))]) (rest := []) (ct_BR_insertLength _ Y M96 M ([] ++ [48]) (en_int x.1 ++ [] ++ en_el 4 (en_bits u)) (by rw [q96] <;> try simp only [List.append_assoc, List.nil_append, List.append_nil]) (by simp only [List.length_append, List.length_cons, List.length_nil]; omega) (by have hel := en_el_len 48 (en_int x.1 ++ [] ++ en_el 4 (en_bits u)); rw [Nat.add_assoc, Nat.add_assoc]; simp only [List.length_append, List.length_cons, List.length_nil] at *; omega)) ml_CT_193 li_BR_insertLength rfl (by decide) rfl rfl rfl (by decide) ⟨by decide, by decide⟩ ⟨Nat.le_refl _, Nat.le_refl _⟩ (Nat.le_of_ble_eq_true rfl) dc_CT_writeExtension_101 (rfl : _ = 104) (fun M101 p101 => ?_)
      have q101 : M101 = wr_m M ([] ++ en_el 48 (en_int x.1 ++ [] ++ en_el 4 (en_bits u))) := by rw [p101]; simp only [List.append_assoc, en_el, List.cons_append, List.nil_append]
      refine xv_retv hX hR dc_CT_writeExtension_104 ?_
      rw [q101]
      unfold en_ext
      rw [hcon, hcr, if_neg (by decide)]
      rfl
    by_cases sw37_3 : x.1 = 3
    · skip
      refine xv_tsIn hX (nI_toInt (by omega)) (tgt := 80) dc_CT_writeExtension_37 (by omega) (by omega) (by rw [sw37_3]; rfl) (by decide) ?_
      have hcon : en_con E x = en_bounds E.2.2.2.2.1 E.2.2.2.2.2 := (if_neg (by omega)).trans ((if_neg (by omega)).trans (if_pos sw37_3))
      rw [hcon] at hfit hge hge4
      refine xv_aload_n hX 0 dc_CT_writeExtension_80 rfl (rfl : _ = 81) ?_
      refine xv_aload_n hX 1 dc_CT_writeExtension_81 rfl (rfl : _ = 82) ?_
      refine xv_callv hX (As := [.ref (Y.2.2.2 2)]) (rest := []) (ct_CT_writeBounds _ Y M28 c E.2.2.2.2.1 E.2.2.2.2.2 hc (by rw [q28]; exact wr_nl (by omega) e14) (by rw [q28]; exact wr_nl (by omega) e22) hcv.2.2.2.2.1 hcv.2.2.2.2.2 (by rw [q28, wr_21]; simp only [List.length_append, List.length_cons, List.length_nil, en_tl] at *; omega)) ml_CT_211 li_CT_writeBounds hc.1 (xk_N (by omega)) rfl rfl rfl (by decide) ⟨by decide, by decide⟩ ⟨Nat.le_refl _, Nat.le_refl _⟩ (Nat.le_of_ble_eq_true rfl) dc_CT_writeExtension_82 (rfl : _ = 85) (fun M9 p82 => ?_)
      have q9 : M9 = wr_m M (((([] ++ [48]) ++ en_int x.1) ++ [4]) ++ en_bounds E.2.2.2.2.1 E.2.2.2.2.2) := by rw [p82, q28, wr_app]
      refine xv_goto hX (pq := 93) dc_CT_writeExtension_85 (by decide) ?_
      refine xv_aload_n hX 1 dc_CT_writeExtension_93 rfl (rfl : _ = 94) ?_
      refine xv_iload hX 4 dc_CT_writeExtension_94 rfl (rfl : _ = 96) ?_
      refine xv_callv hX (As := [.int (nI (M 2 1 + ((([] ++ [48]) ++ en_int x.1) ++ [4]).length))]) (rest := []) (ct_BR_insertLength _ Y M9 M ((([] ++ [48]) ++ en_int x.1) ++ [4]) (en_bounds E.2.2.2.2.1 E.2.2.2.2.2) (by rw [q9] <;> try simp only [List.append_assoc, List.nil_append, List.append_nil]) (by simp only [List.length_append, List.length_cons, List.length_nil]; omega) (by have hel := en_el_len 4 (en_bounds E.2.2.2.2.1 E.2.2.2.2.2); rw [Nat.add_assoc, Nat.add_assoc]; simp only [List.length_append, List.length_cons, List.length_nil] at *; (try simp only [en_tl] at *); omega)) ml_CT_193 li_BR_insertLength rfl (by decide) rfl rfl rfl (by decide) ⟨by decide, by decide⟩ ⟨Nat.le_refl _, Nat.le_refl _⟩ (Nat.le_of_ble_eq_true rfl) dc_CT_writeExtension_96 (rfl : _ = 99) (fun M96 p96 => ?_)
      have q96 : M96 = wr_m M ((([] ++ [48]) ++ en_int x.1) ++ en_el 4 (en_bounds E.2.2.2.2.1 E.2.2.2.2.2)) := by rw [p96]; simp only [List.append_assoc, en_el, List.cons_append, List.nil_append]
      refine xv_aload_n hX 1 dc_CT_writeExtension_99 rfl (rfl : _ = 100) ?_
      refine xv_iload_n hX 3 dc_CT_writeExtension_100 rfl (rfl : _ = 101) ?_
      refine xv_callv hX (As := [.int (nI (M 2 1 + ([] ++ [48]).length))]) (rest := []) (ct_BR_insertLength _ Y M96 M ([] ++ [48]) (en_int x.1 ++ [] ++ en_el 4 (en_bounds E.2.2.2.2.1 E.2.2.2.2.2)) (by rw [q96] <;> try simp only [List.append_assoc, List.nil_append, List.append_nil]) (by simp only [List.length_append, List.length_cons, List.length_nil]; omega) (by have hel := en_el_len 48 (en_int x.1 ++ [] ++ en_el 4 (en_bounds E.2.2.2.2.1 E.2.2.2.2.2)); rw [Nat.add_assoc, Nat.add_assoc]; simp only [List.length_append, List.length_cons, List.length_nil] at *; omega)) ml_CT_193 li_BR_insertLength rfl (by decide) rfl rfl rfl (by decide) ⟨by decide, by decide⟩ ⟨Nat.le_refl _, Nat.le_refl _⟩ (Nat.le_of_ble_eq_true rfl) dc_CT_writeExtension_101 (rfl : _ = 104) (fun M101 p101 => ?_)
      have q101 : M101 = wr_m M ([] ++ en_el 48 (en_int x.1 ++ [] ++ en_el 4 (en_bounds E.2.2.2.2.1 E.2.2.2.2.2))) := by rw [p101]; simp only [List.append_assoc, en_el, List.cons_append, List.nil_append]
      refine xv_retv hX hR dc_CT_writeExtension_104 ?_
      rw [q101]
      unfold en_ext
      rw [hcon, hcr, if_neg (by decide)]
      rfl
    refine xv_tsOut hX (nI_toInt (by omega)) (tgt := 88) dc_CT_writeExtension_37 (by omega) (by decide) ?_
    have hcon : en_con E x = x.2.2 := (if_neg (by omega)).trans ((if_neg (by omega)).trans (if_neg (by omega)))
    rw [hcon] at hfit hge hge4
    refine xv_aload_n hX 2 dc_CT_writeExtension_88 rfl (rfl : _ = 89) ?_
    refine xv_aload_n hX 1 dc_CT_writeExtension_89 rfl (rfl : _ = 90) ?_
    refine xv_callv hX (As := [.ref (Y.2.2.2 2)]) (rest := []) (ct_EX_writeOctets _ Y M28 (c + 6 + 2 * k) x.2.2 hxp (by rw [q28, wr_o (by omega) (by omega)]; exact (hx.2.2 (by omega)).1) (fun j hj => by rw [q28, wr_o (by omega) (by omega)]; exact (hx.2.2 (by omega)).2 j hj) hxm.2.1 (by rw [q28, wr_21]; simp only [List.length_append, List.length_cons, List.length_nil, en_tl] at *; omega)) ml_CT_214 li_EX_writeOctets (hc.2.2.2.1.2.2 _ (by omega)).2.1 (xk_N (by omega)) rfl rfl rfl (by decide) ⟨by decide, by decide⟩ ⟨Nat.le_refl _, Nat.le_refl _⟩ (Nat.le_of_ble_eq_true rfl) dc_CT_writeExtension_90 (rfl : _ = 93) (fun M9 p90 => ?_)
    have q9 : M9 = wr_m M (((([] ++ [48]) ++ en_int x.1) ++ [4]) ++ x.2.2) := by rw [p90, q28, wr_app]
    refine xv_aload_n hX 1 dc_CT_writeExtension_93 rfl (rfl : _ = 94) ?_
    refine xv_iload hX 4 dc_CT_writeExtension_94 rfl (rfl : _ = 96) ?_
    refine xv_callv hX (As := [.int (nI (M 2 1 + ((([] ++ [48]) ++ en_int x.1) ++ [4]).length))]) (rest := []) (ct_BR_insertLength _ Y M9 M ((([] ++ [48]) ++ en_int x.1) ++ [4]) (x.2.2) (by rw [q9] <;> try simp only [List.append_assoc, List.nil_append, List.append_nil]) (by simp only [List.length_append, List.length_cons, List.length_nil]; omega) (by have hel := en_el_len 4 (x.2.2); rw [Nat.add_assoc, Nat.add_assoc]; simp only [List.length_append, List.length_cons, List.length_nil] at *; (try simp only [en_tl] at *); omega)) ml_CT_193 li_BR_insertLength rfl (by decide) rfl rfl rfl (by decide) ⟨by decide, by decide⟩ ⟨Nat.le_refl _, Nat.le_refl _⟩ (Nat.le_of_ble_eq_true rfl) dc_CT_writeExtension_96 (rfl : _ = 99) (fun M96 p96 => ?_)
    have q96 : M96 = wr_m M ((([] ++ [48]) ++ en_int x.1) ++ en_el 4 (x.2.2)) := by rw [p96]; simp only [List.append_assoc, en_el, List.cons_append, List.nil_append]
    refine xv_aload_n hX 1 dc_CT_writeExtension_99 rfl (rfl : _ = 100) ?_
    refine xv_iload_n hX 3 dc_CT_writeExtension_100 rfl (rfl : _ = 101) ?_
    refine xv_callv hX (As := [.int (nI (M 2 1 + ([] ++ [48]).length))]) (rest := []) (ct_BR_insertLength _ Y M96 M ([] ++ [48]) (en_int x.1 ++ [] ++ en_el 4 (x.2.2)) (by rw [q96] <;> try simp only [List.append_assoc, List.nil_append, List.append_nil]) (by simp only [List.length_append, List.length_cons, List.length_nil]; omega) (by have hel := en_el_len 48 (en_int x.1 ++ [] ++ en_el 4 (x.2.2)); rw [Nat.add_assoc, Nat.add_assoc]; simp only [List.length_append, List.length_cons, List.length_nil] at *; omega)) ml_CT_193 li_BR_insertLength rfl (by decide) rfl rfl rfl (by decide) ⟨by decide, by decide⟩ ⟨Nat.le_refl _, Nat.le_refl _⟩ (Nat.le_of_ble_eq_true rfl) dc_CT_writeExtension_101 (rfl : _ = 104) (fun M101 p101 => ?_)
    have q101 : M101 = wr_m M ([] ++ en_el 48 (en_int x.1 ++ [] ++ en_el 4 (x.2.2))) := by rw [p101]; simp only [List.append_assoc, en_el, List.cons_append, List.nil_append]
    refine xv_retv hX hR dc_CT_writeExtension_104 ?_
    rw [q101]
    unfold en_ext
    rw [hcon, hcr, if_neg (by decide)]
    rfl
  · skip
    have hcr : x.2.1 = true := by cases h : x.2.1 with
      | true => rfl
      | false => rw [h] at hx1; simp at hx1; omega
    rw [hcr, if_pos rfl] at hfit hge
    simp only [List.length_append, List.length_nil, en_tl] at hge
    refine xv_aload_n hX 1 dc_CT_writeExtension_22 rfl (rfl : _ = 23) ?_
    refine xv_callv hX (As := []) (rest := []) (ct_BR_appendTrue _ Y M12 (by rw [q12, wr_21]; simp only [List.length_append, List.length_cons, List.length_nil, en_tl] at *; omega)) ml_CT_202 li_BR_appendTrue rfl (by decide) rfl rfl rfl (by decide) ⟨by decide, by decide⟩ ⟨Nat.le_refl _, Nat.le_refl _⟩ (Nat.le_of_ble_eq_true rfl) dc_CT_writeExtension_23 (rfl : _ = 26) (fun M23 p23 => ?_)
    have q23 : M23 = wr_m M ((([] ++ [48]) ++ en_int x.1) ++ en_true) := by rw [p23, q12, wr_app]
    refine xv_aload_n hX 1 dc_CT_writeExtension_26 rfl (rfl : _ = 27) ?_
    refine xv_iconst hX (v := nI 4) dc_CT_writeExtension_27 (by decide) (rfl : _ = 28) ?_
    refine xv_calli hX (As := [.int (nI 4)]) (rest := []) (ct_BR_append _ Y M23 4 (by rw [q23, wr_21]; simp only [List.length_append, List.length_cons, List.length_nil, en_tl] at *; omega)) ml_CT_180 li_BR_append rfl (by decide) rfl rfl rfl (by decide) ⟨by decide, by decide⟩ ⟨Nat.le_refl _, Nat.le_refl _⟩ (Nat.le_of_ble_eq_true rfl) dc_CT_writeExtension_28 (rfl : _ = 31) (fun r28 M28 p28 => ?_)
    have q28 : M28 = wr_m M (((([] ++ [48]) ++ en_int x.1) ++ en_true) ++ [4]) := by rw [p28.1, wr_one, q23, wr_app]
    have zk28 : M23 2 1 + 1 = M 2 1 + (((([] ++ [48]) ++ en_int x.1) ++ en_true) ++ [4]).length := by rw [q23, wr_21]; simp only [List.length_append, List.length_cons, List.length_nil] <;> omega
    rw [p28.2, zk28]
    refine xv_istore hX [1, 2, 3, 4, 0] dc_CT_writeExtension_31 (by decide) (L' := [(0, .ref (Y.2.2.2 c)), (1, .ref (Y.2.2.2 2)), (2, .ref (Y.2.2.2 (c + 6 + 2 * k))), (3, .int (nI (M 2 1 + ([] ++ [48]).length))), (4, .int (nI (M 2 1 + (((([] ++ [48]) ++ en_int x.1) ++ en_true) ++ [4]).length)))]) rfl (rfl : _ = 33) ?_
    have hx28 : M28 (c + 6 + 2 * k) 0 = x.1 := by rw [q28, wr_o (by omega) (by omega)]; exact hx.1
    refine xv_aload_n hX 2 dc_CT_writeExtension_33 rfl (rfl : _ = 34) ?_
    refine xv_geti hX fl_CT_149 rfl (hc.2.2.2.1.2.2 _ (by omega)).2.1 (xk_N (by omega)) (v := x.1) hx28 dc_CT_writeExtension_34 (rfl : _ = 37) ?_
    by_cases sw37_1 : x.1 = 1
    · skip
      refine xv_tsIn hX (nI_toInt (by omega)) (tgt := 64) dc_CT_writeExtension_37 (by omega) (by omega) (by rw [sw37_1]; rfl) (by decide) ?_
      have hcon : en_con E x = en_basic E.2.1 E.2.2.1 := if_pos sw37_1
      rw [hcon] at hfit hge hge4
      refine xv_aload_n hX 0 dc_CT_writeExtension_64 rfl (rfl : _ = 65) ?_
      refine xv_aload_n hX 1 dc_CT_writeExtension_65 rfl (rfl : _ = 66) ?_
      refine xv_callv hX (As := [.ref (Y.2.2.2 2)]) (rest := []) (ct_CT_writeBasic _ Y M28 c E.2.1 E.2.2.1 hc (by rw [q28, wr_o (by omega) (by omega)]; exact e11) (by rw [q28, wr_o (by omega) (by omega)]; exact e12) hcv.2.2.1 (by rw [q28, wr_21]; simp only [List.length_append, List.length_cons, List.length_nil, en_tl] at *; omega)) ml_CT_205 li_CT_writeBasic hc.1 (xk_N (by omega)) rfl rfl rfl (by decide) ⟨by decide, by decide⟩ ⟨Nat.le_refl _, Nat.le_refl _⟩ (Nat.le_of_ble_eq_true rfl) dc_CT_writeExtension_66 (rfl : _ = 69) (fun M9 p66 => ?_)
      have q9 : M9 = wr_m M ((((([] ++ [48]) ++ en_int x.1) ++ en_true) ++ [4]) ++ en_basic E.2.1 E.2.2.1) := by rw [p66, q28, wr_app]
      refine xv_goto hX (pq := 93) dc_CT_writeExtension_69 (by decide) ?_
      refine xv_aload_n hX 1 dc_CT_writeExtension_93 rfl (rfl : _ = 94) ?_
      refine xv_iload hX 4 dc_CT_writeExtension_94 rfl (rfl : _ = 96) ?_
      refine xv_callv hX (As := [.int (nI (M 2 1 + (((([] ++ [48]) ++ en_int x.1) ++ en_true) ++ [4]).length))]) (rest := []) (ct_BR_insertLength _ Y M9 M (((([] ++ [48]) ++ en_int x.1) ++ en_true) ++ [4]) (en_basic E.2.1 E.2.2.1) (by rw [q9] <;> try simp only [List.append_assoc, List.nil_append, List.append_nil]) (by simp only [List.length_append, List.length_cons, List.length_nil]; omega) (by have hel := en_el_len 4 (en_basic E.2.1 E.2.2.1); rw [Nat.add_assoc, Nat.add_assoc]; simp only [List.length_append, List.length_cons, List.length_nil] at *; (try simp only [en_tl] at *); omega)) ml_CT_193 li_BR_insertLength rfl (by decide) rfl rfl rfl (by decide) ⟨by decide, by decide⟩ ⟨Nat.le_refl _, Nat.le_refl _⟩ (Nat.le_of_ble_eq_true rfl) dc_CT_writeExtension_96 (rfl : _ = 99) (fun M96 p96 => ?_)
      have q96 : M96 = wr_m M (((([] ++ [48]) ++ en_int x.1) ++ en_true) ++ en_el 4 (en_basic E.2.1 E.2.2.1)) := by rw [p96]; simp only [List.append_assoc, en_el, List.cons_append, List.nil_append]
      refine xv_aload_n hX 1 dc_CT_writeExtension_99 rfl (rfl : _ = 100) ?_
      refine xv_iload_n hX 3 dc_CT_writeExtension_100 rfl (rfl : _ = 101) ?_
      refine xv_callv hX (As := [.int (nI (M 2 1 + ([] ++ [48]).length))]) (rest := []) (ct_BR_insertLength _ Y M96 M ([] ++ [48]) (en_int x.1 ++ en_true ++ en_el 4 (en_basic E.2.1 E.2.2.1)) (by rw [q96] <;> try simp only [List.append_assoc, List.nil_append, List.append_nil]) (by simp only [List.length_append, List.length_cons, List.length_nil]; omega) (by have hel := en_el_len 48 (en_int x.1 ++ en_true ++ en_el 4 (en_basic E.2.1 E.2.2.1)); rw [Nat.add_assoc, Nat.add_assoc]; simp only [List.length_append, List.length_cons, List.length_nil] at *; omega)) ml_CT_193 li_BR_insertLength rfl (by decide) rfl rfl rfl (by decide) ⟨by decide, by decide⟩ ⟨Nat.le_refl _, Nat.le_refl _⟩ (Nat.le_of_ble_eq_true rfl) dc_CT_writeExtension_101 (rfl : _ = 104) (fun M101 p101 => ?_)
      have q101 : M101 = wr_m M ([] ++ en_el 48 (en_int x.1 ++ en_true ++ en_el 4 (en_basic E.2.1 E.2.2.1))) := by rw [p101]; simp only [List.append_assoc, en_el, List.cons_append, List.nil_append]
      refine xv_retv hX hR dc_CT_writeExtension_104 ?_
      rw [q101]
      unfold en_ext
      rw [hcon, hcr, if_pos rfl]
      rfl
    by_cases sw37_2 : x.1 = 2
    · skip
      refine xv_tsIn hX (nI_toInt (by omega)) (tgt := 72) dc_CT_writeExtension_37 (by omega) (by omega) (by rw [sw37_2]; rfl) (by decide) ?_
      obtain ⟨u, hu9⟩ : ∃ u, E.2.2.2.1 = some u := by cases h : E.2.2.2.1 with
        | none => exact absurd h (hxm.2.2 sw37_2)
        | some u => exact ⟨u, rfl⟩
      have hcon : en_con E x = en_bits u := (if_neg (by omega)).trans ((if_pos sw37_2).trans (by rw [hu9]))
      rw [hcon] at hfit hge hge4
      refine xv_aload_n hX 0 dc_CT_writeExtension_72 rfl (rfl : _ = 73) ?_
      refine xv_aload_n hX 1 dc_CT_writeExtension_73 rfl (rfl : _ = 74) ?_
      refine xv_callv hX (As := [.ref (Y.2.2.2 2)]) (rest := []) (ct_CT_writeUsage _ Y M28 c u hc (by rw [q28, wr_o (by omega) (by omega), e13, hu9]; rfl) (hcv.2.2.2.1 u hu9) (by rw [q28, wr_21]; simp only [List.length_append, List.length_cons, List.length_nil, en_tl] at *; omega)) ml_CT_208 li_CT_writeUsage hc.1 (xk_N (by omega)) rfl rfl rfl (by decide) ⟨by decide, by decide⟩ ⟨Nat.le_refl _, Nat.le_refl _⟩ (Nat.le_of_ble_eq_true rfl) dc_CT_writeExtension_74 (rfl : _ = 77) (fun M9 p74 => ?_)
      have q9 : M9 = wr_m M ((((([] ++ [48]) ++ en_int x.1) ++ en_true) ++ [4]) ++ en_bits u) := by rw [p74, q28, wr_app]
      refine xv_goto hX (pq := 93) dc_CT_writeExtension_77 (by decide) ?_
      refine xv_aload_n hX 1 dc_CT_writeExtension_93 rfl (rfl : _ = 94) ?_
      refine xv_iload hX 4 dc_CT_writeExtension_94 rfl (rfl : _ = 96) ?_
      refine xv_callv hX (As := [.int (nI (M 2 1 + (((([] ++ [48]) ++ en_int x.1) ++ en_true) ++ [4]).length))]) (rest := []) (ct_BR_insertLength _ Y M9 M (((([] ++ [48]) ++ en_int x.1) ++ en_true) ++ [4]) (en_bits u) (by rw [q9] <;> try simp only [List.append_assoc, List.nil_append, List.append_nil]) (by simp only [List.length_append, List.length_cons, List.length_nil]; omega) (by have hel := en_el_len 4 (en_bits u); rw [Nat.add_assoc, Nat.add_assoc]; simp only [List.length_append, List.length_cons, List.length_nil] at *; (try simp only [en_tl] at *); omega)) ml_CT_193 li_BR_insertLength rfl (by decide) rfl rfl rfl (by decide) ⟨by decide, by decide⟩ ⟨Nat.le_refl _, Nat.le_refl _⟩ (Nat.le_of_ble_eq_true rfl) dc_CT_writeExtension_96 (rfl : _ = 99) (fun M96 p96 => ?_)
      have q96 : M96 = wr_m M (((([] ++ [48]) ++ en_int x.1) ++ en_true) ++ en_el 4 (en_bits u)) := by rw [p96]; simp only [List.append_assoc, en_el, List.cons_append, List.nil_append]
      refine xv_aload_n hX 1 dc_CT_writeExtension_99 rfl (rfl : _ = 100) ?_
      refine xv_iload_n hX 3 dc_CT_writeExtension_100 rfl (rfl : _ = 101) ?_
      refine xv_callv hX (As := [.int (nI (M 2 1 + ([] ++ [48]).length))]) (rest := []) (ct_BR_insertLength _ Y M96 M ([] ++ [48]) (en_int x.1 ++ en_true ++ en_el 4 (en_bits u)) (by rw [q96] <;> try simp only [List.append_assoc, List.nil_append, List.append_nil]) (by simp only [List.length_append, List.length_cons, List.length_nil]; omega) (by have hel := en_el_len 48 (en_int x.1 ++ en_true ++ en_el 4 (en_bits u)); rw [Nat.add_assoc, Nat.add_assoc]; simp only [List.length_append, List.length_cons, List.length_nil] at *; omega)) ml_CT_193 li_BR_insertLength rfl (by decide) rfl rfl rfl (by decide) ⟨by decide, by decide⟩ ⟨Nat.le_refl _, Nat.le_refl _⟩ (Nat.le_of_ble_eq_true rfl) dc_CT_writeExtension_101 (rfl : _ = 104) (fun M101 p101 => ?_)
      have q101 : M101 = wr_m M ([] ++ en_el 48 (en_int x.1 ++ en_true ++ en_el 4 (en_bits u))) := by rw [p101]; simp only [List.append_assoc, en_el, List.cons_append, List.nil_append]
      refine xv_retv hX hR dc_CT_writeExtension_104 ?_
      rw [q101]
      unfold en_ext
      rw [hcon, hcr, if_pos rfl]
      rfl
    by_cases sw37_3 : x.1 = 3
    · skip
      refine xv_tsIn hX (nI_toInt (by omega)) (tgt := 80) dc_CT_writeExtension_37 (by omega) (by omega) (by rw [sw37_3]; rfl) (by decide) ?_
      have hcon : en_con E x = en_bounds E.2.2.2.2.1 E.2.2.2.2.2 := (if_neg (by omega)).trans ((if_neg (by omega)).trans (if_pos sw37_3))
      rw [hcon] at hfit hge hge4
      refine xv_aload_n hX 0 dc_CT_writeExtension_80 rfl (rfl : _ = 81) ?_
      refine xv_aload_n hX 1 dc_CT_writeExtension_81 rfl (rfl : _ = 82) ?_
      refine xv_callv hX (As := [.ref (Y.2.2.2 2)]) (rest := []) (ct_CT_writeBounds _ Y M28 c E.2.2.2.2.1 E.2.2.2.2.2 hc (by rw [q28]; exact wr_nl (by omega) e14) (by rw [q28]; exact wr_nl (by omega) e22) hcv.2.2.2.2.1 hcv.2.2.2.2.2 (by rw [q28, wr_21]; simp only [List.length_append, List.length_cons, List.length_nil, en_tl] at *; omega)) ml_CT_211 li_CT_writeBounds hc.1 (xk_N (by omega)) rfl rfl rfl (by decide) ⟨by decide, by decide⟩ ⟨Nat.le_refl _, Nat.le_refl _⟩ (Nat.le_of_ble_eq_true rfl) dc_CT_writeExtension_82 (rfl : _ = 85) (fun M9 p82 => ?_)
      have q9 : M9 = wr_m M ((((([] ++ [48]) ++ en_int x.1) ++ en_true) ++ [4]) ++ en_bounds E.2.2.2.2.1 E.2.2.2.2.2) := by rw [p82, q28, wr_app]
      refine xv_goto hX (pq := 93) dc_CT_writeExtension_85 (by decide) ?_
      refine xv_aload_n hX 1 dc_CT_writeExtension_93 rfl (rfl : _ = 94) ?_
      refine xv_iload hX 4 dc_CT_writeExtension_94 rfl (rfl : _ = 96) ?_
      refine xv_callv hX (As := [.int (nI (M 2 1 + (((([] ++ [48]) ++ en_int x.1) ++ en_true) ++ [4]).length))]) (rest := []) (ct_BR_insertLength _ Y M9 M (((([] ++ [48]) ++ en_int x.1) ++ en_true) ++ [4]) (en_bounds E.2.2.2.2.1 E.2.2.2.2.2) (by rw [q9] <;> try simp only [List.append_assoc, List.nil_append, List.append_nil]) (by simp only [List.length_append, List.length_cons, List.length_nil]; omega) (by have hel := en_el_len 4 (en_bounds E.2.2.2.2.1 E.2.2.2.2.2); rw [Nat.add_assoc, Nat.add_assoc]; simp only [List.length_append, List.length_cons, List.length_nil] at *; (try simp only [en_tl] at *); omega)) ml_CT_193 li_BR_insertLength rfl (by decide) rfl rfl rfl (by decide) ⟨by decide, by decide⟩ ⟨Nat.le_refl _, Nat.le_refl _⟩ (Nat.le_of_ble_eq_true rfl) dc_CT_writeExtension_96 (rfl : _ = 99) (fun M96 p96 => ?_)
      have q96 : M96 = wr_m M (((([] ++ [48]) ++ en_int x.1) ++ en_true) ++ en_el 4 (en_bounds E.2.2.2.2.1 E.2.2.2.2.2)) := by rw [p96]; simp only [List.append_assoc, en_el, List.cons_append, List.nil_append]
      refine xv_aload_n hX 1 dc_CT_writeExtension_99 rfl (rfl : _ = 100) ?_
      refine xv_iload_n hX 3 dc_CT_writeExtension_100 rfl (rfl : _ = 101) ?_
      refine xv_callv hX (As := [.int (nI (M 2 1 + ([] ++ [48]).length))]) (rest := []) (ct_BR_insertLength _ Y M96 M ([] ++ [48]) (en_int x.1 ++ en_true ++ en_el 4 (en_bounds E.2.2.2.2.1 E.2.2.2.2.2)) (by rw [q96] <;> try simp only [List.append_assoc, List.nil_append, List.append_nil]) (by simp only [List.length_append, List.length_cons, List.length_nil]; omega) (by have hel := en_el_len 48 (en_int x.1 ++ en_true ++ en_el 4 (en_bounds E.2.2.2.2.1 E.2.2.2.2.2)); rw [Nat.add_assoc, Nat.add_assoc]; simp only [List.length_append, List.length_cons, List.length_nil] at *; omega)) ml_CT_193 li_BR_insertLength rfl (by decide) rfl rfl rfl (by decide) ⟨by decide, by decide⟩ ⟨Nat.le_refl _, Nat.le_refl _⟩ (Nat.le_of_ble_eq_true rfl) dc_CT_writeExtension_101 (rfl : _ = 104) (fun M101 p101 => ?_)
      have q101 : M101 = wr_m M ([] ++ en_el 48 (en_int x.1 ++ en_true ++ en_el 4 (en_bounds E.2.2.2.2.1 E.2.2.2.2.2))) := by rw [p101]; simp only [List.append_assoc, en_el, List.cons_append, List.nil_append]
      refine xv_retv hX hR dc_CT_writeExtension_104 ?_
      rw [q101]
      unfold en_ext
      rw [hcon, hcr, if_pos rfl]
      rfl
    refine xv_tsOut hX (nI_toInt (by omega)) (tgt := 88) dc_CT_writeExtension_37 (by omega) (by decide) ?_
    have hcon : en_con E x = x.2.2 := (if_neg (by omega)).trans ((if_neg (by omega)).trans (if_neg (by omega)))
    rw [hcon] at hfit hge hge4
    refine xv_aload_n hX 2 dc_CT_writeExtension_88 rfl (rfl : _ = 89) ?_
    refine xv_aload_n hX 1 dc_CT_writeExtension_89 rfl (rfl : _ = 90) ?_
    refine xv_callv hX (As := [.ref (Y.2.2.2 2)]) (rest := []) (ct_EX_writeOctets _ Y M28 (c + 6 + 2 * k) x.2.2 hxp (by rw [q28, wr_o (by omega) (by omega)]; exact (hx.2.2 (by omega)).1) (fun j hj => by rw [q28, wr_o (by omega) (by omega)]; exact (hx.2.2 (by omega)).2 j hj) hxm.2.1 (by rw [q28, wr_21]; simp only [List.length_append, List.length_cons, List.length_nil, en_tl] at *; omega)) ml_CT_214 li_EX_writeOctets (hc.2.2.2.1.2.2 _ (by omega)).2.1 (xk_N (by omega)) rfl rfl rfl (by decide) ⟨by decide, by decide⟩ ⟨Nat.le_refl _, Nat.le_refl _⟩ (Nat.le_of_ble_eq_true rfl) dc_CT_writeExtension_90 (rfl : _ = 93) (fun M9 p90 => ?_)
    have q9 : M9 = wr_m M ((((([] ++ [48]) ++ en_int x.1) ++ en_true) ++ [4]) ++ x.2.2) := by rw [p90, q28, wr_app]
    refine xv_aload_n hX 1 dc_CT_writeExtension_93 rfl (rfl : _ = 94) ?_
    refine xv_iload hX 4 dc_CT_writeExtension_94 rfl (rfl : _ = 96) ?_
    refine xv_callv hX (As := [.int (nI (M 2 1 + (((([] ++ [48]) ++ en_int x.1) ++ en_true) ++ [4]).length))]) (rest := []) (ct_BR_insertLength _ Y M9 M (((([] ++ [48]) ++ en_int x.1) ++ en_true) ++ [4]) (x.2.2) (by rw [q9] <;> try simp only [List.append_assoc, List.nil_append, List.append_nil]) (by simp only [List.length_append, List.length_cons, List.length_nil]; omega) (by have hel := en_el_len 4 (x.2.2); rw [Nat.add_assoc, Nat.add_assoc]; simp only [List.length_append, List.length_cons, List.length_nil] at *; (try simp only [en_tl] at *); omega)) ml_CT_193 li_BR_insertLength rfl (by decide) rfl rfl rfl (by decide) ⟨by decide, by decide⟩ ⟨Nat.le_refl _, Nat.le_refl _⟩ (Nat.le_of_ble_eq_true rfl) dc_CT_writeExtension_96 (rfl : _ = 99) (fun M96 p96 => ?_)
    have q96 : M96 = wr_m M (((([] ++ [48]) ++ en_int x.1) ++ en_true) ++ en_el 4 (x.2.2)) := by rw [p96]; simp only [List.append_assoc, en_el, List.cons_append, List.nil_append]
    refine xv_aload_n hX 1 dc_CT_writeExtension_99 rfl (rfl : _ = 100) ?_
    refine xv_iload_n hX 3 dc_CT_writeExtension_100 rfl (rfl : _ = 101) ?_
    refine xv_callv hX (As := [.int (nI (M 2 1 + ([] ++ [48]).length))]) (rest := []) (ct_BR_insertLength _ Y M96 M ([] ++ [48]) (en_int x.1 ++ en_true ++ en_el 4 (x.2.2)) (by rw [q96] <;> try simp only [List.append_assoc, List.nil_append, List.append_nil]) (by simp only [List.length_append, List.length_cons, List.length_nil]; omega) (by have hel := en_el_len 48 (en_int x.1 ++ en_true ++ en_el 4 (x.2.2)); rw [Nat.add_assoc, Nat.add_assoc]; simp only [List.length_append, List.length_cons, List.length_nil] at *; omega)) ml_CT_193 li_BR_insertLength rfl (by decide) rfl rfl rfl (by decide) ⟨by decide, by decide⟩ ⟨Nat.le_refl _, Nat.le_refl _⟩ (Nat.le_of_ble_eq_true rfl) dc_CT_writeExtension_101 (rfl : _ = 104) (fun M101 p101 => ?_)
    have q101 : M101 = wr_m M ([] ++ en_el 48 (en_int x.1 ++ en_true ++ en_el 4 (x.2.2))) := by rw [p101]; simp only [List.append_assoc, en_el, List.cons_append, List.nil_append]
    refine xv_retv hX hR dc_CT_writeExtension_104 ?_
    rw [q101]
    unfold en_ext
    rw [hcon, hcr, if_pos rfl]
    rfl
