/-! lists, octets, BASIC are written -/
set_option maxRecDepth 100000 in
set_option maxHeartbeats 4000000 in
theorem ct_NL_writeIfThere (l : Launch) (Y : xw_Y) (M : xm_M) (p tag : Nat) (x : List ps_N) (hp : xk_nl p) (ht : tag < 256) (hx : nl_is M p x) (hv : cv_L x) (hfit : M 2 1 + (en_list tag x).length ≤ 160) : xc_v l qm_NL_writeIfThere 2 Y [.ref (Y.2.2.2 p), .ref (Y.2.2.2 2), .int (nI tag)] M (fun M1 => M1 = wr_m M (en_list tag x)) := by
  refine xc_v.mk rfl (by decide) (Nat.le_of_ble_eq_true rfl) ?_
  intro X hXl hX hR
  subst hXl
  have hX : xv_ok X Y prog_6_method_4_code "CertificatePath$NameList" 5 (xc_rm 2) := hX
  show xv_V X Y 5 0 0 xw_lk xw_N M 0 [(0, .ref (Y.2.2.2 p)), (1, .ref (Y.2.2.2 2)), (2, .int (nI tag))] []
  have hp6 := hp.2.2.2.2.1
  have hx1 := hx.1
  have hx3 := hv.1
  have q0 : M = wr_m M [] := (wr_nil M).symm
  refine xv_aload_n hX 0 dc_NL_writeIfThere_0 rfl (rfl : _ = 1) ?_
  refine xv_geti hX fl_NL_18 rfl hp.1 (xk_N (by have := hp.2.2.2.2.2; omega)) (v := M p 1) rfl dc_NL_writeIfThere_1 (rfl : _ = 4) ?_
  refine xv_if_ne hX (nI_toInt (by omega)) (tgt := 8) (pq := 7) dc_NL_writeIfThere_4 (by decide) rfl (fun c4 => ?_) (fun c4 => ?_)
  · skip
    have hxe : x ≠ [] := fun h => by rw [h] at hx1; simp only [List.length_nil] at hx1; omega
    have hle : en_list tag x = en_el tag (en_ns x) := if_neg hxe
    rw [hle] at hfit
    have hge := en_el_ge tag (en_ns x)
    refine xv_aload_n hX 1 dc_NL_writeIfThere_8 rfl (rfl : _ = 9) ?_
    refine xv_iload_n hX 2 dc_NL_writeIfThere_9 rfl (rfl : _ = 10) ?_
    refine xv_calli hX (As := [.int (nI tag)]) (rest := []) (ct_BR_append _ Y M tag (by first | omega | (rw [q0, wr_21]; simp only [List.length_append, List.length_cons, List.length_nil]; omega))) ml_NL_47 li_BR_append rfl (by decide) rfl rfl rfl (by decide) ⟨by decide, by decide⟩ ⟨Nat.le_refl _, Nat.le_refl _⟩ (Nat.le_of_ble_eq_true rfl) dc_NL_writeIfThere_10 (rfl : _ = 13) (fun r10 M10 p10 => ?_)
    have q10 : M10 = wr_m M ([] ++ [tag]) := by rw [p10.1]; exact wr_one M tag
    have zk10 : M 2 1 + 1 = M 2 1 + ([] ++ [tag]).length := rfl
    rw [p10.2, zk10]
    refine xv_istore_n hX [1, 2, 3, 0] dc_NL_writeIfThere_13 (by decide) (L' := [(0, .ref (Y.2.2.2 p)), (1, .ref (Y.2.2.2 2)), (2, .int (nI tag)), (3, .int (nI (M 2 1 + ([] ++ [tag]).length)))]) rfl (rfl : _ = 14) ?_
    refine xv_iconst hX (v := nI 0) dc_NL_writeIfThere_14 (by decide) (rfl : _ = 15) ?_
    refine xv_istore hX [1, 2, 3, 4, 0] dc_NL_writeIfThere_15 (by decide) (L' := [(0, .ref (Y.2.2.2 p)), (1, .ref (Y.2.2.2 2)), (2, .int (nI tag)), (3, .int (nI (M 2 1 + ([] ++ [tag]).length))), (4, .int (nI 0))]) rfl (rfl : _ = 17) ?_
    have lp17 : ∀ (fu17 : Nat) (Mk : xm_M) (pre : List ps_N) (post : List ps_N) (k : Nat) (hM : Mk = wr_m M ([] ++ [tag] ++ en_ns pre)) (hpp : pre ++ post = x) (hkp : pre.length = k), post.length < fu17 → xv_V X Y 5 0 0 xw_lk xw_N Mk 17 [(0, .ref (Y.2.2.2 p)), (1, .ref (Y.2.2.2 2)), (2, .int (nI tag)), (3, .int (nI (M 2 1 + ([] ++ [tag]).length))), (4, .int (nI k))] [] := by
      intro n17
      induction n17 with
      | zero => intro Mk pre post k hM hpp hkp hm17; exact absurd hm17 (Nat.not_lt_zero _)
      | succ n17 ih17 =>
        intro Mk pre post k hM hpp hkp hm17
        refine xv_iload hX 4 dc_NL_writeIfThere_17 rfl (rfl : _ = 19) ?_
        have hkx : Mk p 1 = x.length := by rw [hM, wr_o (by omega) (by omega)]; exact hx1
        have hprl : pre.length ≤ x.length := by rw [← hpp]; simp
        refine xv_aload_n hX 0 dc_NL_writeIfThere_19 rfl (rfl : _ = 20) ?_
        refine xv_geti hX fl_NL_18 rfl hp.1 (xk_N (by have := hp.2.2.2.2.2; omega)) (v := Mk p 1) rfl dc_NL_writeIfThere_20 (rfl : _ = 23) ?_
        refine xv_icmp_ge hX (nI_toInt (by omega)) (nI_toInt (by omega)) (tgt := 43) (pq := 26) dc_NL_writeIfThere_23 (by decide) rfl (fun c23 => ?_) (fun c23 => ?_)
        · skip
          have hpre : pre = x := by
            have h : pre.length = x.length := by omega
            rw [← hpp] at h ⊢
            simp only [List.length_append] at h
            have : post = [] := List.eq_nil_of_length_eq_zero (by omega)
            rw [this, List.append_nil]
          refine xv_aload_n hX 1 dc_NL_writeIfThere_43 rfl (rfl : _ = 44) ?_
          refine xv_iload_n hX 3 dc_NL_writeIfThere_44 rfl (rfl : _ = 45) ?_
          refine xv_callv hX (As := [.int (nI (M 2 1 + ([] ++ [tag]).length))]) (rest := []) (ct_BR_insertLength _ Y Mk M ([] ++ [tag]) (en_ns x) (by rw [hM, hpre] <;> try simp only [List.append_assoc, List.nil_append, List.append_nil]) (by simp only [List.length_append, List.length_cons, List.length_nil]; omega) (by have hel := en_el_len tag (en_ns x); rw [Nat.add_assoc, Nat.add_assoc]; simp only [List.length_append, List.length_cons, List.length_nil] at *; omega)) ml_NL_57 li_BR_insertLength rfl (by decide) rfl rfl rfl (by decide) ⟨by decide, by decide⟩ ⟨Nat.le_refl _, Nat.le_refl _⟩ (Nat.le_of_ble_eq_true rfl) dc_NL_writeIfThere_45 (rfl : _ = 48) (fun M45 p45 => ?_)
          have q45 : M45 = wr_m M ([] ++ en_el tag (en_ns x)) := by rw [p45]; simp only [List.append_assoc, en_el, List.cons_append, List.nil_append]
          refine xv_retv hX hR dc_NL_writeIfThere_48 ?_
          rw [q45, hle]
          rfl
        · skip
          cases post with
          | nil => exact absurd c23 (by rw [hkx]; simp only [List.append_nil] at hpp; rw [← hpp, ← hkp]; omega)
          | cons n post =>
            have hnx : n ∈ x := by rw [← hpp]; simp
            have hvn := hv.2 n hnx
            have hpl : k < x.length := by rw [← hpp, ← hkp]; simp
            have hlen : (en_ns x).length = (en_ns pre).length + ((en_name n).length + (en_ns post).length) := by rw [← hpp, en_ns_app]; simp only [en_ns, List.length_append]
            have hnn : nm_is M (p + 2 + 2 * k) n := by have h := hx.2 k hpl; rw [show x.getD k [] = n by rw [← hpp, ← hkp]; simp] at h; exact h
            refine xv_aload_n hX 0 dc_NL_writeIfThere_26 rfl (rfl : _ = 27) ?_
            refine xv_getr hX fl_NL_11 rfl hp.1 (xk_N (by have := hp.2.2.2.2.2; omega)) hp.2.2.1 dc_NL_writeIfThere_27 (rfl : _ = 30) ?_
            refine xv_iload hX 4 dc_NL_writeIfThere_30 rfl (rfl : _ = 32) ?_
            refine xv_aald hX hp.2.1 (C := xw_A3) rfl (xk_N (by have := hp.2.2.2.2.2; omega)) (by omega) (by decide) (v := p + 2 + 2 * k) ((hp.2.2.2.1 _ (by omega)).1) dc_NL_writeIfThere_32 (rfl : _ = 33) ?_
            refine xv_aload_n hX 1 dc_NL_writeIfThere_33 rfl (rfl : _ = 34) ?_
            refine xv_callv hX (As := [.ref (Y.2.2.2 2)]) (rest := []) (ct_NM_writeTo _ Y Mk (p + 2 + 2 * k) n (hp.2.2.2.1 k (by omega)).2 (by rw [hM]; exact wr_nm (by omega) hnn) hvn (by rw [hM, wr_21]; simp only [List.length_append, List.length_cons, List.length_nil]; omega)) ml_NL_53 li_NM_writeTo (hp.2.2.2.1 k (by omega)).2.1 (xk_N (by have := hp.2.2.2.2.2; omega)) rfl rfl rfl (by decide) ⟨by decide, by decide⟩ ⟨Nat.le_refl _, Nat.le_refl _⟩ (Nat.le_of_ble_eq_true rfl) dc_NL_writeIfThere_34 (rfl : _ = 37) (fun M34 p34 => ?_)
            have q34 : M34 = wr_m M (([] ++ [tag] ++ en_ns pre) ++ en_name n) := by rw [p34, hM, wr_app]
            refine xv_iinc hX 4 [1, 2, 3, 4, 0] dc_NL_writeIfThere_37 rfl (xi_inc k 1) (by decide) (L' := [(0, .ref (Y.2.2.2 p)), (1, .ref (Y.2.2.2 2)), (2, .int (nI tag)), (3, .int (nI (M 2 1 + ([] ++ [tag]).length))), (4, .int (nI (k + 1)))]) rfl (rfl : _ = 40) ?_
            refine xv_goto hX (pq := 17) dc_NL_writeIfThere_40 (by decide) ?_
            refine xv_sub (L' := [(0, .ref (Y.2.2.2 p)), (1, .ref (Y.2.2.2 2)), (2, .int (nI tag)), (3, .int (nI (M 2 1 + ([] ++ [tag]).length))), (4, .int (nI (k + 1)))]) [0, 1, 2, 3, 4] rfl ?_
            exact ih17 M34 (pre ++ [n]) post (k + 1) (by rw [q34, en_ns_app]; simp [en_ns]) (by rw [← hpp]; simp) (by simp [hkp]) (by simp only [List.length_cons] at *; omega)
    refine xv_sub (L' := [(0, .ref (Y.2.2.2 p)), (1, .ref (Y.2.2.2 2)), (2, .int (nI tag)), (3, .int (nI (M 2 1 + ([] ++ [tag]).length))), (4, .int (nI 0))]) [0, 1, 2, 3, 4] rfl ?_
    exact lp17 _ M10 [] x 0 (by rw [q10]; rfl) rfl rfl (Nat.lt_succ_self _)
  · skip
    refine xv_retv hX hR dc_NL_writeIfThere_7 ?_
    have hxe : x = [] := List.eq_nil_of_length_eq_zero (by omega)
    rw [hxe]
    exact q0

set_option maxRecDepth 100000 in
set_option maxHeartbeats 4000000 in
theorem ct_EX_writeOctets (l : Launch) (Y : xw_Y) (M : xm_M) (p : Nat) (o : List Nat) (hp : xk_ex p) (ho : M p 3 = o.length) (hb : ∀ j, j < o.length → M (p + 1) j = o.getD j 0) (h20 : o.length ≤ 20) (hfit : M 2 1 + o.length ≤ 160) : xc_v l qm_EX_writeOctets 1 Y [.ref (Y.2.2.2 p), .ref (Y.2.2.2 2)] M (fun M1 => M1 = wr_m M o) := by
  refine xc_v.mk rfl (by decide) (Nat.le_of_ble_eq_true rfl) ?_
  intro X hXl hX hR
  subst hXl
  have hX : xv_ok X Y prog_4_method_4_code "CertificatePath$Extension" 3 (xc_rm 1) := hX
  show xv_V X Y 3 0 0 xw_lk xw_N M 0 [(0, .ref (Y.2.2.2 p)), (1, .ref (Y.2.2.2 2))] []
  have hp6 := hp.2.2.2.1
  refine xv_iconst hX (v := nI 0) dc_EX_writeOctets_0 (by decide) (rfl : _ = 1) ?_
  refine xv_istore_n hX [1, 2, 0] dc_EX_writeOctets_1 (by decide) (L' := [(0, .ref (Y.2.2.2 p)), (1, .ref (Y.2.2.2 2)), (2, .int (nI 0))]) rfl (rfl : _ = 2) ?_
  have lp2 : ∀ (fu2 : Nat) (Mk : xm_M) (k : Nat) (hk : k ≤ o.length) (hM : Mk = wr_m M (o.take k)), o.length - k < fu2 → xv_V X Y 3 0 0 xw_lk xw_N Mk 2 [(0, .ref (Y.2.2.2 p)), (1, .ref (Y.2.2.2 2)), (2, .int (nI k))] [] := by
    intro n2
    induction n2 with
    | zero => intro Mk k hk hM hm2; exact absurd hm2 (Nat.not_lt_zero _)
    | succ n2 ih2 =>
      intro Mk k hk hM hm2
      refine xv_iload_n hX 2 dc_EX_writeOctets_2 rfl (rfl : _ = 3) ?_
      have hz : Mk p 3 = o.length := by rw [hM, wr_o (by omega) (by omega)]; exact ho
      refine xv_aload_n hX 0 dc_EX_writeOctets_3 rfl (rfl : _ = 4) ?_
      refine xv_geti hX fl_EX_23 rfl hp.1 (xk_N (Nat.lt_of_succ_lt hp.2.2.2.2)) (v := Mk p 3) rfl dc_EX_writeOctets_4 (rfl : _ = 7) ?_
      refine xv_icmp_ge hX (nI_toInt (by omega)) (nI_toInt (by omega)) (tgt := 27) (pq := 10) dc_EX_writeOctets_7 (by decide) rfl (fun c7 => ?_) (fun c7 => ?_)
      · skip
        refine xv_retv hX hR dc_EX_writeOctets_27 ?_
        rw [hM, show k = o.length by omega, List.take_length]
      · skip
        refine xv_aload_n hX 1 dc_EX_writeOctets_10 rfl (rfl : _ = 11) ?_
        refine xv_aload_n hX 0 dc_EX_writeOctets_11 rfl (rfl : _ = 12) ?_
        refine xv_getr hX fl_EX_19 rfl hp.1 (xk_N (Nat.lt_of_succ_lt hp.2.2.2.2)) hp.2.2.1 dc_EX_writeOctets_12 (rfl : _ = 15) ?_
        refine xv_iload_n hX 2 dc_EX_writeOctets_15 rfl (rfl : _ = 16) ?_
        refine xv_iald hX hp.2.1 (xk_N hp.2.2.2.2) (by omega) (by decide) (v := Mk (p + 1) k) rfl dc_EX_writeOctets_16 (rfl : _ = 17) ?_
        refine xv_calli hX (As := [.int (nI (Mk (p + 1) k))]) (rest := []) (ct_BR_append _ Y Mk (Mk (p + 1) k) (by rw [hM, wr_21, List.length_take]; omega)) ml_EX_38 li_BR_append rfl (by decide) rfl rfl rfl (by decide) ⟨by decide, by decide⟩ ⟨Nat.le_refl _, Nat.le_refl _⟩ (Nat.le_of_ble_eq_true rfl) dc_EX_writeOctets_17 (rfl : _ = 20) (fun r17 M17 p17 => ?_)
        have q17 : M17 = wr_m M (o.take (k + 1)) := by rw [p17.1, wr_one, hM, wr_app, wr_o (by omega) (by omega), hb k (by omega), List.take_succ, List.getD_eq_getElem?_getD, List.getElem?_eq_getElem (by omega)]; rfl
        rw [p17.2]
        refine xv_pop hX dc_EX_writeOctets_20 rfl (rfl : _ = 21) ?_
        refine xv_iinc hX 2 [1, 2, 0] dc_EX_writeOctets_21 rfl (xi_inc k 1) (by decide) (L' := [(0, .ref (Y.2.2.2 p)), (1, .ref (Y.2.2.2 2)), (2, .int (nI (k + 1)))]) rfl (rfl : _ = 24) ?_
        refine xv_goto hX (pq := 2) dc_EX_writeOctets_24 (by decide) ?_
        refine xv_sub (L' := [(0, .ref (Y.2.2.2 p)), (1, .ref (Y.2.2.2 2)), (2, .int (nI (k + 1)))]) [0, 1, 2] rfl ?_
        exact ih2 M17 (k + 1) (by omega) q17 (by omega)
  refine xv_sub (L' := [(0, .ref (Y.2.2.2 p)), (1, .ref (Y.2.2.2 2)), (2, .int (nI 0))]) [0, 1, 2] rfl ?_
  exact lp2 _ M 0 (Nat.zero_le _) (by rw [List.take_zero, wr_nil]) (Nat.lt_succ_self _)

theorem en_tl : en_true.length = 3 := rfl

set_option maxRecDepth 100000 in
set_option maxHeartbeats 4000000 in
theorem ct_CT_writeBasic (l : Launch) (Y : xw_Y) (M : xm_M) (c : Nat) (t : Bool) (r : Option Nat) (hc : xk_ct c) (ha : M c 11 = if t = true then 1 else 0) (hr : M c 12 = ct_o r) (hr31 : ∀ v, r = some v → v < 2147483648) (hfit : M 2 1 + (en_basic t r).length ≤ 160) : xc_v l qm_CT_writeBasic 2 Y [.ref (Y.2.2.2 c), .ref (Y.2.2.2 2)] M (fun M1 => M1 = wr_m M (en_basic t r)) := by
  refine xc_v.mk rfl (by decide) (Nat.le_of_ble_eq_true rfl) ?_
  intro X hXl hX hR
  subst hXl
  have hX : xv_ok X Y prog_3_method_21_code "CertificatePath$Certificate" 3 (xc_rm 2) := hX
  show xv_V X Y 3 0 0 xw_lk xw_N M 0 [(0, .ref (Y.2.2.2 c)), (1, .ref (Y.2.2.2 2))] []
  have hc6 : 6 ≤ c := hc.2.2.2.2.2.2.1
  have hc29 : c + 29 < 276 := hc.2.2.2.2.2.2.2
  have q0 : M = wr_m M [] := (wr_nil M).symm
  refine xv_aload_n hX 1 dc_CT_writeBasic_0 rfl (rfl : _ = 1) ?_
  refine xv_bipush hX (v := nI 48) dc_CT_writeBasic_1 (by decide) (rfl : _ = 3) ?_
  refine xv_calli hX (As := [.int (nI 48)]) (rest := []) (ct_BR_append _ Y M 48 (by have := en_el_ge 48 ((if t = true then en_true else []) ++ en_oi r); unfold en_basic at hfit; omega)) ml_CT_180 li_BR_append rfl (by decide) rfl rfl rfl (by decide) ⟨by decide, by decide⟩ ⟨Nat.le_refl _, Nat.le_refl _⟩ (Nat.le_of_ble_eq_true rfl) dc_CT_writeBasic_3 (rfl : _ = 6) (fun r3 M3 p3 => ?_)
  have q3 : M3 = wr_m M ([] ++ [48]) := by rw [p3.1]; exact wr_one M 48
  have zk3 : M 2 1 + 1 = M 2 1 + ([] ++ [48]).length := rfl
  rw [p3.2, zk3]
  refine xv_istore_n hX [1, 2, 0] dc_CT_writeBasic_6 (by decide) (L' := [(0, .ref (Y.2.2.2 c)), (1, .ref (Y.2.2.2 2)), (2, .int (nI (M 2 1 + ([] ++ [48]).length)))]) rfl (rfl : _ = 7) ?_
  refine xv_aload_n hX 0 dc_CT_writeBasic_7 rfl (rfl : _ = 8) ?_
  have h11 : M3 c 11 = if t = true then 1 else 0 := by rw [q3, wr_o (by omega) (by omega)]; exact ha
  have h11b : M3 c 11 < 2 := by rw [h11]; split <;> decide
  refine xv_geti hX fl_CT_45 rfl hc.1 (xk_N (by omega)) (v := M3 c 11) rfl dc_CT_writeBasic_8 (rfl : _ = 11) ?_
  refine xv_if_eq hX (nI_toInt (by omega)) (tgt := 18) (pq := 14) dc_CT_writeBasic_11 (by decide) rfl (fun c11 => ?_) (fun c11 => ?_)
  · skip
    have ht : t = false := by cases t with
      | false => rfl
      | true => rw [h11] at c11; simp at c11
    subst ht
    unfold en_basic at hfit
    have hge := en_el_ge 48 ((if false = true then en_true else []) ++ en_oi r)
    rw [if_neg (by decide)] at hfit hge
    cases r with
    | none =>
      have hr9 : M3 c 12 = 4294967295 := by rw [q3, wr_o (by omega) (by omega)]; exact hr
      rw [show en_oi none = [] from rfl] at hfit hge
      refine xv_aload_n hX 0 dc_CT_writeBasic_18 rfl (rfl : _ = 19) ?_
      refine xv_geti hX fl_CT_49 rfl hc.1 (xk_N (by omega)) (v := 4294967295) hr9 dc_CT_writeBasic_19 (rfl : _ = 22) ?_
      refine xv_iconst hX (v := nI 4294967295) dc_CT_writeBasic_22 (by decide) (rfl : _ = 23) ?_
      refine xv_icmp_eq hX (show (nI 4294967295).toInt = -1 by decide) (show (nI 4294967295).toInt = -1 by decide) (tgt := 34) (pq := 26) dc_CT_writeBasic_23 (by decide) rfl (fun c23 => ?_) (fun c23 => ?_)
      · skip
        refine xv_aload_n hX 1 dc_CT_writeBasic_34 rfl (rfl : _ = 35) ?_
        refine xv_iload_n hX 2 dc_CT_writeBasic_35 rfl (rfl : _ = 36) ?_
        refine xv_callv hX (As := [.int (nI (M 2 1 + ([] ++ [48]).length))]) (rest := []) (ct_BR_insertLength _ Y M3 M ([] ++ [48]) ([] ++ []) (by rw [q3] <;> try simp only [List.append_assoc, List.nil_append, List.append_nil]) (by simp only [List.length_append, List.length_cons, List.length_nil]; omega) (by have hel := en_el_len 48 ([] ++ []); simp only [List.length_append, List.length_cons, List.length_nil] at *; omega)) ml_CT_193 li_BR_insertLength rfl (by decide) rfl rfl rfl (by decide) ⟨by decide, by decide⟩ ⟨Nat.le_refl _, Nat.le_refl _⟩ (Nat.le_of_ble_eq_true rfl) dc_CT_writeBasic_36 (rfl : _ = 39) (fun M36 p36 => ?_)
        have q36 : M36 = wr_m M (en_el 48 ([] ++ [])) := by rw [p36]; simp only [List.append_assoc, en_el, List.cons_append, List.nil_append]
        refine xv_retv hX hR dc_CT_writeBasic_39 ?_
        rw [q36]
        rfl
      · skip
        exact absurd c23 (by first | decide | omega)
    | some v =>
      have hr9 : M3 c 12 = v := by rw [q3, wr_o (by omega) (by omega)]; exact hr
      have hv31 := hr31 v rfl
      rw [show en_oi (some v) = en_int v from rfl] at hfit hge
      refine xv_aload_n hX 0 dc_CT_writeBasic_18 rfl (rfl : _ = 19) ?_
      refine xv_geti hX fl_CT_49 rfl hc.1 (xk_N (by omega)) (v := v) hr9 dc_CT_writeBasic_19 (rfl : _ = 22) ?_
      refine xv_iconst hX (v := nI 4294967295) dc_CT_writeBasic_22 (by decide) (rfl : _ = 23) ?_
      refine xv_icmp_eq hX (nI_toInt (by omega)) (show (nI 4294967295).toInt = -1 by decide) (tgt := 34) (pq := 26) dc_CT_writeBasic_23 (by decide) rfl (fun c23 => ?_) (fun c23 => ?_)
      · skip
        exact absurd c23 (by first | decide | omega)
      · skip
        refine xv_aload_n hX 1 dc_CT_writeBasic_26 rfl (rfl : _ = 27) ?_
        refine xv_aload_n hX 0 dc_CT_writeBasic_27 rfl (rfl : _ = 28) ?_
        refine xv_geti hX fl_CT_49 rfl hc.1 (xk_N (by omega)) (v := v) hr9 dc_CT_writeBasic_28 (rfl : _ = 31) ?_
        refine xv_callv hX (As := [.int (nI v)]) (rest := []) (ct_BR_appendInteger _ Y M3 v hv31 (by rw [q3, wr_21]; simp only [List.length_append, List.length_cons, List.length_nil] at *; omega)) ml_CT_196 li_BR_appendInteger rfl (by decide) rfl rfl rfl (by decide) ⟨by decide, by decide⟩ ⟨Nat.le_refl _, Nat.le_refl _⟩ (Nat.le_of_ble_eq_true rfl) dc_CT_writeBasic_31 (rfl : _ = 34) (fun M31 p31 => ?_)
        have q31 : M31 = wr_m M (([] ++ [48]) ++ en_int v) := by rw [p31, q3, wr_app]
        refine xv_aload_n hX 1 dc_CT_writeBasic_34 rfl (rfl : _ = 35) ?_
        refine xv_iload_n hX 2 dc_CT_writeBasic_35 rfl (rfl : _ = 36) ?_
        refine xv_callv hX (As := [.int (nI (M 2 1 + ([] ++ [48]).length))]) (rest := []) (ct_BR_insertLength _ Y M31 M ([] ++ [48]) ([] ++ en_int v) (by rw [q31] <;> try simp only [List.append_assoc, List.nil_append, List.append_nil]) (by simp only [List.length_append, List.length_cons, List.length_nil]; omega) (by have hel := en_el_len 48 ([] ++ en_int v); simp only [List.length_append, List.length_cons, List.length_nil] at *; omega)) ml_CT_193 li_BR_insertLength rfl (by decide) rfl rfl rfl (by decide) ⟨by decide, by decide⟩ ⟨Nat.le_refl _, Nat.le_refl _⟩ (Nat.le_of_ble_eq_true rfl) dc_CT_writeBasic_36 (rfl : _ = 39) (fun M36 p36 => ?_)
        have q36 : M36 = wr_m M (en_el 48 ([] ++ en_int v)) := by rw [p36]; simp only [List.append_assoc, en_el, List.cons_append, List.nil_append]
        refine xv_retv hX hR dc_CT_writeBasic_39 ?_
        rw [q36]
        rfl
  · skip
    have ht : t = true := by cases t with
      | true => rfl
      | false => rw [h11] at c11; simp at c11
    subst ht
    have hfit0 := hfit
    have hge := en_el_ge 48 ((if true = true then en_true else []) ++ en_oi r)
    refine xv_aload_n hX 1 dc_CT_writeBasic_14 rfl (rfl : _ = 15) ?_
    refine xv_callv hX (As := []) (rest := []) (ct_BR_appendTrue _ Y M3 (by rw [q3, wr_21]; simp only [List.length_append, List.length_cons, List.length_nil]; unfold en_basic at hfit; have := en_el_ge 48 (en_true ++ en_oi r); simp only [List.length_append, en_tl] at this; rw [if_pos rfl] at hfit; omega)) ml_CT_202 li_BR_appendTrue rfl (by decide) rfl rfl rfl (by decide) ⟨by decide, by decide⟩ ⟨Nat.le_refl _, Nat.le_refl _⟩ (Nat.le_of_ble_eq_true rfl) dc_CT_writeBasic_15 (rfl : _ = 18) (fun M15 p15 => ?_)
    have q15 : M15 = wr_m M (([] ++ [48]) ++ en_true) := by rw [p15, q3, wr_app]
    unfold en_basic at hfit
    rw [if_pos rfl] at hfit hge
    have htl := en_tl
    cases r with
    | none =>
      have hr9 : M15 c 12 = 4294967295 := by rw [q15, wr_o (by omega) (by omega)]; exact hr
      rw [show en_oi none = [] from rfl] at hfit hge
      refine xv_aload_n hX 0 dc_CT_writeBasic_18 rfl (rfl : _ = 19) ?_
      refine xv_geti hX fl_CT_49 rfl hc.1 (xk_N (by omega)) (v := 4294967295) hr9 dc_CT_writeBasic_19 (rfl : _ = 22) ?_
      refine xv_iconst hX (v := nI 4294967295) dc_CT_writeBasic_22 (by decide) (rfl : _ = 23) ?_
      refine xv_icmp_eq hX (show (nI 4294967295).toInt = -1 by decide) (show (nI 4294967295).toInt = -1 by decide) (tgt := 34) (pq := 26) dc_CT_writeBasic_23 (by decide) rfl (fun c23 => ?_) (fun c23 => ?_)
      · skip
        refine xv_aload_n hX 1 dc_CT_writeBasic_34 rfl (rfl : _ = 35) ?_
        refine xv_iload_n hX 2 dc_CT_writeBasic_35 rfl (rfl : _ = 36) ?_
        refine xv_callv hX (As := [.int (nI (M 2 1 + ([] ++ [48]).length))]) (rest := []) (ct_BR_insertLength _ Y M15 M ([] ++ [48]) (en_true ++ []) (by rw [q15] <;> try simp only [List.append_assoc, List.nil_append, List.append_nil]) (by simp only [List.length_append, List.length_cons, List.length_nil]; omega) (by have hel := en_el_len 48 (en_true ++ []); simp only [List.length_append, List.length_cons, List.length_nil] at *; omega)) ml_CT_193 li_BR_insertLength rfl (by decide) rfl rfl rfl (by decide) ⟨by decide, by decide⟩ ⟨Nat.le_refl _, Nat.le_refl _⟩ (Nat.le_of_ble_eq_true rfl) dc_CT_writeBasic_36 (rfl : _ = 39) (fun M36 p36 => ?_)
        have q36 : M36 = wr_m M (en_el 48 (en_true ++ [])) := by rw [p36]; simp only [List.append_assoc, en_el, List.cons_append, List.nil_append]
        refine xv_retv hX hR dc_CT_writeBasic_39 ?_
        rw [q36]
        rfl
      · skip
        exact absurd c23 (by first | decide | omega)
    | some v =>
      have hr9 : M15 c 12 = v := by rw [q15, wr_o (by omega) (by omega)]; exact hr
      have hv31 := hr31 v rfl
      rw [show en_oi (some v) = en_int v from rfl] at hfit hge
      refine xv_aload_n hX 0 dc_CT_writeBasic_18 rfl (rfl : _ = 19) ?_
      refine xv_geti hX fl_CT_49 rfl hc.1 (xk_N (by omega)) (v := v) hr9 dc_CT_writeBasic_19 (rfl : _ = 22) ?_
      refine xv_iconst hX (v := nI 4294967295) dc_CT_writeBasic_22 (by decide) (rfl : _ = 23) ?_
      refine xv_icmp_eq hX (nI_toInt (by omega)) (show (nI 4294967295).toInt = -1 by decide) (tgt := 34) (pq := 26) dc_CT_writeBasic_23 (by decide) rfl (fun c23 => ?_) (fun c23 => ?_)
      · skip
        exact absurd c23 (by first | decide | omega)
      · skip
        refine xv_aload_n hX 1 dc_CT_writeBasic_26 rfl (rfl : _ = 27) ?_
        refine xv_aload_n hX 0 dc_CT_writeBasic_27 rfl (rfl : _ = 28) ?_
        refine xv_geti hX fl_CT_49 rfl hc.1 (xk_N (by omega)) (v := v) hr9 dc_CT_writeBasic_28 (rfl : _ = 31) ?_
        refine xv_callv hX (As := [.int (nI v)]) (rest := []) (ct_BR_appendInteger _ Y M15 v hv31 (by rw [q15, wr_21]; simp only [List.length_append, List.length_cons, List.length_nil] at *; omega)) ml_CT_196 li_BR_appendInteger rfl (by decide) rfl rfl rfl (by decide) ⟨by decide, by decide⟩ ⟨Nat.le_refl _, Nat.le_refl _⟩ (Nat.le_of_ble_eq_true rfl) dc_CT_writeBasic_31 (rfl : _ = 34) (fun M31 p31 => ?_)
        have q31 : M31 = wr_m M ((([] ++ [48]) ++ en_true) ++ en_int v) := by rw [p31, q15, wr_app]
        refine xv_aload_n hX 1 dc_CT_writeBasic_34 rfl (rfl : _ = 35) ?_
        refine xv_iload_n hX 2 dc_CT_writeBasic_35 rfl (rfl : _ = 36) ?_
        refine xv_callv hX (As := [.int (nI (M 2 1 + ([] ++ [48]).length))]) (rest := []) (ct_BR_insertLength _ Y M31 M ([] ++ [48]) (en_true ++ en_int v) (by rw [q31] <;> try simp only [List.append_assoc, List.nil_append, List.append_nil]) (by simp only [List.length_append, List.length_cons, List.length_nil]; omega) (by have hel := en_el_len 48 (en_true ++ en_int v); simp only [List.length_append, List.length_cons, List.length_nil] at *; omega)) ml_CT_193 li_BR_insertLength rfl (by decide) rfl rfl rfl (by decide) ⟨by decide, by decide⟩ ⟨Nat.le_refl _, Nat.le_refl _⟩ (Nat.le_of_ble_eq_true rfl) dc_CT_writeBasic_36 (rfl : _ = 39) (fun M36 p36 => ?_)
        have q36 : M36 = wr_m M (en_el 48 (en_true ++ en_int v)) := by rw [p36]; simp only [List.append_assoc, en_el, List.cons_append, List.nil_append]
        refine xv_retv hX hR dc_CT_writeBasic_39 ?_
        rw [q36]
        rfl
