/-! numbers and names are written -/
set_option maxRecDepth 100000 in
set_option maxHeartbeats 4000000 in
theorem ct_BR_appendInteger (l : Launch) (Y : xw_Y) (M : xm_M) (v : Nat) (hv : v < 2147483648) (hfit : M 2 1 + (en_int v).length ≤ 160) : xc_v l qm_BR_appendInteger 1 Y [.ref (Y.2.2.2 2), .int (nI v)] M (fun M1 => M1 = wr_m M (en_int v)) := by
  refine xc_v.mk rfl (by decide) (Nat.le_of_ble_eq_true rfl) ?_
  intro X hXl hX hR
  subst hXl
  have hX : xv_ok X Y prog_2_method_6_code "CertificatePath$ByteRow" 5 (xc_rm 1) := hX
  show xv_V X Y 5 0 0 xw_lk xw_N M 0 [(0, .ref (Y.2.2.2 2)), (1, .int (nI v))] []
  have hl := en_el_len 2 (en_ib v (en_nb v 3 1))
  rw [en_ib_len] at hl
  have hfit : M 2 1 + (en_el 2 (en_ib v (en_nb v 3 1))).length ≤ 160 := hfit
  have hnb := en_nb_le v 3 1
  rw [if_pos (by omega)] at hl
  refine xv_aload_n hX 0 dc_BR_appendInteger_0 rfl (rfl : _ = 1) ?_
  refine xv_iconst hX (v := nI 2) dc_BR_appendInteger_1 (by decide) (rfl : _ = 2) ?_
  refine xv_calli hX (As := [.int (nI 2)]) (rest := []) (ct_BR_append _ Y M 2 (by omega)) ml_BR_20 li_BR_append rfl (by decide) rfl rfl rfl (by decide) ⟨by decide, by decide⟩ ⟨Nat.le_refl _, Nat.le_refl _⟩ (Nat.le_of_ble_eq_true rfl) dc_BR_appendInteger_2 (rfl : _ = 5) (fun r2 M2 p2 => ?_)
  have q2 : M2 = wr_m M [2] := by rw [p2.1]; exact wr_one M 2
  rw [p2.2]
  refine xv_istore_n hX [1, 2, 0] dc_BR_appendInteger_5 (by decide) (L' := [(0, .ref (Y.2.2.2 2)), (1, .int (nI v)), (2, .int (nI (M 2 1 + 1)))]) rfl (rfl : _ = 6) ?_
  refine xv_iconst hX (v := nI 1) dc_BR_appendInteger_6 (by decide) (rfl : _ = 7) ?_
  refine xv_istore_n hX [1, 2, 3, 0] dc_BR_appendInteger_7 (by decide) (L' := [(0, .ref (Y.2.2.2 2)), (1, .int (nI v)), (2, .int (nI (M 2 1 + 1))), (3, .int (nI 1))]) rfl (rfl : _ = 8) ?_
  have lp8 : ∀ (fu8 : Nat) (n : Nat) (hn1 : 1 ≤ n) (hn4 : n ≤ 4) (hn : en_nb v 3 1 = en_nb v (4 - n) n), 4 - n < fu8 → xv_V X Y 5 0 0 xw_lk xw_N M2 8 [(0, .ref (Y.2.2.2 2)), (1, .int (nI v)), (2, .int (nI (M 2 1 + 1))), (3, .int (nI n))] [] := by
    intro n8
    induction n8 with
    | zero => intro n hn1 hn4 hn hm8; exact absurd hm8 (Nat.not_lt_zero _)
    | succ n8 ih8 =>
      intro n hn1 hn4 hn hm8
      refine xv_iload_n hX 3 dc_BR_appendInteger_8 rfl (rfl : _ = 9) ?_
      refine xv_iconst hX (v := nI 4) dc_BR_appendInteger_9 (by decide) (rfl : _ = 10) ?_
      refine xv_icmp_ge hX (nI_toInt (by omega)) (show (nI 4).toInt = 4 by decide) (tgt := 30) (pq := 13) dc_BR_appendInteger_10 (by decide) rfl (fun c10 => ?_) (fun c10 => ?_)
      · skip
        have hne : en_nb v 3 1 = n := by
          rw [hn]
          first
          | (rw [show n = 4 by omega]; rfl)
          | (rw [show 4 - n = (3 - n) + 1 by omega]; exact if_pos (by omega))
        rw [hne] at hl hfit hnb
        refine xv_iload_n hX 3 dc_BR_appendInteger_30 rfl (rfl : _ = 31) ?_
        refine xv_iconst hX (v := nI 1) dc_BR_appendInteger_31 (by decide) (rfl : _ = 32) ?_
        refine xv_isub hX dc_BR_appendInteger_32 (xi_sub1 n) (rfl : _ = 33) ?_
        refine xv_istore hX [1, 2, 3, 4, 0] dc_BR_appendInteger_33 (by decide) (L' := [(0, .ref (Y.2.2.2 2)), (1, .int (nI v)), (2, .int (nI (M 2 1 + 1))), (3, .int (nI n)), (4, .int (xi_pred n))]) rfl (rfl : _ = 35) ?_
        have lp35 : ∀ (fu35 : Nat) (Mk : xm_M) (t : Nat) (pre : List Nat) (ht : t ≤ n) (hM : Mk = wr_m M ([2] ++ pre)) (hpre : pre ++ en_ib v t = en_ib v n), t < fu35 → xv_V X Y 5 0 0 xw_lk xw_N Mk 35 [(0, .ref (Y.2.2.2 2)), (1, .int (nI v)), (2, .int (nI (M 2 1 + 1))), (3, .int (nI n)), (4, .int (xi_pred t))] [] := by
          intro n35
          induction n35 with
          | zero => intro Mk t pre ht hM hpre hm35; exact absurd hm35 (Nat.not_lt_zero _)
          | succ n35 ih35 =>
            intro Mk t pre ht hM hpre hm35
            cases t with
            | zero =>
              show xv_V X Y 5 0 0 xw_lk xw_N Mk 35 [(0, .ref (Y.2.2.2 2)), (1, .int (nI v)), (2, .int (nI (M 2 1 + 1))), (3, .int (nI n)), (4, .int (-1 : Int32))] []
              refine xv_iload hX 4 dc_BR_appendInteger_35 rfl (rfl : _ = 37) ?_
              refine xv_if_lt hX (rfl : ((-1 : Int32)).toInt = _) (tgt := 62) (pq := 40) dc_BR_appendInteger_37 (by decide) rfl (fun c37 => ?_) (fun c37 => ?_)
              · skip
                have hpl : pre.length = n := by have h := congrArg List.length hpre; rw [List.length_append, en_ib_len, en_ib_len] at h; omega
                refine xv_aload_n hX 0 dc_BR_appendInteger_62 rfl (rfl : _ = 63) ?_
                refine xv_iload_n hX 2 dc_BR_appendInteger_63 rfl (rfl : _ = 64) ?_
                refine xv_callv hX (As := [.int (nI (M 2 1 + 1))]) (rest := []) (ct_BR_insertLength _ Y Mk M [2] pre hM (by decide) (by rw [hpl]; rw [if_pos (by omega)]; simp only [List.length_cons, List.length_nil]; omega)) ml_BR_24 li_BR_insertLength rfl (by decide) rfl rfl rfl (by decide) ⟨by decide, by decide⟩ ⟨Nat.le_refl _, Nat.le_refl _⟩ (Nat.le_of_ble_eq_true rfl) dc_BR_appendInteger_64 (rfl : _ = 67) (fun M64 p64 => ?_)
                refine xv_retv hX hR dc_BR_appendInteger_67 ?_
                show M64 = wr_m M (en_el 2 (en_ib v (en_nb v 3 1)))
                have hpre : pre = en_ib v n := by have h := hpre; simp only [en_ib, List.append_nil] at h; exact h
                rw [hne, ← hpre]
                exact p64
              · skip
                exact absurd c37 (by decide)
            | succ t =>
              show xv_V X Y 5 0 0 xw_lk xw_N Mk 35 [(0, .ref (Y.2.2.2 2)), (1, .int (nI v)), (2, .int (nI (M 2 1 + 1))), (3, .int (nI n)), (4, .int (nI t))] []
              refine xv_iload hX 4 dc_BR_appendInteger_35 rfl (rfl : _ = 37) ?_
              refine xv_if_lt hX (nI_toInt (by omega)) (tgt := 62) (pq := 40) dc_BR_appendInteger_37 (by decide) rfl (fun c37 => ?_) (fun c37 => ?_)
              · skip
                exact absurd c37 (by omega)
              · skip
                have hpl : pre.length + (t + 1) = n := by have h := congrArg List.length hpre; rw [List.length_append, en_ib_len, en_ib_len] at h; exact h
                have hdl := Nat.div_le_self v (2 ^ (8 * t))
                refine xv_aload_n hX 0 dc_BR_appendInteger_40 rfl (rfl : _ = 41) ?_
                refine xv_iload_n hX 1 dc_BR_appendInteger_41 rfl (rfl : _ = 42) ?_
                refine xv_bipush hX (v := nI 8) dc_BR_appendInteger_42 (by decide) (rfl : _ = 44) ?_
                refine xv_iload hX 4 dc_BR_appendInteger_44 rfl (rfl : _ = 46) ?_
                refine xv_imul hX dc_BR_appendInteger_46 (pk_mul 8 t) (rfl : _ = 47) ?_
                refine xv_iushr hX dc_BR_appendInteger_47 (xi_ushr (by omega) (by omega)) (rfl : _ = 48) ?_
                refine xv_sipush hX (v := nI 255) dc_BR_appendInteger_48 (by decide) (rfl : _ = 51) ?_
                refine xv_iand hX dc_BR_appendInteger_51 (xi_andA _) (rfl : _ = 52) ?_
                refine xv_calli hX (As := [.int (nI (v / 2 ^ (8 * t) % 256))]) (rest := []) (ct_BR_append _ Y Mk (v / 2 ^ (8 * t) % 256) (by rw [hM, wr_21]; simp only [List.length_append, List.length_cons, List.length_nil]; omega)) ml_BR_20 li_BR_append rfl (by decide) rfl rfl rfl (by decide) ⟨by decide, by decide⟩ ⟨Nat.le_refl _, Nat.le_refl _⟩ (Nat.le_of_ble_eq_true rfl) dc_BR_appendInteger_52 (rfl : _ = 55) (fun r52 M52 p52 => ?_)
                have q52 : M52 = wr_m M ([2] ++ (pre ++ [v / 2 ^ (8 * t) % 256])) := by rw [p52.1, wr_one, hM, wr_app, List.append_assoc]
                rw [p52.2]
                refine xv_pop hX dc_BR_appendInteger_55 rfl (rfl : _ = 56) ?_
                refine xv_iinc hX 4 [1, 2, 3, 4, 0] dc_BR_appendInteger_56 rfl (xi_dec t) (by decide) (L' := [(0, .ref (Y.2.2.2 2)), (1, .int (nI v)), (2, .int (nI (M 2 1 + 1))), (3, .int (nI n)), (4, .int (xi_pred t))]) rfl (rfl : _ = 59) ?_
                refine xv_goto hX (pq := 35) dc_BR_appendInteger_59 (by decide) ?_
                refine xv_sub (L' := [(0, .ref (Y.2.2.2 2)), (1, .int (nI v)), (2, .int (nI (M 2 1 + 1))), (3, .int (nI n)), (4, .int (xi_pred t))]) [0, 1, 2, 3, 4] rfl ?_
                exact ih35 M52 t (pre ++ [v / 2 ^ (8 * t) % 256]) (by omega) q52 (by rw [List.append_assoc]; exact hpre) (by omega)
        refine xv_sub (L' := [(0, .ref (Y.2.2.2 2)), (1, .int (nI v)), (2, .int (nI (M 2 1 + 1))), (3, .int (nI n)), (4, .int (xi_pred n))]) [0, 1, 2, 3, 4] rfl ?_
        exact lp35 _ M2 n [] (Nat.le_refl _) q2 rfl (Nat.lt_succ_self _)
      · skip
        refine xv_iload_n hX 1 dc_BR_appendInteger_13 rfl (rfl : _ = 14) ?_
        refine xv_bipush hX (v := nI 8) dc_BR_appendInteger_14 (by decide) (rfl : _ = 16) ?_
        refine xv_iload_n hX 3 dc_BR_appendInteger_16 rfl (rfl : _ = 17) ?_
        refine xv_imul hX dc_BR_appendInteger_17 (pk_mul 8 n) (rfl : _ = 18) ?_
        refine xv_iconst hX (v := nI 1) dc_BR_appendInteger_18 (by decide) (rfl : _ = 19) ?_
        refine xv_isub hX dc_BR_appendInteger_19 (pk_sub (by omega)) (rfl : _ = 20) ?_
        refine xv_iushr hX dc_BR_appendInteger_20 (xi_ushr (by omega) (by omega)) (rfl : _ = 21) ?_
        have hdl := Nat.div_le_self v (2 ^ (8 * n - 1))
        refine xv_if_eq hX (nI_toInt (by omega)) (tgt := 30) (pq := 24) dc_BR_appendInteger_21 (by decide) rfl (fun c21 => ?_) (fun c21 => ?_)
        · skip
          have hne : en_nb v 3 1 = n := by
            rw [hn]
            first
            | (rw [show n = 4 by omega]; rfl)
            | (rw [show 4 - n = (3 - n) + 1 by omega]; exact if_pos (by omega))
          rw [hne] at hl hfit hnb
          refine xv_iload_n hX 3 dc_BR_appendInteger_30 rfl (rfl : _ = 31) ?_
          refine xv_iconst hX (v := nI 1) dc_BR_appendInteger_31 (by decide) (rfl : _ = 32) ?_
          refine xv_isub hX dc_BR_appendInteger_32 (xi_sub1 n) (rfl : _ = 33) ?_
          refine xv_istore hX [1, 2, 3, 4, 0] dc_BR_appendInteger_33 (by decide) (L' := [(0, .ref (Y.2.2.2 2)), (1, .int (nI v)), (2, .int (nI (M 2 1 + 1))), (3, .int (nI n)), (4, .int (xi_pred n))]) rfl (rfl : _ = 35) ?_
          have lp35 : ∀ (fu35 : Nat) (Mk : xm_M) (t : Nat) (pre : List Nat) (ht : t ≤ n) (hM : Mk = wr_m M ([2] ++ pre)) (hpre : pre ++ en_ib v t = en_ib v n), t < fu35 → xv_V X Y 5 0 0 xw_lk xw_N Mk 35 [(0, .ref (Y.2.2.2 2)), (1, .int (nI v)), (2, .int (nI (M 2 1 + 1))), (3, .int (nI n)), (4, .int (xi_pred t))] [] := by
            intro n35
            induction n35 with
            | zero => intro Mk t pre ht hM hpre hm35; exact absurd hm35 (Nat.not_lt_zero _)
            | succ n35 ih35 =>
              intro Mk t pre ht hM hpre hm35
              cases t with
              | zero =>
                show xv_V X Y 5 0 0 xw_lk xw_N Mk 35 [(0, .ref (Y.2.2.2 2)), (1, .int (nI v)), (2, .int (nI (M 2 1 + 1))), (3, .int (nI n)), (4, .int (-1 : Int32))] []
                refine xv_iload hX 4 dc_BR_appendInteger_35 rfl (rfl : _ = 37) ?_
                refine xv_if_lt hX (rfl : ((-1 : Int32)).toInt = _) (tgt := 62) (pq := 40) dc_BR_appendInteger_37 (by decide) rfl (fun c37 => ?_) (fun c37 => ?_)
                · skip
                  have hpl : pre.length = n := by have h := congrArg List.length hpre; rw [List.length_append, en_ib_len, en_ib_len] at h; omega
                  refine xv_aload_n hX 0 dc_BR_appendInteger_62 rfl (rfl : _ = 63) ?_
                  refine xv_iload_n hX 2 dc_BR_appendInteger_63 rfl (rfl : _ = 64) ?_
                  refine xv_callv hX (As := [.int (nI (M 2 1 + 1))]) (rest := []) (ct_BR_insertLength _ Y Mk M [2] pre hM (by decide) (by rw [hpl]; rw [if_pos (by omega)]; simp only [List.length_cons, List.length_nil]; omega)) ml_BR_24 li_BR_insertLength rfl (by decide) rfl rfl rfl (by decide) ⟨by decide, by decide⟩ ⟨Nat.le_refl _, Nat.le_refl _⟩ (Nat.le_of_ble_eq_true rfl) dc_BR_appendInteger_64 (rfl : _ = 67) (fun M64 p64 => ?_)
                  refine xv_retv hX hR dc_BR_appendInteger_67 ?_
                  show M64 = wr_m M (en_el 2 (en_ib v (en_nb v 3 1)))
                  have hpre : pre = en_ib v n := by have h := hpre; simp only [en_ib, List.append_nil] at h; exact h
                  rw [hne, ← hpre]
                  exact p64
                · skip
                  exact absurd c37 (by decide)
              | succ t =>
                show xv_V X Y 5 0 0 xw_lk xw_N Mk 35 [(0, .ref (Y.2.2.2 2)), (1, .int (nI v)), (2, .int (nI (M 2 1 + 1))), (3, .int (nI n)), (4, .int (nI t))] []
                refine xv_iload hX 4 dc_BR_appendInteger_35 rfl (rfl : _ = 37) ?_
                refine xv_if_lt hX (nI_toInt (by omega)) (tgt := 62) (pq := 40) dc_BR_appendInteger_37 (by decide) rfl (fun c37 => ?_) (fun c37 => ?_)
                · skip
                  exact absurd c37 (by omega)
                · skip
                  have hpl : pre.length + (t + 1) = n := by have h := congrArg List.length hpre; rw [List.length_append, en_ib_len, en_ib_len] at h; exact h
                  have hdl := Nat.div_le_self v (2 ^ (8 * t))
                  refine xv_aload_n hX 0 dc_BR_appendInteger_40 rfl (rfl : _ = 41) ?_
                  refine xv_iload_n hX 1 dc_BR_appendInteger_41 rfl (rfl : _ = 42) ?_
                  refine xv_bipush hX (v := nI 8) dc_BR_appendInteger_42 (by decide) (rfl : _ = 44) ?_
                  refine xv_iload hX 4 dc_BR_appendInteger_44 rfl (rfl : _ = 46) ?_
                  refine xv_imul hX dc_BR_appendInteger_46 (pk_mul 8 t) (rfl : _ = 47) ?_
                  refine xv_iushr hX dc_BR_appendInteger_47 (xi_ushr (by omega) (by omega)) (rfl : _ = 48) ?_
                  refine xv_sipush hX (v := nI 255) dc_BR_appendInteger_48 (by decide) (rfl : _ = 51) ?_
                  refine xv_iand hX dc_BR_appendInteger_51 (xi_andA _) (rfl : _ = 52) ?_
                  refine xv_calli hX (As := [.int (nI (v / 2 ^ (8 * t) % 256))]) (rest := []) (ct_BR_append _ Y Mk (v / 2 ^ (8 * t) % 256) (by rw [hM, wr_21]; simp only [List.length_append, List.length_cons, List.length_nil]; omega)) ml_BR_20 li_BR_append rfl (by decide) rfl rfl rfl (by decide) ⟨by decide, by decide⟩ ⟨Nat.le_refl _, Nat.le_refl _⟩ (Nat.le_of_ble_eq_true rfl) dc_BR_appendInteger_52 (rfl : _ = 55) (fun r52 M52 p52 => ?_)
                  have q52 : M52 = wr_m M ([2] ++ (pre ++ [v / 2 ^ (8 * t) % 256])) := by rw [p52.1, wr_one, hM, wr_app, List.append_assoc]
                  rw [p52.2]
                  refine xv_pop hX dc_BR_appendInteger_55 rfl (rfl : _ = 56) ?_
                  refine xv_iinc hX 4 [1, 2, 3, 4, 0] dc_BR_appendInteger_56 rfl (xi_dec t) (by decide) (L' := [(0, .ref (Y.2.2.2 2)), (1, .int (nI v)), (2, .int (nI (M 2 1 + 1))), (3, .int (nI n)), (4, .int (xi_pred t))]) rfl (rfl : _ = 59) ?_
                  refine xv_goto hX (pq := 35) dc_BR_appendInteger_59 (by decide) ?_
                  refine xv_sub (L' := [(0, .ref (Y.2.2.2 2)), (1, .int (nI v)), (2, .int (nI (M 2 1 + 1))), (3, .int (nI n)), (4, .int (xi_pred t))]) [0, 1, 2, 3, 4] rfl ?_
                  exact ih35 M52 t (pre ++ [v / 2 ^ (8 * t) % 256]) (by omega) q52 (by rw [List.append_assoc]; exact hpre) (by omega)
          refine xv_sub (L' := [(0, .ref (Y.2.2.2 2)), (1, .int (nI v)), (2, .int (nI (M 2 1 + 1))), (3, .int (nI n)), (4, .int (xi_pred n))]) [0, 1, 2, 3, 4] rfl ?_
          exact lp35 _ M2 n [] (Nat.le_refl _) q2 rfl (Nat.lt_succ_self _)
        · skip
          refine xv_iinc hX 3 [1, 2, 3, 0] dc_BR_appendInteger_24 rfl (xi_inc n 1) (by decide) (L' := [(0, .ref (Y.2.2.2 2)), (1, .int (nI v)), (2, .int (nI (M 2 1 + 1))), (3, .int (nI (n + 1)))]) rfl (rfl : _ = 27) ?_
          refine xv_goto hX (pq := 8) dc_BR_appendInteger_27 (by decide) ?_
          refine xv_sub (L' := [(0, .ref (Y.2.2.2 2)), (1, .int (nI v)), (2, .int (nI (M 2 1 + 1))), (3, .int (nI (n + 1)))]) [0, 1, 2, 3] rfl ?_
          exact ih8 (n + 1) (by omega) (by omega) (by rw [hn, show 4 - n = (4 - (n + 1)) + 1 by omega]; exact if_neg (by omega)) (by omega)
  refine xv_sub (L' := [(0, .ref (Y.2.2.2 2)), (1, .int (nI v)), (2, .int (nI (M 2 1 + 1))), (3, .int (nI 1))]) [0, 1, 2, 3] rfl ?_
  exact lp8 _ 1 (by decide) (by decide) rfl (Nat.lt_succ_self _)

set_option maxRecDepth 100000 in
set_option maxHeartbeats 4000000 in
theorem ct_BR_appendTrue (l : Launch) (Y : xw_Y) (M : xm_M) (hfit : M 2 1 + 3 ≤ 160) : xc_v l qm_BR_appendTrue 1 Y [.ref (Y.2.2.2 2)] M (fun M1 => M1 = wr_m M en_true) := by
  refine xc_v.mk rfl (by decide) (Nat.le_of_ble_eq_true rfl) ?_
  intro X hXl hX hR
  subst hXl
  have hX : xv_ok X Y prog_2_method_7_code "CertificatePath$ByteRow" 2 (xc_rm 1) := hX
  show xv_V X Y 2 0 0 xw_lk xw_N M 0 [(0, .ref (Y.2.2.2 2))] []
  refine xv_aload_n hX 0 dc_BR_appendTrue_0 rfl (rfl : _ = 1) ?_
  refine xv_iconst hX (v := nI 1) dc_BR_appendTrue_1 (by decide) (rfl : _ = 2) ?_
  refine xv_calli hX (As := [.int (nI 1)]) (rest := []) (ct_BR_append _ Y M 1 (by omega)) ml_BR_20 li_BR_append rfl (by decide) rfl rfl rfl (by decide) ⟨by decide, by decide⟩ ⟨Nat.le_refl _, Nat.le_refl _⟩ (Nat.le_of_ble_eq_true rfl) dc_BR_appendTrue_2 (rfl : _ = 5) (fun r2 M2 p2 => ?_)
  have q2 : M2 = wr_m M [1] := by rw [p2.1]; exact wr_one M 1
  rw [p2.2]
  refine xv_istore_n hX [1, 0] dc_BR_appendTrue_5 (by decide) (L' := [(0, .ref (Y.2.2.2 2)), (1, .int (nI (M 2 1 + 1)))]) rfl (rfl : _ = 6) ?_
  refine xv_aload_n hX 0 dc_BR_appendTrue_6 rfl (rfl : _ = 7) ?_
  refine xv_sipush hX (v := nI 255) dc_BR_appendTrue_7 (by decide) (rfl : _ = 10) ?_
  refine xv_calli hX (As := [.int (nI 255)]) (rest := []) (ct_BR_append _ Y M2 255 (by rw [q2, wr_21]; simp only [List.length_cons, List.length_nil]; omega)) ml_BR_20 li_BR_append rfl (by decide) rfl rfl rfl (by decide) ⟨by decide, by decide⟩ ⟨Nat.le_refl _, Nat.le_refl _⟩ (Nat.le_of_ble_eq_true rfl) dc_BR_appendTrue_10 (rfl : _ = 13) (fun r10 M10 p10 => ?_)
  have q10 : M10 = wr_m M ([1] ++ [255]) := by rw [p10.1, wr_one, q2, wr_app]
  rw [p10.2]
  refine xv_pop hX dc_BR_appendTrue_13 rfl (rfl : _ = 14) ?_
  refine xv_aload_n hX 0 dc_BR_appendTrue_14 rfl (rfl : _ = 15) ?_
  refine xv_iload_n hX 1 dc_BR_appendTrue_15 rfl (rfl : _ = 16) ?_
  refine xv_callv hX (As := [.int (nI (M 2 1 + 1))]) (rest := []) (ct_BR_insertLength _ Y M10 M [1] [255] q10 (by decide) (by simp only [List.length_cons, List.length_nil]; rw [if_pos (by decide)]; omega)) ml_BR_24 li_BR_insertLength rfl (by decide) rfl rfl rfl (by decide) ⟨by decide, by decide⟩ ⟨Nat.le_refl _, Nat.le_refl _⟩ (Nat.le_of_ble_eq_true rfl) dc_BR_appendTrue_16 (rfl : _ = 19) (fun M16 p16 => ?_)
  refine xv_retv hX hR dc_BR_appendTrue_19 ?_
  exact p16

set_option maxRecDepth 100000 in
set_option maxHeartbeats 4000000 in
theorem ct_NM_writeTo (l : Launch) (Y : xw_Y) (M : xm_M) (p : Nat) (x : ps_N) (hp : xk_nm p) (hx : nm_is M p x) (hv : nv_n x) (hfit : M 2 1 + (en_name x).length ≤ 160) : xc_v l qm_NM_writeTo 1 Y [.ref (Y.2.2.2 p), .ref (Y.2.2.2 2)] M (fun M1 => M1 = wr_m M (en_name x)) := by
  refine xc_v.mk rfl (by decide) (Nat.le_of_ble_eq_true rfl) ?_
  intro X hXl hX hR
  subst hXl
  have hX : xv_ok X Y prog_5_method_5_code "CertificatePath$Name" 7 (xc_rm 1) := hX
  show xv_V X Y 7 0 0 xw_lk xw_N M 0 [(0, .ref (Y.2.2.2 p)), (1, .ref (Y.2.2.2 2))] []
  have hp6 := hp.2.2.2.1
  have hx4 := hv.1
  have hfl : (en_name x).length = (en_ls x).length + 1 + (if (en_ls x).length ≤ 127 then 1 else 2) := en_el_len 48 (en_ls x)
  have hx1 := hx.1
  refine xv_aload_n hX 1 dc_NM_writeTo_0 rfl (rfl : _ = 1) ?_
  refine xv_bipush hX (v := nI 48) dc_NM_writeTo_1 (by decide) (rfl : _ = 3) ?_
  refine xv_calli hX (As := [.int (nI 48)]) (rest := []) (ct_BR_append _ Y M 48 (by omega)) ml_NM_42 li_BR_append rfl (by decide) rfl rfl rfl (by decide) ⟨by decide, by decide⟩ ⟨Nat.le_refl _, Nat.le_refl _⟩ (Nat.le_of_ble_eq_true rfl) dc_NM_writeTo_3 (rfl : _ = 6) (fun r3 M3 p3 => ?_)
  have q3 : M3 = wr_m M [48] := by rw [p3.1]; exact wr_one M 48
  rw [p3.2]
  refine xv_istore_n hX [1, 2, 0] dc_NM_writeTo_6 (by decide) (L' := [(0, .ref (Y.2.2.2 p)), (1, .ref (Y.2.2.2 2)), (2, .int (nI (M 2 1 + 1)))]) rfl (rfl : _ = 7) ?_
  refine xv_iconst hX (v := nI 0) dc_NM_writeTo_7 (by decide) (rfl : _ = 8) ?_
  refine xv_istore_n hX [1, 2, 3, 0] dc_NM_writeTo_8 (by decide) (L' := [(0, .ref (Y.2.2.2 p)), (1, .ref (Y.2.2.2 2)), (2, .int (nI (M 2 1 + 1))), (3, .int (nI 0))]) rfl (rfl : _ = 9) ?_
  have lp9 : ∀ (fu9 : Nat) (Mk : xm_M) (pre : ps_N) (post : ps_N) (k : Nat) (hM : Mk = wr_m M ([48] ++ en_ls pre)) (hpp : pre ++ post = x) (hkp : pre.length = k), post.length < fu9 → xv_V X Y 7 0 0 xw_lk xw_N Mk 9 [(0, .ref (Y.2.2.2 p)), (1, .ref (Y.2.2.2 2)), (2, .int (nI (M 2 1 + 1))), (3, .int (nI k))] [] := by
    intro n9
    induction n9 with
    | zero => intro Mk pre post k hM hpp hkp hm9; exact absurd hm9 (Nat.not_lt_zero _)
    | succ n9 ih9 =>
      intro Mk pre post k hM hpp hkp hm9
      refine xv_iload_n hX 3 dc_NM_writeTo_9 rfl (rfl : _ = 10) ?_
      have hkx : Mk p 1 = x.length := by rw [hM, wr_o (by omega) (by omega)]; exact hx1
      have hprl : pre.length ≤ x.length := by rw [← hpp]; simp
      refine xv_aload_n hX 0 dc_NM_writeTo_10 rfl (rfl : _ = 11) ?_
      refine xv_geti hX fl_NM_15 rfl hp.1 (xk_N (Nat.lt_of_succ_lt hp.2.2.2.2)) (v := Mk p 1) rfl dc_NM_writeTo_11 (rfl : _ = 14) ?_
      refine xv_icmp_ge hX (nI_toInt (by omega)) (nI_toInt (by omega)) (tgt := 80) (pq := 17) dc_NM_writeTo_14 (by decide) rfl (fun c14 => ?_) (fun c14 => ?_)
      · skip
        have hpre : pre = x := by
          have h : pre.length = x.length := by omega
          rw [← hpp] at h ⊢
          simp only [List.length_append] at h
          have : post = [] := List.eq_nil_of_length_eq_zero (by omega)
          rw [this, List.append_nil]
        refine xv_aload_n hX 1 dc_NM_writeTo_80 rfl (rfl : _ = 81) ?_
        refine xv_iload_n hX 2 dc_NM_writeTo_81 rfl (rfl : _ = 82) ?_
        refine xv_callv hX (As := [.int (nI (M 2 1 + 1))]) (rest := []) (ct_BR_insertLength _ Y Mk M [48] (en_ls x) (by rw [hM, hpre]) (by decide) (by simp only [List.length_cons, List.length_nil]; split at hfl <;> rename_i hc <;> simp only [hc, if_true, if_false] <;> omega)) ml_NM_48 li_BR_insertLength rfl (by decide) rfl rfl rfl (by decide) ⟨by decide, by decide⟩ ⟨Nat.le_refl _, Nat.le_refl _⟩ (Nat.le_of_ble_eq_true rfl) dc_NM_writeTo_82 (rfl : _ = 85) (fun M82 p82 => ?_)
        refine xv_retv hX hR dc_NM_writeTo_85 ?_
        exact p82
      · skip
        cases post with
        | nil => exact absurd c14 (by rw [hkx] ; simp only [List.append_nil] at hpp; rw [← hpp, ← hkp]; omega)
        | cons l post =>
          have hlx : l ∈ x := by rw [← hpp]; simp
          have hvl := hv.2 l hlx
          have hl64 := nv_64 hvl
          have hl8 := hvl.2.1
          have hlen : (en_ls x).length = (en_ls pre).length + (l.length + 2) + (en_ls post).length := by rw [← hpp, en_ls_app]; simp only [en_ls, List.length_append, en_el_len]; rw [if_pos (by omega)]; omega
          have hpl : pre.length < x.length := by rw [← hpp]; simp
          have hlb : M (p + 1) k = nm_pk l := by rw [← hkp, hx.2 _ hpl, ← hpp]; simp
          refine xv_aload_n hX 1 dc_NM_writeTo_17 rfl (rfl : _ = 18) ?_
          refine xv_bipush hX (v := nI 19) dc_NM_writeTo_18 (by decide) (rfl : _ = 20) ?_
          refine xv_calli hX (As := [.int (nI 19)]) (rest := []) (ct_BR_append _ Y Mk 19 (by rw [hM, wr_21]; simp only [List.length_append, List.length_cons, List.length_nil]; split at hfl <;> omega)) ml_NM_42 li_BR_append rfl (by decide) rfl rfl rfl (by decide) ⟨by decide, by decide⟩ ⟨Nat.le_refl _, Nat.le_refl _⟩ (Nat.le_of_ble_eq_true rfl) dc_NM_writeTo_20 (rfl : _ = 23) (fun r20 M20 p20 => ?_)
          have q20 : M20 = wr_m M ([48] ++ en_ls pre ++ [19]) := by rw [p20.1, wr_one, hM, wr_app]
          rw [p20.2]
          have zk : Mk 2 1 + 1 = M 2 1 + ([48] ++ en_ls pre ++ [19]).length := by rw [hM, wr_21]; simp only [List.length_append, List.length_cons, List.length_nil]; omega
          rw [zk]
          refine xv_istore hX [1, 2, 3, 4, 0] dc_NM_writeTo_23 (by decide) (L' := [(0, .ref (Y.2.2.2 p)), (1, .ref (Y.2.2.2 2)), (2, .int (nI (M 2 1 + 1))), (3, .int (nI k)), (4, .int (nI (M 2 1 + ([48] ++ en_ls pre ++ [19]).length)))]) rfl (rfl : _ = 25) ?_
          refine xv_bipush hX (v := nI 56) dc_NM_writeTo_25 (by decide) (rfl : _ = 27) ?_
          refine xv_istore hX [1, 2, 3, 4, 5, 0] dc_NM_writeTo_27 (by decide) (L' := [(0, .ref (Y.2.2.2 p)), (1, .ref (Y.2.2.2 2)), (2, .int (nI (M 2 1 + 1))), (3, .int (nI k)), (4, .int (nI (M 2 1 + ([48] ++ en_ls pre ++ [19]).length))), (5, .int (nI 56))]) rfl (rfl : _ = 29) ?_
          have lp29 : ∀ (fu29 : Nat) (Mt : xm_M) (t : Nat) (ht : t ≤ 8) (hMt : Mt = wr_m M (([48] ++ en_ls pre ++ [19]) ++ l.take (l.length - t))), t < fu29 → xv_V X Y 7 0 0 xw_lk xw_N Mt 29 [(0, .ref (Y.2.2.2 p)), (1, .ref (Y.2.2.2 2)), (2, .int (nI (M 2 1 + 1))), (3, .int (nI k)), (4, .int (nI (M 2 1 + ([48] ++ en_ls pre ++ [19]).length))), (5, .int (xi_sh t))] [] := by
            intro n29
            induction n29 with
            | zero => intro Mt t ht hMt hm29; exact absurd hm29 (Nat.not_lt_zero _)
            | succ n29 ih29 =>
              intro Mt t ht hMt hm29
              cases t with
              | zero =>
                show xv_V X Y 7 0 0 xw_lk xw_N Mt 29 [(0, .ref (Y.2.2.2 p)), (1, .ref (Y.2.2.2 2)), (2, .int (nI (M 2 1 + 1))), (3, .int (nI k)), (4, .int (nI (M 2 1 + ([48] ++ en_ls pre ++ [19]).length))), (5, .int (-8 : Int32))] []
                refine xv_iload hX 5 dc_NM_writeTo_29 rfl (rfl : _ = 31) ?_
                refine xv_if_lt hX (rfl : ((-8 : Int32)).toInt = _) (tgt := 68) (pq := 34) dc_NM_writeTo_31 (by decide) rfl (fun c31 => ?_) (fun c31 => ?_)
                · skip
                  have hMt : Mt = wr_m M (([48] ++ en_ls pre ++ [19]) ++ l) := by rw [hMt, show l.length - 0 = l.length from rfl, List.take_length]
                  refine xv_aload_n hX 1 dc_NM_writeTo_68 rfl (rfl : _ = 69) ?_
                  refine xv_iload hX 4 dc_NM_writeTo_69 rfl (rfl : _ = 71) ?_
                  refine xv_callv hX (As := [.int (nI (M 2 1 + ([48] ++ en_ls pre ++ [19]).length))]) (rest := []) (ct_BR_insertLength _ Y Mt M ([48] ++ en_ls pre ++ [19]) l hMt (by simp only [List.length_append, List.length_cons, List.length_nil]; omega) (by rw [if_pos (by omega)]; simp only [List.length_append, List.length_cons, List.length_nil]; split at hfl <;> omega)) ml_NM_48 li_BR_insertLength rfl (by decide) rfl rfl rfl (by decide) ⟨by decide, by decide⟩ ⟨Nat.le_refl _, Nat.le_refl _⟩ (Nat.le_of_ble_eq_true rfl) dc_NM_writeTo_71 (rfl : _ = 74) (fun M71 p71 => ?_)
                  refine xv_iinc hX 3 [1, 2, 3, 0, 4, 5] dc_NM_writeTo_74 rfl (xi_inc k 1) (by decide) (L' := [(0, .ref (Y.2.2.2 p)), (1, .ref (Y.2.2.2 2)), (2, .int (nI (M 2 1 + 1))), (3, .int (nI (k + 1))), (4, .int (nI (M 2 1 + ([48] ++ en_ls pre ++ [19]).length))), (5, .int (-8 : Int32))]) rfl (rfl : _ = 77) ?_
                  refine xv_goto hX (pq := 9) dc_NM_writeTo_77 (by decide) ?_
                  refine xv_sub (L' := [(0, .ref (Y.2.2.2 p)), (1, .ref (Y.2.2.2 2)), (2, .int (nI (M 2 1 + 1))), (3, .int (nI (k + 1)))]) [0, 1, 2, 3] rfl ?_
                  exact ih9 M71 (pre ++ [l]) post (k + 1) (by rw [p71, en_ls_app]; simp [en_ls, en_el]) (by rw [← hpp]; simp) (by simp [hkp]) (by simp only [List.length_cons] at *; omega)
                · skip
                  exact absurd c31 (by decide)
              | succ t =>
                show xv_V X Y 7 0 0 xw_lk xw_N Mt 29 [(0, .ref (Y.2.2.2 p)), (1, .ref (Y.2.2.2 2)), (2, .int (nI (M 2 1 + 1))), (3, .int (nI k)), (4, .int (nI (M 2 1 + ([48] ++ en_ls pre ++ [19]).length))), (5, .int (nI (8 * t)))] []
                refine xv_iload hX 5 dc_NM_writeTo_29 rfl (rfl : _ = 31) ?_
                refine xv_if_lt hX (nI_toInt (by omega)) (tgt := 68) (pq := 34) dc_NM_writeTo_31 (by decide) rfl (fun c31 => ?_) (fun c31 => ?_)
                · skip
                  exact absurd c31 (by omega)
                · skip
                  refine xv_aload_n hX 0 dc_NM_writeTo_34 rfl (rfl : _ = 35) ?_
                  refine xv_getr hX fl_NM_9 rfl hp.1 (xk_N (Nat.lt_of_succ_lt hp.2.2.2.2)) hp.2.2.1 dc_NM_writeTo_35 (rfl : _ = 38) ?_
                  refine xv_iload_n hX 3 dc_NM_writeTo_38 rfl (rfl : _ = 39) ?_
                  refine xv_lald hX hp.2.1 (xk_N hp.2.2.2.2) (by omega) (by decide) (v := Mt (p + 1) k) rfl dc_NM_writeTo_39 (rfl : _ = 40) ?_
                  rw [show Mt (p + 1) k = nm_pk l by rw [hMt, wr_o (by omega) (by omega)]; exact hlb]
                  refine xv_iload hX 5 dc_NM_writeTo_40 rfl (rfl : _ = 42) ?_
                  refine xv_lushr hX dc_NM_writeTo_42 (wb_shr hl64 (by omega)) (rfl : _ = 43) ?_
                  refine xv_l2i hX dc_NM_writeTo_43 (lN_i (nm_pk l / 2 ^ (8 * t))) (rfl : _ = 44) ?_
                  refine xv_sipush hX (v := nI 255) dc_NM_writeTo_44 (by decide) (rfl : _ = 47) ?_
                  refine xv_iand hX dc_NM_writeTo_47 (xi_andA _) (rfl : _ = 48) ?_
                  have hdg := nm_digit (nv_lt hvl) t
                  obtain ⟨w, hw⟩ : ∃ w, nm_pk l / 2 ^ (8 * t) % 256 = w := ⟨_, rfl⟩
                  rw [hw] at hdg ⊢
                  have hw2 : w < 256 := by rw [← hw]; exact Nat.mod_lt _ (by decide)
                  refine xv_istore hX [1, 2, 3, 4, 5, 6, 0] dc_NM_writeTo_48 (by decide) (L' := [(0, .ref (Y.2.2.2 p)), (1, .ref (Y.2.2.2 2)), (2, .int (nI (M 2 1 + 1))), (3, .int (nI k)), (4, .int (nI (M 2 1 + ([48] ++ en_ls pre ++ [19]).length))), (5, .int (nI (8 * t))), (6, .int (nI w))]) rfl (rfl : _ = 50) ?_
                  refine xv_iload hX 6 dc_NM_writeTo_50 rfl (rfl : _ = 52) ?_
                  refine xv_if_eq hX (nI_toInt (by omega)) (tgt := 62) (pq := 55) dc_NM_writeTo_52 (by decide) rfl (fun c52 => ?_) (fun c52 => ?_)
                  · skip
                    have htl : ¬ t < l.length := fun z => by
                      rw [if_pos z] at hdg
                      have hm : l.getD (l.length - 1 - t) 0 ∈ l := by rw [List.getD_eq_getElem?_getD, List.getElem?_eq_getElem (by omega)]; exact List.getElem_mem _
                      have := ps_abc_mem hvl.2.2 hm
                      omega
                    refine xv_iinc hX 5 [1, 2, 3, 4, 5, 0, 6] dc_NM_writeTo_62 rfl (xi_shd t) (by decide) (L' := [(0, .ref (Y.2.2.2 p)), (1, .ref (Y.2.2.2 2)), (2, .int (nI (M 2 1 + 1))), (3, .int (nI k)), (4, .int (nI (M 2 1 + ([48] ++ en_ls pre ++ [19]).length))), (5, .int (xi_sh t)), (6, .int (nI w))]) rfl (rfl : _ = 65) ?_
                    refine xv_goto hX (pq := 29) dc_NM_writeTo_65 (by decide) ?_
                    refine xv_sub (L' := [(0, .ref (Y.2.2.2 p)), (1, .ref (Y.2.2.2 2)), (2, .int (nI (M 2 1 + 1))), (3, .int (nI k)), (4, .int (nI (M 2 1 + ([48] ++ en_ls pre ++ [19]).length))), (5, .int (xi_sh t))]) [0, 1, 2, 3, 4, 5] rfl ?_
                    exact ih29 Mt t (by omega) (by rw [hMt, show l.length - (t + 1) = l.length - t by omega]) (by omega)
                  · skip
                    have htl : t < l.length := Classical.byContradiction (fun z => by rw [if_neg z] at hdg; omega)
                    refine xv_aload_n hX 1 dc_NM_writeTo_55 rfl (rfl : _ = 56) ?_
                    refine xv_iload hX 6 dc_NM_writeTo_56 rfl (rfl : _ = 58) ?_
                    refine xv_calli hX (As := [.int (nI w)]) (rest := []) (ct_BR_append _ Y Mt w (by rw [hMt, wr_21]; simp only [List.length_append, List.length_cons, List.length_nil, List.length_take]; split at hfl <;> omega)) ml_NM_42 li_BR_append rfl (by decide) rfl rfl rfl (by decide) ⟨by decide, by decide⟩ ⟨Nat.le_refl _, Nat.le_refl _⟩ (Nat.le_of_ble_eq_true rfl) dc_NM_writeTo_58 (rfl : _ = 61) (fun r58 M58 p58 => ?_)
                    have q58 : M58 = wr_m M (([48] ++ en_ls pre ++ [19]) ++ (l.take (l.length - (t + 1)) ++ [w])) := by rw [p58.1, wr_one, hMt, wr_app, List.append_assoc]
                    rw [p58.2]
                    refine xv_pop hX dc_NM_writeTo_61 rfl (rfl : _ = 62) ?_
                    refine xv_iinc hX 5 [1, 2, 3, 4, 5, 0, 6] dc_NM_writeTo_62 rfl (xi_shd t) (by decide) (L' := [(0, .ref (Y.2.2.2 p)), (1, .ref (Y.2.2.2 2)), (2, .int (nI (M 2 1 + 1))), (3, .int (nI k)), (4, .int (nI (M 2 1 + ([48] ++ en_ls pre ++ [19]).length))), (5, .int (xi_sh t)), (6, .int (nI w))]) rfl (rfl : _ = 65) ?_
                    refine xv_goto hX (pq := 29) dc_NM_writeTo_65 (by decide) ?_
                    refine xv_sub (L' := [(0, .ref (Y.2.2.2 p)), (1, .ref (Y.2.2.2 2)), (2, .int (nI (M 2 1 + 1))), (3, .int (nI k)), (4, .int (nI (M 2 1 + ([48] ++ en_ls pre ++ [19]).length))), (5, .int (xi_sh t))]) [0, 1, 2, 3, 4, 5] rfl ?_
                    exact ih29 M58 t (by omega) (by rw [q58, en_take htl, ← hdg.trans (if_pos htl)]) (by omega)
          refine xv_sub (L' := [(0, .ref (Y.2.2.2 p)), (1, .ref (Y.2.2.2 2)), (2, .int (nI (M 2 1 + 1))), (3, .int (nI k)), (4, .int (nI (M 2 1 + ([48] ++ en_ls pre ++ [19]).length))), (5, .int (nI 56))]) [0, 1, 2, 3, 4, 5] rfl ?_
          exact lp29 _ M20 8 (Nat.le_refl _) (by rw [q20, show l.length - 8 = 0 by omega, List.take_zero, List.append_nil]) (Nat.lt_succ_self _)
  refine xv_sub (L' := [(0, .ref (Y.2.2.2 p)), (1, .ref (Y.2.2.2 2)), (2, .int (nI (M 2 1 + 1))), (3, .int (nI 0))]) [0, 1, 2, 3] rfl ?_
  exact lp9 _ M3 [] x 0 (by rw [q3]; rfl) rfl rfl (Nat.lt_succ_self _)
