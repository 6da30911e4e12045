/-! CertificatePath: buffer, counts, path -/
set_option maxRecDepth 100000 in
set_option maxHeartbeats 4000000 in
theorem ct_CP_feed (l : Launch) (Y : xw_Y) (M : xm_M) (w n : Int32) (h1 : M 2 1 ≤ 160) : xc_i l qm_CP_feed 1 Y [.ref (Y.2.2.2 0), .int w, .int n] M (fun r M1 => (r = nI 0 ∧ M1 = M ∧ ¬ (1 ≤ n.toInt ∧ n.toInt ≤ 4 ∧ n.toInt + (M 2 1 : Nat) ≤ 160)) ∨ (r = nI 1 ∧ ∃ m, n = nI m ∧ 1 ≤ m ∧ m ≤ 4 ∧ M 2 1 + m ≤ 160 ∧ M1 2 1 = M 2 1 + m ∧ (∀ j, j < m → M1 3 (M 2 1 + j) = fd_b w (m - 1 - j)) ∧ (∀ j, (j < M 2 1 ∨ M 2 1 + m ≤ j) → M1 3 j = M 3 j) ∧ ∀ q, q ≠ 2 → q ≠ 3 → M1 q = M q)) := by
  refine xc_i.mk .boolean rfl (by decide) (Nat.le_of_ble_eq_true rfl) ?_
  intro X hXl hX hR
  subst hXl
  have hX : xv_ok X Y prog_1_method_2_code "CertificatePath" 4 (xc_rm 1) := hX
  show xv_V X Y 4 0 0 xw_lk xw_N M 0 [(0, .ref (Y.2.2.2 0)), (1, .int w), (2, .int n)] []
  refine xv_iload_n hX 2 dc_CP_feed_0 rfl (rfl : _ = 1) ?_
  refine xv_iconst hX (v := nI 1) dc_CP_feed_1 (by decide) (rfl : _ = 2) ?_
  refine xv_icmp_lt hX (rfl : (n).toInt = _) (show (nI 1).toInt = 1 by decide) (tgt := 25) (pq := 5) dc_CP_feed_2 (by decide) rfl (fun c2 => ?_) (fun c2 => ?_)
  · skip
    refine xv_iconst hX (v := nI 0) dc_CP_feed_25 (by decide) (rfl : _ = 26) ?_
    refine xv_reti hX hR (by decide) dc_CP_feed_26 ?_
    exact Or.inl ⟨rfl, rfl, by omega⟩
  · skip
    refine xv_iload_n hX 2 dc_CP_feed_5 rfl (rfl : _ = 6) ?_
    refine xv_iconst hX (v := nI 4) dc_CP_feed_6 (by decide) (rfl : _ = 7) ?_
    refine xv_icmp_gt hX (rfl : (n).toInt = _) (show (nI 4).toInt = 4 by decide) (tgt := 25) (pq := 10) dc_CP_feed_7 (by decide) rfl (fun c7 => ?_) (fun c7 => ?_)
    · skip
      refine xv_iconst hX (v := nI 0) dc_CP_feed_25 (by decide) (rfl : _ = 26) ?_
      refine xv_reti hX hR (by decide) dc_CP_feed_26 ?_
      exact Or.inl ⟨rfl, rfl, by omega⟩
    · skip
      refine xv_iload_n hX 2 dc_CP_feed_10 rfl (rfl : _ = 11) ?_
      refine xv_sipush hX (v := nI 160) dc_CP_feed_11 (by decide) (rfl : _ = 14) ?_
      refine xv_aload_n hX 0 dc_CP_feed_14 rfl (rfl : _ = 15) ?_
      refine xv_getr hX fl_CP_20 rfl rfl (by decide) rfl dc_CP_feed_15 (rfl : _ = 18) ?_
      refine xv_geti hX fl_CP_41 rfl rfl (by decide) (v := M 2 1) rfl dc_CP_feed_18 (rfl : _ = 21) ?_
      refine xv_isub hX dc_CP_feed_21 (pk_sub (by omega)) (rfl : _ = 22) ?_
      refine xv_icmp_le hX (rfl : (n).toInt = _) (nI_toInt (by omega)) (tgt := 27) (pq := 25) dc_CP_feed_22 (by decide) rfl (fun c22 => ?_) (fun c22 => ?_)
      · skip
        obtain ⟨m, hm, rfl⟩ := xi_of (x := n) (by omega)
        have tm : (nI m).toInt = (m : Int) := nI_toInt hm
        refine xv_iload_n hX 2 dc_CP_feed_27 rfl (rfl : _ = 28) ?_
        refine xv_iconst hX (v := nI 1) dc_CP_feed_28 (by decide) (rfl : _ = 29) ?_
        refine xv_isub hX dc_CP_feed_29 (xi_sub1 m) (rfl : _ = 30) ?_
        refine xv_istore_n hX [1, 2, 3, 0] dc_CP_feed_30 (by decide) (L' := [(0, .ref (Y.2.2.2 0)), (1, .int w), (2, .int (nI m)), (3, .int (xi_pred m))]) rfl (rfl : _ = 31) ?_
        have lp31 : ∀ (fu31 : Nat) (Mk : xm_M) (t : Nat) (ht : t ≤ m) (hz : Mk 2 1 = M 2 1 + (m - t)) (hb : ∀ j, j < m - t → Mk 3 (M 2 1 + j) = fd_b w (m - 1 - j)) (ho : ∀ j, (j < M 2 1 ∨ M 2 1 + m ≤ j) → Mk 3 j = M 3 j) (hF : ∀ q, q ≠ 2 → q ≠ 3 → Mk q = M q), t < fu31 → xv_V X Y 4 0 0 xw_lk xw_N Mk 31 [(0, .ref (Y.2.2.2 0)), (1, .int w), (2, .int (nI m)), (3, .int (xi_pred t))] [] := by
          intro n31
          induction n31 with
          | zero => intro Mk t ht hz hb ho hF hm31; exact absurd hm31 (Nat.not_lt_zero _)
          | succ n31 ih31 =>
            intro Mk t ht hz hb ho hF hm31
            cases t with
            | zero =>
              show xv_V X Y 4 0 0 xw_lk xw_N Mk 31 [(0, .ref (Y.2.2.2 0)), (1, .int w), (2, .int (nI m)), (3, .int (-1 : Int32))] []
              refine xv_iload_n hX 3 dc_CP_feed_31 rfl (rfl : _ = 32) ?_
              refine xv_if_lt hX (rfl : ((-1 : Int32)).toInt = _) (tgt := 59) (pq := 35) dc_CP_feed_32 (by decide) rfl (fun c32 => ?_) (fun c32 => ?_)
              · skip
                refine xv_iconst hX (v := nI 1) dc_CP_feed_59 (by decide) (rfl : _ = 60) ?_
                refine xv_reti hX hR (by decide) dc_CP_feed_60 ?_
                exact Or.inr ⟨rfl, m, rfl, by omega, by omega, by omega, by omega, fun j hj => hb j (by omega), ho, hF⟩
              · skip
                exact absurd c32 (by decide)
            | succ t =>
              show xv_V X Y 4 0 0 xw_lk xw_N Mk 31 [(0, .ref (Y.2.2.2 0)), (1, .int w), (2, .int (nI m)), (3, .int (nI t))] []
              refine xv_iload_n hX 3 dc_CP_feed_31 rfl (rfl : _ = 32) ?_
              refine xv_if_lt hX (nI_toInt (by omega)) (tgt := 59) (pq := 35) dc_CP_feed_32 (by decide) rfl (fun c32 => ?_) (fun c32 => ?_)
              · skip
                exact absurd c32 (by omega)
              · skip
                refine xv_aload_n hX 0 dc_CP_feed_35 rfl (rfl : _ = 36) ?_
                refine xv_getr hX fl_CP_20 rfl rfl (by decide) rfl dc_CP_feed_36 (rfl : _ = 39) ?_
                refine xv_iload_n hX 1 dc_CP_feed_39 rfl (rfl : _ = 40) ?_
                refine xv_bipush hX (v := nI 8) dc_CP_feed_40 (by decide) (rfl : _ = 42) ?_
                refine xv_iload_n hX 3 dc_CP_feed_42 rfl (rfl : _ = 43) ?_
                refine xv_imul hX dc_CP_feed_43 (pk_mul 8 t) (rfl : _ = 44) ?_
                refine xv_iushr hX dc_CP_feed_44 rfl (rfl : _ = 45) ?_
                refine xv_sipush hX (v := nI 255) dc_CP_feed_45 (by decide) (rfl : _ = 48) ?_
                refine xv_iand hX dc_CP_feed_48 (fd_u w (by omega)) (rfl : _ = 49) ?_
                refine xv_calli hX (As := [.int (nI (fd_b w t))]) (rest := []) (ct_BR_append _ Y Mk (fd_b w t) (by omega)) ml_CP_46 li_BR_append rfl (by decide) rfl rfl rfl (by decide) ⟨by decide, by decide⟩ ⟨Nat.le_refl _, Nat.le_refl _⟩ (Nat.le_of_ble_eq_true rfl) dc_CP_feed_49 (rfl : _ = 52) (fun r49 M49 p49 => ?_)
                rw [p49.1]
                refine xv_pop hX dc_CP_feed_52 rfl (rfl : _ = 53) ?_
                refine xv_iinc hX 3 [1, 2, 3, 0] dc_CP_feed_53 rfl (xi_dec t) (by decide) (L' := [(0, .ref (Y.2.2.2 0)), (1, .int w), (2, .int (nI m)), (3, .int (xi_pred t))]) rfl (rfl : _ = 56) ?_
                refine xv_goto hX (pq := 31) dc_CP_feed_56 (by decide) ?_
                refine xv_sub (L' := [(0, .ref (Y.2.2.2 0)), (1, .int w), (2, .int (nI m)), (3, .int (xi_pred t))]) [0, 1, 2, 3] rfl ?_
                exact ih31 (xm_set (xm_set Mk 3 (Mk 2 1) (fd_b w t)) 2 1 (Mk 2 1 + 1)) t (by omega) (by rw [xm_eq]; omega) (fun j hj => by rw [xm_np (by decide)]; by_cases hj2 : j = m - (t + 1); rw [show M 2 1 + j = Mk 2 1 by omega, xm_eq, show m - 1 - j = t by omega]; rw [xm_nk (by omega)]; exact hb j (by omega)) (fun j hj => by rw [xm_np (by decide), xm_nk (by omega)]; exact ho j hj) (fun q a1 a2 => by rw [xm_oth a1, xm_oth a2]; exact hF q a1 a2) (by omega)
        refine xv_sub (L' := [(0, .ref (Y.2.2.2 0)), (1, .int w), (2, .int (nI m)), (3, .int (xi_pred m))]) [0, 1, 2, 3] rfl ?_
        exact lp31 _ M m (Nat.le_refl _) (by omega) (fun j hj => absurd hj (by omega)) (fun j hj => rfl) (fun q _ _ => rfl) (Nat.lt_succ_self _)
      · skip
        refine xv_iconst hX (v := nI 0) dc_CP_feed_25 (by decide) (rfl : _ = 26) ?_
        refine xv_reti hX hR (by decide) dc_CP_feed_26 ?_
        exact Or.inl ⟨rfl, rfl, by omega⟩

set_option maxRecDepth 100000 in
set_option maxHeartbeats 4000000 in
theorem ct_CP_set (l : Launch) (Y : xw_Y) (M : xm_M) (k b : Int32) (h1 : M 2 1 ≤ 160) : xc_i l qm_CP_set 1 Y [.ref (Y.2.2.2 0), .int k, .int b] M (fun r M1 => (r = nI 0 ∧ M1 = M ∧ ¬ ((0 ≤ k.toInt ∧ k.toInt < (M 2 1 : Nat)) ∧ 0 ≤ b.toInt ∧ b.toInt ≤ 255)) ∨ (r = nI 1 ∧ ∃ j x, k = nI j ∧ b = nI x ∧ j < M 2 1 ∧ x < 256 ∧ M1 = xm_set M 3 j x)) := by
  refine xc_i.mk .boolean rfl (by decide) (Nat.le_of_ble_eq_true rfl) ?_
  intro X hXl hX hR
  subst hXl
  have hX : xv_ok X Y prog_1_method_3_code "CertificatePath" 3 (xc_rm 1) := hX
  show xv_V X Y 3 0 0 xw_lk xw_N M 0 [(0, .ref (Y.2.2.2 0)), (1, .int k), (2, .int b)] []
  refine xv_aload_n hX 0 dc_CP_set_0 rfl (rfl : _ = 1) ?_
  refine xv_getr hX fl_CP_20 rfl rfl (by decide) rfl dc_CP_set_1 (rfl : _ = 4) ?_
  refine xv_iload_n hX 1 dc_CP_set_4 rfl (rfl : _ = 5) ?_
  refine xv_calli hX (As := [.int k]) (rest := []) (ct_BR_has _ Y M k h1) ml_CP_50 li_BR_has rfl (by decide) rfl rfl rfl (by decide) ⟨by decide, by decide⟩ ⟨Nat.le_refl _, Nat.le_refl _⟩ (Nat.le_of_ble_eq_true rfl) dc_CP_set_5 (rfl : _ = 8) (fun r5 M5 p5 => ?_)
  rw [p5.1, p5.2]
  have hif : (if 0 ≤ k.toInt ∧ k.toInt < (M 2 1 : Nat) then 1 else 0) < 2 := by split <;> decide
  refine xv_if_eq hX (nI_toInt (by omega)) (tgt := 22) (pq := 11) dc_CP_set_8 (by decide) rfl (fun c8 => ?_) (fun c8 => ?_)
  · skip
    have hk : ¬ (0 ≤ k.toInt ∧ k.toInt < (M 2 1 : Nat)) := fun z => by rw [if_pos z] at c8; exact absurd c8 (by decide)
    refine xv_iconst hX (v := nI 0) dc_CP_set_22 (by decide) (rfl : _ = 23) ?_
    refine xv_reti hX hR (by decide) dc_CP_set_23 ?_
    exact Or.inl ⟨rfl, rfl, by omega⟩
  · skip
    have hk : 0 ≤ k.toInt ∧ k.toInt < (M 2 1 : Nat) := Classical.byContradiction (fun z => by rw [if_neg z] at c8; exact absurd rfl c8)
    refine xv_iload_n hX 2 dc_CP_set_11 rfl (rfl : _ = 12) ?_
    refine xv_if_lt hX (rfl : (b).toInt = _) (tgt := 22) (pq := 15) dc_CP_set_12 (by decide) rfl (fun c12 => ?_) (fun c12 => ?_)
    · skip
      refine xv_iconst hX (v := nI 0) dc_CP_set_22 (by decide) (rfl : _ = 23) ?_
      refine xv_reti hX hR (by decide) dc_CP_set_23 ?_
      exact Or.inl ⟨rfl, rfl, by omega⟩
    · skip
      refine xv_iload_n hX 2 dc_CP_set_15 rfl (rfl : _ = 16) ?_
      refine xv_sipush hX (v := nI 255) dc_CP_set_16 (by decide) (rfl : _ = 19) ?_
      refine xv_icmp_le hX (rfl : (b).toInt = _) (show (nI 255).toInt = 255 by decide) (tgt := 24) (pq := 22) dc_CP_set_19 (by decide) rfl (fun c19 => ?_) (fun c19 => ?_)
      · skip
        obtain ⟨j, hj, rfl⟩ := xi_of (x := k) (by omega)
        have tj : (nI j).toInt = (j : Int) := nI_toInt hj
        obtain ⟨x, hx, rfl⟩ := xi_of (x := b) (by omega)
        have tx : (nI x).toInt = (x : Int) := nI_toInt hx
        refine xv_aload_n hX 0 dc_CP_set_24 rfl (rfl : _ = 25) ?_
        refine xv_getr hX fl_CP_20 rfl rfl (by decide) rfl dc_CP_set_25 (rfl : _ = 28) ?_
        refine xv_getr hX fl_CP_54 rfl rfl (by decide) rfl dc_CP_set_28 (rfl : _ = 31) ?_
        refine xv_iload_n hX 1 dc_CP_set_31 rfl (rfl : _ = 32) ?_
        refine xv_iload_n hX 2 dc_CP_set_32 rfl (rfl : _ = 33) ?_
        refine xv_iast hX rfl (by decide) (by omega) (by decide) dc_CP_set_33 (rfl : _ = 34) ?_
        refine xv_iconst hX (v := nI 1) dc_CP_set_34 (by decide) (rfl : _ = 35) ?_
        refine xv_reti hX hR (by decide) dc_CP_set_35 ?_
        exact Or.inr ⟨rfl, j, x, rfl, rfl, by omega, by omega, rfl⟩
      · skip
        refine xv_iconst hX (v := nI 0) dc_CP_set_22 (by decide) (rfl : _ = 23) ?_
        refine xv_reti hX hR (by decide) dc_CP_set_23 ?_
        exact Or.inl ⟨rfl, rfl, by omega⟩

set_option maxRecDepth 100000 in
set_option maxHeartbeats 4000000 in
theorem ct_CP_trim (l : Launch) (Y : xw_Y) (M : xm_M) (n : Int32) (h1 : M 2 1 ≤ 160) : xc_i l qm_CP_trim 0 Y [.ref (Y.2.2.2 0), .int n] M (fun r M1 => (r = nI 0 ∧ M1 = M ∧ ¬ (0 ≤ n.toInt ∧ n.toInt ≤ (M 2 1 : Nat))) ∨ (r = nI 1 ∧ ∃ j, n = nI j ∧ j ≤ M 2 1 ∧ M1 = xm_set M 2 1 j)) := by
  refine xc_i.mk .boolean rfl (by decide) (Nat.le_of_ble_eq_true rfl) ?_
  intro X hXl hX hR
  subst hXl
  have hX : xv_ok X Y prog_1_method_4_code "CertificatePath" 2 (xc_rm 0) := hX
  show xv_V X Y 2 0 0 xw_lk xw_N M 0 [(0, .ref (Y.2.2.2 0)), (1, .int n)] []
  refine xv_iload_n hX 1 dc_CP_trim_0 rfl (rfl : _ = 1) ?_
  refine xv_if_lt hX (rfl : (n).toInt = _) (tgt := 15) (pq := 4) dc_CP_trim_1 (by decide) rfl (fun c1 => ?_) (fun c1 => ?_)
  · skip
    refine xv_iconst hX (v := nI 0) dc_CP_trim_15 (by decide) (rfl : _ = 16) ?_
    refine xv_reti hX hR (by decide) dc_CP_trim_16 ?_
    exact Or.inl ⟨rfl, rfl, by omega⟩
  · skip
    refine xv_iload_n hX 1 dc_CP_trim_4 rfl (rfl : _ = 5) ?_
    refine xv_aload_n hX 0 dc_CP_trim_5 rfl (rfl : _ = 6) ?_
    refine xv_getr hX fl_CP_20 rfl rfl (by decide) rfl dc_CP_trim_6 (rfl : _ = 9) ?_
    refine xv_geti hX fl_CP_41 rfl rfl (by decide) (v := M 2 1) rfl dc_CP_trim_9 (rfl : _ = 12) ?_
    refine xv_icmp_le hX (rfl : (n).toInt = _) (nI_toInt (by omega)) (tgt := 17) (pq := 15) dc_CP_trim_12 (by decide) rfl (fun c12 => ?_) (fun c12 => ?_)
    · skip
      obtain ⟨j, hj, rfl⟩ := xi_of (x := n) (by omega)
      have tj : (nI j).toInt = (j : Int) := nI_toInt hj
      refine xv_aload_n hX 0 dc_CP_trim_17 rfl (rfl : _ = 18) ?_
      refine xv_getr hX fl_CP_20 rfl rfl (by decide) rfl dc_CP_trim_18 (rfl : _ = 21) ?_
      refine xv_iload_n hX 1 dc_CP_trim_21 rfl (rfl : _ = 22) ?_
      refine xv_puti hX fl_CP_41 rfl rfl (by decide) dc_CP_trim_22 (rfl : _ = 25) ?_
      refine xv_iconst hX (v := nI 1) dc_CP_trim_25 (by decide) (rfl : _ = 26) ?_
      refine xv_reti hX hR (by decide) dc_CP_trim_26 ?_
      exact Or.inr ⟨rfl, j, rfl, by omega, rfl⟩
    · skip
      refine xv_iconst hX (v := nI 0) dc_CP_trim_15 (by decide) (rfl : _ = 16) ?_
      refine xv_reti hX hR (by decide) dc_CP_trim_16 ?_
      exact Or.inl ⟨rfl, rfl, by omega⟩

set_option maxRecDepth 100000 in
set_option maxHeartbeats 4000000 in
theorem ct_CP_length (l : Launch) (Y : xw_Y) (M : xm_M)  : xc_i l qm_CP_length 0 Y [.ref (Y.2.2.2 0)] M (fun r M1 => M1 = M ∧ r = nI (M 2 1)) := by
  refine xc_i.mk .int rfl (by decide) (Nat.le_of_ble_eq_true rfl) ?_
  intro X hXl hX hR
  subst hXl
  have hX : xv_ok X Y prog_1_method_5_code "CertificatePath" 1 (xc_rm 0) := hX
  show xv_V X Y 1 0 0 xw_lk xw_N M 0 [(0, .ref (Y.2.2.2 0))] []
  refine xv_aload_n hX 0 dc_CP_length_0 rfl (rfl : _ = 1) ?_
  refine xv_getr hX fl_CP_20 rfl rfl (by decide) rfl dc_CP_length_1 (rfl : _ = 4) ?_
  refine xv_geti hX fl_CP_41 rfl rfl (by decide) (v := M 2 1) rfl dc_CP_length_4 (rfl : _ = 7) ?_
  refine xv_reti hX hR rfl dc_CP_length_7 ?_
  exact ⟨rfl, rfl⟩

set_option maxRecDepth 100000 in
set_option maxHeartbeats 4000000 in
theorem ct_CP_byteAt (l : Launch) (Y : xw_Y) (M : xm_M) (k : Int32) (h1 : M 2 1 ≤ 160) : xc_i l qm_CP_byteAt 1 Y [.ref (Y.2.2.2 0), .int k] M (fun r M1 => M1 = M ∧ ((¬ (0 ≤ k.toInt ∧ k.toInt < (M 2 1 : Nat)) ∧ r = nI 4294967295) ∨ ∃ j, k = nI j ∧ j < M 2 1 ∧ r = nI (M 3 j))) := by
  refine xc_i.mk .int rfl (by decide) (Nat.le_of_ble_eq_true rfl) ?_
  intro X hXl hX hR
  subst hXl
  have hX : xv_ok X Y prog_1_method_6_code "CertificatePath" 2 (xc_rm 1) := hX
  show xv_V X Y 2 0 0 xw_lk xw_N M 0 [(0, .ref (Y.2.2.2 0)), (1, .int k)] []
  refine xv_aload_n hX 0 dc_CP_byteAt_0 rfl (rfl : _ = 1) ?_
  refine xv_getr hX fl_CP_20 rfl rfl (by decide) rfl dc_CP_byteAt_1 (rfl : _ = 4) ?_
  refine xv_iload_n hX 1 dc_CP_byteAt_4 rfl (rfl : _ = 5) ?_
  refine xv_calli hX (As := [.int k]) (rest := []) (ct_BR_has _ Y M k h1) ml_CP_50 li_BR_has rfl (by decide) rfl rfl rfl (by decide) ⟨by decide, by decide⟩ ⟨Nat.le_refl _, Nat.le_refl _⟩ (Nat.le_of_ble_eq_true rfl) dc_CP_byteAt_5 (rfl : _ = 8) (fun r5 M5 p5 => ?_)
  rw [p5.1, p5.2]
  have hif : (if 0 ≤ k.toInt ∧ k.toInt < (M 2 1 : Nat) then 1 else 0) < 2 := by split <;> decide
  refine xv_if_eq hX (nI_toInt (by omega)) (tgt := 23) (pq := 11) dc_CP_byteAt_8 (by decide) rfl (fun c8 => ?_) (fun c8 => ?_)
  · skip
    have hk : ¬ (0 ≤ k.toInt ∧ k.toInt < (M 2 1 : Nat)) := fun z => by rw [if_pos z] at c8; exact absurd c8 (by decide)
    refine xv_iconst hX (v := nI 4294967295) dc_CP_byteAt_23 (by decide) (rfl : _ = 24) ?_
    refine xv_reti hX hR rfl dc_CP_byteAt_24 ?_
    exact ⟨rfl, Or.inl ⟨hk, rfl⟩⟩
  · skip
    have hk : 0 ≤ k.toInt ∧ k.toInt < (M 2 1 : Nat) := Classical.byContradiction (fun z => by rw [if_neg z] at c8; exact absurd rfl c8)
    obtain ⟨j, hj, rfl⟩ := xi_of (x := k) (by omega)
    have tj : (nI j).toInt = (j : Int) := nI_toInt hj
    refine xv_aload_n hX 0 dc_CP_byteAt_11 rfl (rfl : _ = 12) ?_
    refine xv_getr hX fl_CP_20 rfl rfl (by decide) rfl dc_CP_byteAt_12 (rfl : _ = 15) ?_
    refine xv_getr hX fl_CP_54 rfl rfl (by decide) rfl dc_CP_byteAt_15 (rfl : _ = 18) ?_
    refine xv_iload_n hX 1 dc_CP_byteAt_18 rfl (rfl : _ = 19) ?_
    refine xv_iald hX rfl (by decide) (by omega) (by decide) (v := M 3 j) rfl dc_CP_byteAt_19 (rfl : _ = 20) ?_
    refine xv_goto hX (pq := 24) dc_CP_byteAt_20 (by decide) ?_
    refine xv_reti hX hR rfl dc_CP_byteAt_24 ?_
    exact ⟨rfl, Or.inr ⟨j, rfl, by omega, rfl⟩⟩

set_option maxRecDepth 100000 in
set_option maxHeartbeats 4000000 in
theorem ct_CP_hash (l : Launch) (Y : xw_Y) (M : xm_M) (f t : Int32) (h1 : M 2 1 ≤ 160) (h2 : ∀ j, j < 160 → M 3 j < 256) : xc_i l qm_CP_hash 1 Y [.ref (Y.2.2.2 0), .int f, .int t] M (fun r M1 => M1 = M ∧ ((¬ (0 ≤ f.toInt ∧ f.toInt ≤ t.toInt ∧ t.toInt ≤ (M 2 1 : Nat)) ∧ r = nI 4294967295) ∨ ∃ i j, f = nI i ∧ t = nI j ∧ i ≤ j ∧ j ≤ M 2 1 ∧ r = nI (ps_hash (M 3) i (j - i)))) := by
  refine xc_i.mk .int rfl (by decide) (Nat.le_of_ble_eq_true rfl) ?_
  intro X hXl hX hR
  subst hXl
  have hX : xv_ok X Y prog_1_method_7_code "CertificatePath" 3 (xc_rm 1) := hX
  show xv_V X Y 3 0 0 xw_lk xw_N M 0 [(0, .ref (Y.2.2.2 0)), (1, .int f), (2, .int t)] []
  refine xv_iload_n hX 1 dc_CP_hash_0 rfl (rfl : _ = 1) ?_
  refine xv_if_lt hX (rfl : (f).toInt = _) (tgt := 20) (pq := 4) dc_CP_hash_1 (by decide) rfl (fun c1 => ?_) (fun c1 => ?_)
  · skip
    refine xv_iconst hX (v := nI 4294967295) dc_CP_hash_20 (by decide) (rfl : _ = 21) ?_
    refine xv_reti hX hR rfl dc_CP_hash_21 ?_
    exact ⟨rfl, Or.inl ⟨by omega, rfl⟩⟩
  · skip
    refine xv_iload_n hX 1 dc_CP_hash_4 rfl (rfl : _ = 5) ?_
    refine xv_iload_n hX 2 dc_CP_hash_5 rfl (rfl : _ = 6) ?_
    refine xv_icmp_gt hX (rfl : (f).toInt = _) (rfl : (t).toInt = _) (tgt := 20) (pq := 9) dc_CP_hash_6 (by decide) rfl (fun c6 => ?_) (fun c6 => ?_)
    · skip
      refine xv_iconst hX (v := nI 4294967295) dc_CP_hash_20 (by decide) (rfl : _ = 21) ?_
      refine xv_reti hX hR rfl dc_CP_hash_21 ?_
      exact ⟨rfl, Or.inl ⟨by omega, rfl⟩⟩
    · skip
      refine xv_iload_n hX 2 dc_CP_hash_9 rfl (rfl : _ = 10) ?_
      refine xv_aload_n hX 0 dc_CP_hash_10 rfl (rfl : _ = 11) ?_
      refine xv_getr hX fl_CP_20 rfl rfl (by decide) rfl dc_CP_hash_11 (rfl : _ = 14) ?_
      refine xv_geti hX fl_CP_41 rfl rfl (by decide) (v := M 2 1) rfl dc_CP_hash_14 (rfl : _ = 17) ?_
      refine xv_icmp_le hX (rfl : (t).toInt = _) (nI_toInt (by omega)) (tgt := 22) (pq := 20) dc_CP_hash_17 (by decide) rfl (fun c17 => ?_) (fun c17 => ?_)
      · skip
        obtain ⟨i, hi, rfl⟩ := xi_of (x := f) (by omega)
        have ti : (nI i).toInt = (i : Int) := nI_toInt hi
        obtain ⟨j, hj, rfl⟩ := xi_of (x := t) (by omega)
        have tj : (nI j).toInt = (j : Int) := nI_toInt hj
        refine xv_aload_n hX 0 dc_CP_hash_22 rfl (rfl : _ = 23) ?_
        refine xv_getr hX fl_CP_20 rfl rfl (by decide) rfl dc_CP_hash_23 (rfl : _ = 26) ?_
        refine xv_iload_n hX 1 dc_CP_hash_26 rfl (rfl : _ = 27) ?_
        refine xv_iload_n hX 2 dc_CP_hash_27 rfl (rfl : _ = 28) ?_
        refine xv_calli hX (As := [.int (nI i), .int (nI j)]) (rest := []) (ct_BR_hashBetween _ Y M i j (by omega) (by omega) h2) ml_CP_57 li_BR_hashBetween rfl (by decide) rfl rfl rfl (by decide) ⟨by decide, by decide⟩ ⟨Nat.le_refl _, Nat.le_refl _⟩ (Nat.le_of_ble_eq_true rfl) dc_CP_hash_28 (rfl : _ = 31) (fun r28 M28 p28 => ?_)
        rw [p28.1, p28.2]
        refine xv_reti hX hR rfl dc_CP_hash_31 ?_
        exact ⟨rfl, Or.inr ⟨i, j, rfl, rfl, by omega, by omega, rfl⟩⟩
      · skip
        refine xv_iconst hX (v := nI 4294967295) dc_CP_hash_20 (by decide) (rfl : _ = 21) ?_
        refine xv_reti hX hR rfl dc_CP_hash_21 ?_
        exact ⟨rfl, Or.inl ⟨by omega, rfl⟩⟩

set_option maxRecDepth 100000 in
set_option maxHeartbeats 4000000 in
theorem ct_CP_count (l : Launch) (Y : xw_Y) (M : xm_M)  : xc_i l qm_CP_count 0 Y [.ref (Y.2.2.2 0)] M (fun r M1 => M1 = M ∧ r = nI (M 0 3)) := by
  refine xc_i.mk .int rfl (by decide) (Nat.le_of_ble_eq_true rfl) ?_
  intro X hXl hX hR
  subst hXl
  have hX : xv_ok X Y prog_1_method_9_code "CertificatePath" 1 (xc_rm 0) := hX
  show xv_V X Y 1 0 0 xw_lk xw_N M 0 [(0, .ref (Y.2.2.2 0))] []
  refine xv_aload_n hX 0 dc_CP_count_0 rfl (rfl : _ = 1) ?_
  refine xv_geti hX fl_CP_30 rfl rfl (by decide) (v := M 0 3) rfl dc_CP_count_1 (rfl : _ = 4) ?_
  refine xv_reti hX hR rfl dc_CP_count_4 ?_
  exact ⟨rfl, rfl⟩

set_option maxRecDepth 100000 in
set_option maxHeartbeats 4000000 in
theorem ct_CP_links (l : Launch) (Y : xw_Y) (M : xm_M)  : xc_i l qm_CP_links 0 Y [.ref (Y.2.2.2 0)] M (fun r M1 => M1 = M ∧ r = nI (M 0 5)) := by
  refine xc_i.mk .int rfl (by decide) (Nat.le_of_ble_eq_true rfl) ?_
  intro X hXl hX hR
  subst hXl
  have hX : xv_ok X Y prog_1_method_15_code "CertificatePath" 1 (xc_rm 0) := hX
  show xv_V X Y 1 0 0 xw_lk xw_N M 0 [(0, .ref (Y.2.2.2 0))] []
  refine xv_aload_n hX 0 dc_CP_links_0 rfl (rfl : _ = 1) ?_
  refine xv_geti hX fl_CP_38 rfl rfl (by decide) (v := M 0 5) rfl dc_CP_links_1 (rfl : _ = 4) ?_
  refine xv_reti hX hR rfl dc_CP_links_4 ?_
  exact ⟨rfl, rfl⟩

set_option maxRecDepth 100000 in
set_option maxHeartbeats 4000000 in
theorem ct_CP_reset (l : Launch) (Y : xw_Y) (M : xm_M)  : xc_v l qm_CP_reset 0 Y [.ref (Y.2.2.2 0)] M (fun M1 => M1 = xm_set (xm_set M 0 3 0) 0 5 0) := by
  refine xc_v.mk rfl (by decide) (Nat.le_of_ble_eq_true rfl) ?_
  intro X hXl hX hR
  subst hXl
  have hX : xv_ok X Y prog_1_method_17_code "CertificatePath" 1 (xc_rm 0) := hX
  show xv_V X Y 1 0 0 xw_lk xw_N M 0 [(0, .ref (Y.2.2.2 0))] []
  refine xv_aload_n hX 0 dc_CP_reset_0 rfl (rfl : _ = 1) ?_
  refine xv_iconst hX (v := nI 0) dc_CP_reset_1 (by decide) (rfl : _ = 2) ?_
  refine xv_puti hX fl_CP_30 rfl rfl (by decide) dc_CP_reset_2 (rfl : _ = 5) ?_
  refine xv_aload_n hX 0 dc_CP_reset_5 rfl (rfl : _ = 6) ?_
  refine xv_iconst hX (v := nI 0) dc_CP_reset_6 (by decide) (rfl : _ = 7) ?_
  refine xv_puti hX fl_CP_38 rfl rfl (by decide) dc_CP_reset_7 (rfl : _ = 10) ?_
  refine xv_retv hX hR dc_CP_reset_10 ?_
  exact rfl

set_option maxRecDepth 100000 in
set_option maxHeartbeats 4000000 in
theorem ct_CP_unlink (l : Launch) (Y : xw_Y) (M : xm_M) (hl : M 0 5 ≤ 6) : xc_i l qm_CP_unlink 0 Y [.ref (Y.2.2.2 0)] M (fun r M1 => (r = nI 0 ∧ M1 = M ∧ M 0 5 = 0) ∨ (r = nI 1 ∧ M 0 5 ≠ 0 ∧ M1 = xm_set M 0 5 (M 0 5 - 1))) := by
  refine xc_i.mk .boolean rfl (by decide) (Nat.le_of_ble_eq_true rfl) ?_
  intro X hXl hX hR
  subst hXl
  have hX : xv_ok X Y prog_1_method_14_code "CertificatePath" 1 (xc_rm 0) := hX
  show xv_V X Y 1 0 0 xw_lk xw_N M 0 [(0, .ref (Y.2.2.2 0))] []
  refine xv_aload_n hX 0 dc_CP_unlink_0 rfl (rfl : _ = 1) ?_
  refine xv_geti hX fl_CP_38 rfl rfl (by decide) (v := M 0 5) rfl dc_CP_unlink_1 (rfl : _ = 4) ?_
  refine xv_if_ne hX (nI_toInt (by omega)) (tgt := 9) (pq := 7) dc_CP_unlink_4 (by decide) rfl (fun c4 => ?_) (fun c4 => ?_)
  · skip
    refine xv_aload_n hX 0 dc_CP_unlink_9 rfl (rfl : _ = 10) ?_
    refine xv_dup hX dc_CP_unlink_10 rfl (rfl : _ = 11) ?_
    refine xv_geti hX fl_CP_38 rfl rfl (by decide) (v := M 0 5) rfl dc_CP_unlink_11 (rfl : _ = 14) ?_
    refine xv_iconst hX (v := nI 1) dc_CP_unlink_14 (by decide) (rfl : _ = 15) ?_
    refine xv_isub hX dc_CP_unlink_15 (pk_sub (by omega)) (rfl : _ = 16) ?_
    refine xv_puti hX fl_CP_38 rfl rfl (by decide) dc_CP_unlink_16 (rfl : _ = 19) ?_
    refine xv_iconst hX (v := nI 1) dc_CP_unlink_19 (by decide) (rfl : _ = 20) ?_
    refine xv_reti hX hR (by decide) dc_CP_unlink_20 ?_
    exact Or.inr ⟨rfl, by omega, rfl⟩
  · skip
    refine xv_iconst hX (v := nI 0) dc_CP_unlink_7 (by decide) (rfl : _ = 8) ?_
    refine xv_reti hX hR (by decide) dc_CP_unlink_8 ?_
    exact Or.inl ⟨rfl, rfl, by omega⟩

set_option maxRecDepth 100000 in
set_option maxHeartbeats 4000000 in
theorem ct_CP_isKept (l : Launch) (Y : xw_Y) (M : xm_M) (i : Int32) (hk8 : M 0 3 ≤ 8) : xc_i l qm_CP_isKept 0 Y [.ref (Y.2.2.2 0), .int i] M (fun r M1 => M1 = M ∧ ∃ t : Nat, r = nI t ∧ t < 2 ∧ (t = 1 ↔ 0 ≤ i.toInt ∧ i.toInt < (M 0 3 : Nat))) := by
  refine xc_i.mk .boolean rfl (by decide) (Nat.le_of_ble_eq_true rfl) ?_
  intro X hXl hX hR
  subst hXl
  have hX : xv_ok X Y prog_1_method_18_code "CertificatePath" 2 (xc_rm 0) := hX
  show xv_V X Y 2 0 0 xw_lk xw_N M 0 [(0, .ref (Y.2.2.2 0)), (1, .int i)] []
  refine xv_iload_n hX 1 dc_CP_isKept_0 rfl (rfl : _ = 1) ?_
  refine xv_if_lt hX (rfl : (i).toInt = _) (tgt := 16) (pq := 4) dc_CP_isKept_1 (by decide) rfl (fun c1 => ?_) (fun c1 => ?_)
  · skip
    refine xv_iconst hX (v := nI 0) dc_CP_isKept_16 (by decide) (rfl : _ = 17) ?_
    refine xv_reti hX hR (by decide) dc_CP_isKept_17 ?_
    exact ⟨rfl, 0, rfl, by decide, by omega⟩
  · skip
    refine xv_iload_n hX 1 dc_CP_isKept_4 rfl (rfl : _ = 5) ?_
    refine xv_aload_n hX 0 dc_CP_isKept_5 rfl (rfl : _ = 6) ?_
    refine xv_geti hX fl_CP_30 rfl rfl (by decide) (v := M 0 3) rfl dc_CP_isKept_6 (rfl : _ = 9) ?_
    refine xv_icmp_ge hX (rfl : (i).toInt = _) (nI_toInt (by omega)) (tgt := 16) (pq := 12) dc_CP_isKept_9 (by decide) rfl (fun c9 => ?_) (fun c9 => ?_)
    · skip
      refine xv_iconst hX (v := nI 0) dc_CP_isKept_16 (by decide) (rfl : _ = 17) ?_
      refine xv_reti hX hR (by decide) dc_CP_isKept_17 ?_
      exact ⟨rfl, 0, rfl, by decide, by omega⟩
    · skip
      refine xv_iconst hX (v := nI 1) dc_CP_isKept_12 (by decide) (rfl : _ = 13) ?_
      refine xv_goto hX (pq := 17) dc_CP_isKept_13 (by decide) ?_
      refine xv_reti hX hR (by decide) dc_CP_isKept_17 ?_
      exact ⟨rfl, 1, rfl, by decide, by omega⟩

set_option maxRecDepth 100000 in
set_option maxHeartbeats 4000000 in
theorem ct_CP_link (l : Launch) (Y : xw_Y) (M : xm_M) (i : Int32) (hk8 : M 0 3 ≤ 8) (hl : M 0 5 ≤ 6) : xc_i l qm_CP_link 1 Y [.ref (Y.2.2.2 0), .int i] M (fun r M1 => (r = nI 0 ∧ M1 = M ∧ ¬ ((0 ≤ i.toInt ∧ i.toInt < (M 0 3 : Nat)) ∧ M 0 5 ≠ 6)) ∨ (r = nI 1 ∧ ∃ j, i = nI j ∧ j < M 0 3 ∧ M 0 5 < 6 ∧ M1 = xm_set (xm_set M 276 (M 0 5) j) 0 5 (M 0 5 + 1))) := by
  refine xc_i.mk .boolean rfl (by decide) (Nat.le_of_ble_eq_true rfl) ?_
  intro X hXl hX hR
  subst hXl
  have hX : xv_ok X Y prog_1_method_13_code "CertificatePath" 2 (xc_rm 1) := hX
  show xv_V X Y 2 0 0 xw_lk xw_N M 0 [(0, .ref (Y.2.2.2 0)), (1, .int i)] []
  refine xv_aload_n hX 0 dc_CP_link_0 rfl (rfl : _ = 1) ?_
  refine xv_iload_n hX 1 dc_CP_link_1 rfl (rfl : _ = 2) ?_
  refine xv_calli hX (As := [.int i]) (rest := []) (ct_CP_isKept _ Y M i hk8) ml_CP_65 li_CP_isKept rfl (by decide) rfl rfl rfl (by decide) ⟨by decide, by decide⟩ ⟨Nat.le_refl _, Nat.le_refl _⟩ (Nat.le_of_ble_eq_true rfl) dc_CP_link_2 (rfl : _ = 5) (fun r2 M2 p2 => ?_)
  obtain ⟨pMa, ta, pra, pta, pia⟩ := p2
  rw [pMa, pra]
  refine xv_if_eq hX (nI_toInt (by omega)) (tgt := 17) (pq := 8) dc_CP_link_5 (by decide) rfl (fun c5 => ?_) (fun c5 => ?_)
  · skip
    refine xv_iconst hX (v := nI 0) dc_CP_link_17 (by decide) (rfl : _ = 18) ?_
    refine xv_reti hX hR (by decide) dc_CP_link_18 ?_
    exact Or.inl ⟨rfl, rfl, fun z => by have := pia.mpr z.1; omega⟩
  · skip
    refine xv_aload_n hX 0 dc_CP_link_8 rfl (rfl : _ = 9) ?_
    refine xv_geti hX fl_CP_38 rfl rfl (by decide) (v := M 0 5) rfl dc_CP_link_9 (rfl : _ = 12) ?_
    refine xv_bipush hX (v := nI 6) dc_CP_link_12 (by decide) (rfl : _ = 14) ?_
    refine xv_icmp_ne hX (nI_toInt (by omega)) (show (nI 6).toInt = 6 by decide) (tgt := 19) (pq := 17) dc_CP_link_14 (by decide) rfl (fun c14 => ?_) (fun c14 => ?_)
    · skip
      have hka := pia.mp (by omega)
      obtain ⟨j, hj, rfl⟩ := xi_of (x := i) (by omega)
      have tj : (nI j).toInt = (j : Int) := nI_toInt hj
      refine xv_aload_n hX 0 dc_CP_link_19 rfl (rfl : _ = 20) ?_
      refine xv_getr hX fl_CP_34 rfl rfl (by decide) rfl dc_CP_link_20 (rfl : _ = 23) ?_
      refine xv_aload_n hX 0 dc_CP_link_23 rfl (rfl : _ = 24) ?_
      refine xv_geti hX fl_CP_38 rfl rfl (by decide) (v := M 0 5) rfl dc_CP_link_24 (rfl : _ = 27) ?_
      refine xv_iload_n hX 1 dc_CP_link_27 rfl (rfl : _ = 28) ?_
      refine xv_iast hX rfl (by decide) (by omega) (by decide) dc_CP_link_28 (rfl : _ = 29) ?_
      refine xv_aload_n hX 0 dc_CP_link_29 rfl (rfl : _ = 30) ?_
      refine xv_dup hX dc_CP_link_30 rfl (rfl : _ = 31) ?_
      refine xv_geti hX fl_CP_38 rfl rfl (by decide) (v := M 0 5) (xm_np (by decide)) dc_CP_link_31 (rfl : _ = 34) ?_
      refine xv_iconst hX (v := nI 1) dc_CP_link_34 (by decide) (rfl : _ = 35) ?_
      refine xv_iadd hX dc_CP_link_35 (nI_add (M 0 5) 1) (rfl : _ = 36) ?_
      refine xv_puti hX fl_CP_38 rfl rfl (by decide) dc_CP_link_36 (rfl : _ = 39) ?_
      refine xv_iconst hX (v := nI 1) dc_CP_link_39 (by decide) (rfl : _ = 40) ?_
      refine xv_reti hX hR (by decide) dc_CP_link_40 ?_
      exact Or.inr ⟨rfl, j, rfl, by omega, by omega, rfl⟩
    · skip
      refine xv_iconst hX (v := nI 0) dc_CP_link_17 (by decide) (rfl : _ = 18) ?_
      refine xv_reti hX hR (by decide) dc_CP_link_18 ?_
      exact Or.inl ⟨rfl, rfl, fun z => by have := pia.mpr z.1; omega⟩
