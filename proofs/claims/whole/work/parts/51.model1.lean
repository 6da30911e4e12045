/-! the reference: buffer, counts, path -/
set_option maxRecDepth 100000 in
set_option maxHeartbeats 4000000 in
theorem ct_MD_feed (l : Launch) (Y : xw_Y) (M : xm_M) (w n : Int32) (h1 : M 277 1 ≤ 160) : xc_i l qm_MD_feed 0 Y [.ref (Y.2.2.2 277), .int w, .int n] M (fun r M1 => (r = nI 0 ∧ M1 = M ∧ ¬ (1 ≤ n.toInt ∧ n.toInt ≤ 4 ∧ n.toInt + (M 277 1 : Nat) ≤ 160)) ∨ (r = nI 1 ∧ ∃ m, n = nI m ∧ 1 ≤ m ∧ m ≤ 4 ∧ M 277 1 + m ≤ 160 ∧ M1 277 1 = M 277 1 + m ∧ (∀ j, j < m → M1 278 (1280 + M 277 1 + j) = fd_b w (m - 1 - j)) ∧ (∀ j, (j < 1280 + M 277 1 ∨ 1280 + M 277 1 + m ≤ j) → M1 278 j = M 278 j) ∧ (∀ j, j ≠ 1 → M1 277 j = M 277 j) ∧ ∀ q, q ≠ 277 → q ≠ 278 → M1 q = M q)) := by
  refine xc_i.mk .boolean rfl (by decide) (Nat.le_of_ble_eq_true rfl) ?_
  intro X hXl hX hR
  subst hXl
  have hX : xv_ok X Y prog_9_method_2_code "CertificatePathModel" 4 (xc_rm 0) := hX
  show xv_V X Y 4 0 0 xw_lk xw_N M 0 [(0, .ref (Y.2.2.2 277)), (1, .int w), (2, .int n)] []
  refine xv_iload_n hX 2 dc_MD_feed_0 rfl (rfl : _ = 1) ?_
  refine xv_iconst hX (v := nI 1) dc_MD_feed_1 (by decide) (rfl : _ = 2) ?_
  refine xv_icmp_lt hX (rfl : (n).toInt = _) (show (nI 1).toInt = 1 by decide) (tgt := 22) (pq := 5) dc_MD_feed_2 (by decide) rfl (fun c2 => ?_) (fun c2 => ?_)
  · skip
    refine xv_iconst hX (v := nI 0) dc_MD_feed_22 (by decide) (rfl : _ = 23) ?_
    refine xv_reti hX hR (by decide) dc_MD_feed_23 ?_
    exact Or.inl ⟨rfl, rfl, by omega⟩
  · skip
    refine xv_iload_n hX 2 dc_MD_feed_5 rfl (rfl : _ = 6) ?_
    refine xv_iconst hX (v := nI 4) dc_MD_feed_6 (by decide) (rfl : _ = 7) ?_
    refine xv_icmp_gt hX (rfl : (n).toInt = _) (show (nI 4).toInt = 4 by decide) (tgt := 22) (pq := 10) dc_MD_feed_7 (by decide) rfl (fun c7 => ?_) (fun c7 => ?_)
    · skip
      refine xv_iconst hX (v := nI 0) dc_MD_feed_22 (by decide) (rfl : _ = 23) ?_
      refine xv_reti hX hR (by decide) dc_MD_feed_23 ?_
      exact Or.inl ⟨rfl, rfl, by omega⟩
    · skip
      obtain ⟨m, hm, rfl⟩ := xi_of (x := n) (by omega)
      have tm : (nI m).toInt = (m : Int) := nI_toInt hm
      refine xv_aload_n hX 0 dc_MD_feed_10 rfl (rfl : _ = 11) ?_
      refine xv_geti hX fl_MD_22 rfl rfl (by decide) (v := M 277 1) rfl dc_MD_feed_11 (rfl : _ = 14) ?_
      refine xv_iload_n hX 2 dc_MD_feed_14 rfl (rfl : _ = 15) ?_
      refine xv_iadd hX dc_MD_feed_15 (nI_add (M 277 1) m) (rfl : _ = 16) ?_
      refine xv_sipush hX (v := nI 160) dc_MD_feed_16 (by decide) (rfl : _ = 19) ?_
      refine xv_icmp_le hX (nI_toInt (by omega)) (show (nI 160).toInt = 160 by decide) (tgt := 24) (pq := 22) dc_MD_feed_19 (by decide) rfl (fun c19 => ?_) (fun c19 => ?_)
      · skip
        refine xv_iload_n hX 2 dc_MD_feed_24 rfl (rfl : _ = 25) ?_
        refine xv_iconst hX (v := nI 1) dc_MD_feed_25 (by decide) (rfl : _ = 26) ?_
        refine xv_isub hX dc_MD_feed_26 (xi_sub1 m) (rfl : _ = 27) ?_
        refine xv_istore_n hX [1, 2, 3, 0] dc_MD_feed_27 (by decide) (L' := [(0, .ref (Y.2.2.2 277)), (1, .int w), (2, .int (nI m)), (3, .int (xi_pred m))]) rfl (rfl : _ = 28) ?_
        have lp28 : ∀ (fu28 : Nat) (Mk : xm_M) (t : Nat) (ht : t ≤ m) (hz : Mk 277 1 = M 277 1 + (m - t)) (hb : ∀ j, j < m - t → Mk 278 (1280 + M 277 1 + j) = fd_b w (m - 1 - j)) (ho : ∀ j, (j < 1280 + M 277 1 ∨ 1280 + M 277 1 + m ≤ j) → Mk 278 j = M 278 j) (hj1 : ∀ j, j ≠ 1 → Mk 277 j = M 277 j) (hF : ∀ q, q ≠ 277 → q ≠ 278 → Mk q = M q), t < fu28 → xv_V X Y 4 0 0 xw_lk xw_N Mk 28 [(0, .ref (Y.2.2.2 277)), (1, .int w), (2, .int (nI m)), (3, .int (xi_pred t))] [] := by
          intro n28
          induction n28 with
          | zero => intro Mk t ht hz hb ho hj1 hF hm28; exact absurd hm28 (Nat.not_lt_zero _)
          | succ n28 ih28 =>
            intro Mk t ht hz hb ho hj1 hF hm28
            cases t with
            | zero =>
              show xv_V X Y 4 0 0 xw_lk xw_N Mk 28 [(0, .ref (Y.2.2.2 277)), (1, .int w), (2, .int (nI m)), (3, .int (-1 : Int32))] []
              refine xv_iload_n hX 3 dc_MD_feed_28 rfl (rfl : _ = 29) ?_
              refine xv_if_lt hX (rfl : ((-1 : Int32)).toInt = _) (tgt := 71) (pq := 32) dc_MD_feed_29 (by decide) rfl (fun c29 => ?_) (fun c29 => ?_)
              · skip
                refine xv_iconst hX (v := nI 1) dc_MD_feed_71 (by decide) (rfl : _ = 72) ?_
                refine xv_reti hX hR (by decide) dc_MD_feed_72 ?_
                exact Or.inr ⟨rfl, m, rfl, by omega, by omega, by omega, by omega, fun j hj => hb j (by omega), ho, hj1, hF⟩
              · skip
                exact absurd c29 (by decide)
            | succ t =>
              show xv_V X Y 4 0 0 xw_lk xw_N Mk 28 [(0, .ref (Y.2.2.2 277)), (1, .int w), (2, .int (nI m)), (3, .int (nI t))] []
              refine xv_iload_n hX 3 dc_MD_feed_28 rfl (rfl : _ = 29) ?_
              refine xv_if_lt hX (nI_toInt (by omega)) (tgt := 71) (pq := 32) dc_MD_feed_29 (by decide) rfl (fun c29 => ?_) (fun c29 => ?_)
              · skip
                exact absurd c29 (by omega)
              · skip
                refine xv_aload_n hX 0 dc_MD_feed_32 rfl (rfl : _ = 33) ?_
                refine xv_getr hX fl_MD_7 rfl rfl (by decide) rfl dc_MD_feed_33 (rfl : _ = 36) ?_
                refine xv_sipush hX (v := nI 1280) dc_MD_feed_36 (by decide) (rfl : _ = 39) ?_
                refine xv_aload_n hX 0 dc_MD_feed_39 rfl (rfl : _ = 40) ?_
                refine xv_geti hX fl_MD_22 rfl rfl (by decide) (v := Mk 277 1) rfl dc_MD_feed_40 (rfl : _ = 43) ?_
                refine xv_iadd hX dc_MD_feed_43 (nI_add 1280 (Mk 277 1)) (rfl : _ = 44) ?_
                refine xv_iload_n hX 1 dc_MD_feed_44 rfl (rfl : _ = 45) ?_
                refine xv_bipush hX (v := nI 8) dc_MD_feed_45 (by decide) (rfl : _ = 47) ?_
                refine xv_iload_n hX 3 dc_MD_feed_47 rfl (rfl : _ = 48) ?_
                refine xv_imul hX dc_MD_feed_48 (pk_mul 8 t) (rfl : _ = 49) ?_
                refine xv_ishr hX dc_MD_feed_49 rfl (rfl : _ = 50) ?_
                refine xv_sipush hX (v := nI 255) dc_MD_feed_50 (by decide) (rfl : _ = 53) ?_
                refine xv_iand hX dc_MD_feed_53 (fd_s w (by omega)) (rfl : _ = 54) ?_
                refine xv_iast hX rfl (by decide) (by omega) (by decide) dc_MD_feed_54 (rfl : _ = 55) ?_
                refine xv_aload_n hX 0 dc_MD_feed_55 rfl (rfl : _ = 56) ?_
                refine xv_aload_n hX 0 dc_MD_feed_56 rfl (rfl : _ = 57) ?_
                refine xv_geti hX fl_MD_22 rfl rfl (by decide) (v := Mk 277 1) (xm_np (by decide)) dc_MD_feed_57 (rfl : _ = 60) ?_
                refine xv_iconst hX (v := nI 1) dc_MD_feed_60 (by decide) (rfl : _ = 61) ?_
                refine xv_iadd hX dc_MD_feed_61 (nI_add (Mk 277 1) 1) (rfl : _ = 62) ?_
                refine xv_puti hX fl_MD_22 rfl rfl (by decide) dc_MD_feed_62 (rfl : _ = 65) ?_
                refine xv_iinc hX 3 [1, 2, 3, 0] dc_MD_feed_65 rfl (xi_dec t) (by decide) (L' := [(0, .ref (Y.2.2.2 277)), (1, .int w), (2, .int (nI m)), (3, .int (xi_pred t))]) rfl (rfl : _ = 68) ?_
                refine xv_goto hX (pq := 28) dc_MD_feed_68 (by decide) ?_
                refine xv_sub (L' := [(0, .ref (Y.2.2.2 277)), (1, .int w), (2, .int (nI m)), (3, .int (xi_pred t))]) [0, 1, 2, 3] rfl ?_
                exact ih28 (xm_set (xm_set Mk 278 (1280 + Mk 277 1) (fd_b w t)) 277 1 (Mk 277 1 + 1)) t (by omega) (by rw [xm_eq]; omega) (fun j hj => by rw [xm_np (by decide)]; by_cases hj2 : j = m - (t + 1); rw [show 1280 + M 277 1 + j = 1280 + Mk 277 1 by omega, xm_eq, show m - 1 - j = t by omega]; rw [xm_nk (by omega)]; exact hb j (by omega)) (fun j hj => by rw [xm_np (by decide), xm_nk (by omega)]; exact ho j hj) (fun j a => by rw [xm_nk a, xm_np (by decide)]; exact hj1 j a) (fun q a1 a2 => by rw [xm_oth a1, xm_oth a2]; exact hF q a1 a2) (by omega)
        refine xv_sub (L' := [(0, .ref (Y.2.2.2 277)), (1, .int w), (2, .int (nI m)), (3, .int (xi_pred m))]) [0, 1, 2, 3] rfl ?_
        exact lp28 _ M m (Nat.le_refl _) (by omega) (fun j hj => absurd hj (by omega)) (fun j hj => rfl) (fun j _ => rfl) (fun q _ _ => rfl) (Nat.lt_succ_self _)
      · skip
        refine xv_iconst hX (v := nI 0) dc_MD_feed_22 (by decide) (rfl : _ = 23) ?_
        refine xv_reti hX hR (by decide) dc_MD_feed_23 ?_
        exact Or.inl ⟨rfl, rfl, by omega⟩

set_option maxRecDepth 100000 in
set_option maxHeartbeats 4000000 in
theorem ct_MD_set (l : Launch) (Y : xw_Y) (M : xm_M) (k b : Int32) (h1 : M 277 1 ≤ 160) : xc_i l qm_MD_set 0 Y [.ref (Y.2.2.2 277), .int k, .int b] M (fun r M1 => (r = nI 0 ∧ M1 = M ∧ ¬ ((0 ≤ k.toInt ∧ k.toInt < (M 277 1 : Nat)) ∧ 0 ≤ b.toInt ∧ b.toInt ≤ 255)) ∨ (r = nI 1 ∧ ∃ j x, k = nI j ∧ b = nI x ∧ j < M 277 1 ∧ x < 256 ∧ M1 = xm_set M 278 (1280 + j) x)) := by
  refine xc_i.mk .boolean rfl (by decide) (Nat.le_of_ble_eq_true rfl) ?_
  intro X hXl hX hR
  subst hXl
  have hX : xv_ok X Y prog_9_method_3_code "CertificatePathModel" 3 (xc_rm 0) := hX
  show xv_V X Y 3 0 0 xw_lk xw_N M 0 [(0, .ref (Y.2.2.2 277)), (1, .int k), (2, .int b)] []
  refine xv_iload_n hX 1 dc_MD_set_0 rfl (rfl : _ = 1) ?_
  refine xv_if_lt hX (rfl : (k).toInt = _) (tgt := 23) (pq := 4) dc_MD_set_1 (by decide) rfl (fun c1 => ?_) (fun c1 => ?_)
  · skip
    refine xv_iconst hX (v := nI 0) dc_MD_set_23 (by decide) (rfl : _ = 24) ?_
    refine xv_reti hX hR (by decide) dc_MD_set_24 ?_
    exact Or.inl ⟨rfl, rfl, by omega⟩
  · skip
    refine xv_iload_n hX 1 dc_MD_set_4 rfl (rfl : _ = 5) ?_
    refine xv_aload_n hX 0 dc_MD_set_5 rfl (rfl : _ = 6) ?_
    refine xv_geti hX fl_MD_22 rfl rfl (by decide) (v := M 277 1) rfl dc_MD_set_6 (rfl : _ = 9) ?_
    refine xv_icmp_ge hX (rfl : (k).toInt = _) (nI_toInt (by omega)) (tgt := 23) (pq := 12) dc_MD_set_9 (by decide) rfl (fun c9 => ?_) (fun c9 => ?_)
    · skip
      refine xv_iconst hX (v := nI 0) dc_MD_set_23 (by decide) (rfl : _ = 24) ?_
      refine xv_reti hX hR (by decide) dc_MD_set_24 ?_
      exact Or.inl ⟨rfl, rfl, by omega⟩
    · skip
      refine xv_iload_n hX 2 dc_MD_set_12 rfl (rfl : _ = 13) ?_
      refine xv_if_lt hX (rfl : (b).toInt = _) (tgt := 23) (pq := 16) dc_MD_set_13 (by decide) rfl (fun c13 => ?_) (fun c13 => ?_)
      · skip
        refine xv_iconst hX (v := nI 0) dc_MD_set_23 (by decide) (rfl : _ = 24) ?_
        refine xv_reti hX hR (by decide) dc_MD_set_24 ?_
        exact Or.inl ⟨rfl, rfl, by omega⟩
      · skip
        refine xv_iload_n hX 2 dc_MD_set_16 rfl (rfl : _ = 17) ?_
        refine xv_sipush hX (v := nI 255) dc_MD_set_17 (by decide) (rfl : _ = 20) ?_
        refine xv_icmp_le hX (rfl : (b).toInt = _) (show (nI 255).toInt = 255 by decide) (tgt := 25) (pq := 23) dc_MD_set_20 (by decide) rfl (fun c20 => ?_) (fun c20 => ?_)
        · skip
          obtain ⟨j, hj, rfl⟩ := xi_of (x := k) (by omega)
          have tj : (nI j).toInt = (j : Int) := nI_toInt hj
          obtain ⟨x, hx, rfl⟩ := xi_of (x := b) (by omega)
          have tx : (nI x).toInt = (x : Int) := nI_toInt hx
          refine xv_aload_n hX 0 dc_MD_set_25 rfl (rfl : _ = 26) ?_
          refine xv_getr hX fl_MD_7 rfl rfl (by decide) rfl dc_MD_set_26 (rfl : _ = 29) ?_
          refine xv_sipush hX (v := nI 1280) dc_MD_set_29 (by decide) (rfl : _ = 32) ?_
          refine xv_iload_n hX 1 dc_MD_set_32 rfl (rfl : _ = 33) ?_
          refine xv_iadd hX dc_MD_set_33 (nI_add 1280 j) (rfl : _ = 34) ?_
          refine xv_iload_n hX 2 dc_MD_set_34 rfl (rfl : _ = 35) ?_
          refine xv_iast hX rfl (by decide) (by omega) (by decide) dc_MD_set_35 (rfl : _ = 36) ?_
          refine xv_iconst hX (v := nI 1) dc_MD_set_36 (by decide) (rfl : _ = 37) ?_
          refine xv_reti hX hR (by decide) dc_MD_set_37 ?_
          exact Or.inr ⟨rfl, j, x, rfl, rfl, by omega, by omega, rfl⟩
        · skip
          refine xv_iconst hX (v := nI 0) dc_MD_set_23 (by decide) (rfl : _ = 24) ?_
          refine xv_reti hX hR (by decide) dc_MD_set_24 ?_
          exact Or.inl ⟨rfl, rfl, by omega⟩

set_option maxRecDepth 100000 in
set_option maxHeartbeats 4000000 in
theorem ct_MD_trim (l : Launch) (Y : xw_Y) (M : xm_M) (n : Int32) (h1 : M 277 1 ≤ 160) : xc_i l qm_MD_trim 0 Y [.ref (Y.2.2.2 277), .int n] M (fun r M1 => (r = nI 0 ∧ M1 = M ∧ ¬ (0 ≤ n.toInt ∧ n.toInt ≤ (M 277 1 : Nat))) ∨ (r = nI 1 ∧ ∃ j, n = nI j ∧ j ≤ M 277 1 ∧ M1 = xm_set M 277 1 j)) := by
  refine xc_i.mk .boolean rfl (by decide) (Nat.le_of_ble_eq_true rfl) ?_
  intro X hXl hX hR
  subst hXl
  have hX : xv_ok X Y prog_9_method_4_code "CertificatePathModel" 2 (xc_rm 0) := hX
  show xv_V X Y 2 0 0 xw_lk xw_N M 0 [(0, .ref (Y.2.2.2 277)), (1, .int n)] []
  refine xv_iload_n hX 1 dc_MD_trim_0 rfl (rfl : _ = 1) ?_
  refine xv_if_lt hX (rfl : (n).toInt = _) (tgt := 12) (pq := 4) dc_MD_trim_1 (by decide) rfl (fun c1 => ?_) (fun c1 => ?_)
  · skip
    refine xv_iconst hX (v := nI 0) dc_MD_trim_12 (by decide) (rfl : _ = 13) ?_
    refine xv_reti hX hR (by decide) dc_MD_trim_13 ?_
    exact Or.inl ⟨rfl, rfl, by omega⟩
  · skip
    refine xv_iload_n hX 1 dc_MD_trim_4 rfl (rfl : _ = 5) ?_
    refine xv_aload_n hX 0 dc_MD_trim_5 rfl (rfl : _ = 6) ?_
    refine xv_geti hX fl_MD_22 rfl rfl (by decide) (v := M 277 1) rfl dc_MD_trim_6 (rfl : _ = 9) ?_
    refine xv_icmp_le hX (rfl : (n).toInt = _) (nI_toInt (by omega)) (tgt := 14) (pq := 12) dc_MD_trim_9 (by decide) rfl (fun c9 => ?_) (fun c9 => ?_)
    · skip
      obtain ⟨j, hj, rfl⟩ := xi_of (x := n) (by omega)
      have tj : (nI j).toInt = (j : Int) := nI_toInt hj
      refine xv_aload_n hX 0 dc_MD_trim_14 rfl (rfl : _ = 15) ?_
      refine xv_iload_n hX 1 dc_MD_trim_15 rfl (rfl : _ = 16) ?_
      refine xv_puti hX fl_MD_22 rfl rfl (by decide) dc_MD_trim_16 (rfl : _ = 19) ?_
      refine xv_iconst hX (v := nI 1) dc_MD_trim_19 (by decide) (rfl : _ = 20) ?_
      refine xv_reti hX hR (by decide) dc_MD_trim_20 ?_
      exact Or.inr ⟨rfl, j, rfl, by omega, rfl⟩
    · skip
      refine xv_iconst hX (v := nI 0) dc_MD_trim_12 (by decide) (rfl : _ = 13) ?_
      refine xv_reti hX hR (by decide) dc_MD_trim_13 ?_
      exact Or.inl ⟨rfl, rfl, by omega⟩

set_option maxRecDepth 100000 in
set_option maxHeartbeats 4000000 in
theorem ct_MD_length (l : Launch) (Y : xw_Y) (M : xm_M)  : xc_i l qm_MD_length 0 Y [.ref (Y.2.2.2 277)] M (fun r M1 => M1 = M ∧ r = nI (M 277 1)) := by
  refine xc_i.mk .int rfl (by decide) (Nat.le_of_ble_eq_true rfl) ?_
  intro X hXl hX hR
  subst hXl
  have hX : xv_ok X Y prog_9_method_5_code "CertificatePathModel" 1 (xc_rm 0) := hX
  show xv_V X Y 1 0 0 xw_lk xw_N M 0 [(0, .ref (Y.2.2.2 277))] []
  refine xv_aload_n hX 0 dc_MD_length_0 rfl (rfl : _ = 1) ?_
  refine xv_geti hX fl_MD_22 rfl rfl (by decide) (v := M 277 1) rfl dc_MD_length_1 (rfl : _ = 4) ?_
  refine xv_reti hX hR rfl dc_MD_length_4 ?_
  exact ⟨rfl, rfl⟩

set_option maxRecDepth 100000 in
set_option maxHeartbeats 4000000 in
theorem ct_MD_count (l : Launch) (Y : xw_Y) (M : xm_M)  : xc_i l qm_MD_count 0 Y [.ref (Y.2.2.2 277)] M (fun r M1 => M1 = M ∧ r = nI (M 277 2)) := by
  refine xc_i.mk .int rfl (by decide) (Nat.le_of_ble_eq_true rfl) ?_
  intro X hXl hX hR
  subst hXl
  have hX : xv_ok X Y prog_9_method_27_code "CertificatePathModel" 1 (xc_rm 0) := hX
  show xv_V X Y 1 0 0 xw_lk xw_N M 0 [(0, .ref (Y.2.2.2 277))] []
  refine xv_aload_n hX 0 dc_MD_count_0 rfl (rfl : _ = 1) ?_
  refine xv_geti hX fl_MD_174 rfl rfl (by decide) (v := M 277 2) rfl dc_MD_count_1 (rfl : _ = 4) ?_
  refine xv_reti hX hR rfl dc_MD_count_4 ?_
  exact ⟨rfl, rfl⟩

set_option maxRecDepth 100000 in
set_option maxHeartbeats 4000000 in
theorem ct_MD_links (l : Launch) (Y : xw_Y) (M : xm_M)  : xc_i l qm_MD_links 0 Y [.ref (Y.2.2.2 277)] M (fun r M1 => M1 = M ∧ r = nI (M 277 5)) := by
  refine xc_i.mk .int rfl (by decide) (Nat.le_of_ble_eq_true rfl) ?_
  intro X hXl hX hR
  subst hXl
  have hX : xv_ok X Y prog_9_method_35_code "CertificatePathModel" 1 (xc_rm 0) := hX
  show xv_V X Y 1 0 0 xw_lk xw_N M 0 [(0, .ref (Y.2.2.2 277))] []
  refine xv_aload_n hX 0 dc_MD_links_0 rfl (rfl : _ = 1) ?_
  refine xv_geti hX fl_MD_190 rfl rfl (by decide) (v := M 277 5) rfl dc_MD_links_1 (rfl : _ = 4) ?_
  refine xv_reti hX hR rfl dc_MD_links_4 ?_
  exact ⟨rfl, rfl⟩

set_option maxRecDepth 100000 in
set_option maxHeartbeats 4000000 in
theorem ct_MD_reset (l : Launch) (Y : xw_Y) (M : xm_M)  : xc_v l qm_MD_reset 0 Y [.ref (Y.2.2.2 277)] M (fun M1 => M1 = xm_set (xm_set M 277 2 0) 277 5 0) := by
  refine xc_v.mk rfl (by decide) (Nat.le_of_ble_eq_true rfl) ?_
  intro X hXl hX hR
  subst hXl
  have hX : xv_ok X Y prog_9_method_42_code "CertificatePathModel" 1 (xc_rm 0) := hX
  show xv_V X Y 1 0 0 xw_lk xw_N M 0 [(0, .ref (Y.2.2.2 277))] []
  refine xv_aload_n hX 0 dc_MD_reset_0 rfl (rfl : _ = 1) ?_
  refine xv_iconst hX (v := nI 0) dc_MD_reset_1 (by decide) (rfl : _ = 2) ?_
  refine xv_puti hX fl_MD_174 rfl rfl (by decide) dc_MD_reset_2 (rfl : _ = 5) ?_
  refine xv_aload_n hX 0 dc_MD_reset_5 rfl (rfl : _ = 6) ?_
  refine xv_iconst hX (v := nI 0) dc_MD_reset_6 (by decide) (rfl : _ = 7) ?_
  refine xv_puti hX fl_MD_190 rfl rfl (by decide) dc_MD_reset_7 (rfl : _ = 10) ?_
  refine xv_retv hX hR dc_MD_reset_10 ?_
  exact rfl

set_option maxRecDepth 100000 in
set_option maxHeartbeats 4000000 in
theorem ct_MD_byteAt (l : Launch) (Y : xw_Y) (M : xm_M) (k : Int32) (h1 : M 277 1 ≤ 160) : xc_i l qm_MD_byteAt 0 Y [.ref (Y.2.2.2 277), .int k] M (fun r M1 => M1 = M ∧ ((¬ (0 ≤ k.toInt ∧ k.toInt < (M 277 1 : Nat)) ∧ r = nI 4294967295) ∨ ∃ j, k = nI j ∧ j < M 277 1 ∧ r = nI (M 278 (1280 + j)))) := by
  refine xc_i.mk .int rfl (by decide) (Nat.le_of_ble_eq_true rfl) ?_
  intro X hXl hX hR
  subst hXl
  have hX : xv_ok X Y prog_9_method_6_code "CertificatePathModel" 2 (xc_rm 0) := hX
  show xv_V X Y 2 0 0 xw_lk xw_N M 0 [(0, .ref (Y.2.2.2 277)), (1, .int k)] []
  refine xv_iload_n hX 1 dc_MD_byteAt_0 rfl (rfl : _ = 1) ?_
  refine xv_if_lt hX (rfl : (k).toInt = _) (tgt := 12) (pq := 4) dc_MD_byteAt_1 (by decide) rfl (fun c1 => ?_) (fun c1 => ?_)
  · skip
    refine xv_iconst hX (v := nI 4294967295) dc_MD_byteAt_12 (by decide) (rfl : _ = 13) ?_
    refine xv_goto hX (pq := 26) dc_MD_byteAt_13 (by decide) ?_
    refine xv_reti hX hR rfl dc_MD_byteAt_26 ?_
    exact ⟨rfl, Or.inl ⟨by omega, rfl⟩⟩
  · skip
    refine xv_iload_n hX 1 dc_MD_byteAt_4 rfl (rfl : _ = 5) ?_
    refine xv_aload_n hX 0 dc_MD_byteAt_5 rfl (rfl : _ = 6) ?_
    refine xv_geti hX fl_MD_22 rfl rfl (by decide) (v := M 277 1) rfl dc_MD_byteAt_6 (rfl : _ = 9) ?_
    refine xv_icmp_lt hX (rfl : (k).toInt = _) (nI_toInt (by omega)) (tgt := 16) (pq := 12) dc_MD_byteAt_9 (by decide) rfl (fun c9 => ?_) (fun c9 => ?_)
    · skip
      obtain ⟨j, hj, rfl⟩ := xi_of (x := k) (by omega)
      have tj : (nI j).toInt = (j : Int) := nI_toInt hj
      refine xv_aload_n hX 0 dc_MD_byteAt_16 rfl (rfl : _ = 17) ?_
      refine xv_getr hX fl_MD_7 rfl rfl (by decide) rfl dc_MD_byteAt_17 (rfl : _ = 20) ?_
      refine xv_sipush hX (v := nI 1280) dc_MD_byteAt_20 (by decide) (rfl : _ = 23) ?_
      refine xv_iload_n hX 1 dc_MD_byteAt_23 rfl (rfl : _ = 24) ?_
      refine xv_iadd hX dc_MD_byteAt_24 (nI_add 1280 j) (rfl : _ = 25) ?_
      refine xv_iald hX rfl (by decide) (by omega) (by decide) (v := M 278 (1280 + j)) rfl dc_MD_byteAt_25 (rfl : _ = 26) ?_
      refine xv_reti hX hR rfl dc_MD_byteAt_26 ?_
      exact ⟨rfl, Or.inr ⟨j, rfl, by omega, rfl⟩⟩
    · skip
      refine xv_iconst hX (v := nI 4294967295) dc_MD_byteAt_12 (by decide) (rfl : _ = 13) ?_
      refine xv_goto hX (pq := 26) dc_MD_byteAt_13 (by decide) ?_
      refine xv_reti hX hR rfl dc_MD_byteAt_26 ?_
      exact ⟨rfl, Or.inl ⟨by omega, rfl⟩⟩

set_option maxRecDepth 100000 in
set_option maxHeartbeats 4000000 in
theorem ct_MD_hashed (l : Launch) (Y : xw_Y) (M : xm_M) (f t : Nat) (hf : f ≤ 1440) (ht : t ≤ 1440) (hd : ∀ j, j < 1440 → M 278 j < 256) : xc_i l qm_MD_hashed 0 Y [.ref (Y.2.2.2 277), .int (nI f), .int (nI t)] M (fun r M1 => M1 = M ∧ r = nI (ps_hash (M 278) f (t - f))) := by
  refine xc_i.mk .int rfl (by decide) (Nat.le_of_ble_eq_true rfl) ?_
  intro X hXl hX hR
  subst hXl
  have hX : xv_ok X Y prog_9_method_7_code "CertificatePathModel" 6 (xc_rm 0) := hX
  show xv_V X Y 6 0 0 xw_lk xw_N M 0 [(0, .ref (Y.2.2.2 277)), (1, .int (nI f)), (2, .int (nI t))] []
  refine xv_lconst hX (v := lN 0) dc_MD_hashed_0 rfl (rfl : _ = 1) ?_
  refine xv_lstore_n hX [1, 2, 3, 0] dc_MD_hashed_1 (by decide) (L' := [(0, .ref (Y.2.2.2 277)), (1, .int (nI f)), (2, .int (nI t)), (3, .long (lN 0))]) rfl (rfl : _ = 2) ?_
  refine xv_iload_n hX 1 dc_MD_hashed_2 rfl (rfl : _ = 3) ?_
  refine xv_istore hX [1, 2, 3, 4, 0] dc_MD_hashed_3 (by decide) (L' := [(0, .ref (Y.2.2.2 277)), (1, .int (nI f)), (2, .int (nI t)), (3, .long (lN 0)), (5, .int (nI f))]) rfl (rfl : _ = 5) ?_
  have lp5 : ∀ (fu5 : Nat) (k : Nat) (hk : k ≤ t - f), t - f - k < fu5 → xv_V X Y 6 0 0 xw_lk xw_N M 5 [(0, .ref (Y.2.2.2 277)), (1, .int (nI f)), (2, .int (nI t)), (3, .long (lN (ps_hash (M 278) f k))), (5, .int (nI (f + k)))] [] := by
    intro n5
    induction n5 with
    | zero => intro k hk hm5; exact absurd hm5 (Nat.not_lt_zero _)
    | succ n5 ih5 =>
      intro k hk hm5
      refine xv_iload hX 4 dc_MD_hashed_5 rfl (rfl : _ = 7) ?_
      refine xv_iload_n hX 2 dc_MD_hashed_7 rfl (rfl : _ = 8) ?_
      refine xv_icmp_ge hX (nI_toInt (by omega)) (nI_toInt (by omega)) (tgt := 38) (pq := 11) dc_MD_hashed_8 (by decide) rfl (fun c8 => ?_) (fun c8 => ?_)
      · skip
        refine xv_lload_n hX 3 dc_MD_hashed_38 rfl (rfl : _ = 39) ?_
        refine xv_l2i hX dc_MD_hashed_39 (lN_i (ps_hash (M 278) f k)) (rfl : _ = 40) ?_
        refine xv_reti hX hR rfl dc_MD_hashed_40 ?_
        exact ⟨rfl, by rw [show k = t - f by omega]⟩
      · skip
        have h1 := ps_hash_lt (M 278) f k
        have h2 := hd (f + k) (by omega)
        refine xv_ldc2 hX (v := lN 263) kc_MD_26 dc_MD_hashed_11 (rfl : _ = 14) ?_
        refine xv_lload_n hX 3 dc_MD_hashed_14 rfl (rfl : _ = 15) ?_
        refine xv_lmul hX dc_MD_hashed_15 (lN_mul 263 (ps_hash (M 278) f k)) (rfl : _ = 16) ?_
        refine xv_aload_n hX 0 dc_MD_hashed_16 rfl (rfl : _ = 17) ?_
        refine xv_getr hX fl_MD_7 rfl rfl (by decide) rfl dc_MD_hashed_17 (rfl : _ = 20) ?_
        refine xv_iload hX 4 dc_MD_hashed_20 rfl (rfl : _ = 22) ?_
        refine xv_iald hX rfl (by decide) (by omega) (by decide) (v := M 278 (f + k)) rfl dc_MD_hashed_22 (rfl : _ = 23) ?_
        refine xv_i2l hX dc_MD_hashed_23 (nI_l (by omega)) (rfl : _ = 24) ?_
        refine xv_ladd hX dc_MD_hashed_24 (lN_add (263 * (ps_hash (M 278) f k)) (M 278 (f + k))) (rfl : _ = 25) ?_
        refine xv_lconst hX (v := lN 1) dc_MD_hashed_25 rfl (rfl : _ = 26) ?_
        refine xv_ladd hX dc_MD_hashed_26 (lN_add ((263 * (ps_hash (M 278) f k)) + (M 278 (f + k))) 1) (rfl : _ = 27) ?_
        refine xv_ldc2 hX (v := lN 1000003) kc_MD_28 dc_MD_hashed_27 (rfl : _ = 30) ?_
        refine xv_lrem hX dc_MD_hashed_30 (by decide) (pk_lRem (by omega) (by decide) (by decide)) (rfl : _ = 31) ?_
        refine xv_lstore_n hX [1, 2, 3, 0, 4] dc_MD_hashed_31 (by decide) (L' := [(0, .ref (Y.2.2.2 277)), (1, .int (nI f)), (2, .int (nI t)), (3, .long (lN ((263 * ps_hash (M 278) f k + M 278 (f + k) + 1) % 1000003))), (5, .int (nI (f + k)))]) rfl (rfl : _ = 32) ?_
        refine xv_iinc hX 4 [1, 2, 3, 4, 0] dc_MD_hashed_32 rfl (xi_inc (f + k) 1) (by decide) (L' := [(0, .ref (Y.2.2.2 277)), (1, .int (nI f)), (2, .int (nI t)), (3, .long (lN ((263 * ps_hash (M 278) f k + M 278 (f + k) + 1) % 1000003))), (5, .int (nI (f + k + 1)))]) rfl (rfl : _ = 35) ?_
        refine xv_goto hX (pq := 5) dc_MD_hashed_35 (by decide) ?_
        refine xv_sub (L' := [(0, .ref (Y.2.2.2 277)), (1, .int (nI f)), (2, .int (nI t)), (3, .long (lN ((263 * ps_hash (M 278) f k + M 278 (f + k) + 1) % 1000003))), (5, .int (nI (f + k + 1)))]) [0, 1, 2, 3, 4] rfl ?_
        exact ih5 (k + 1) (by omega) (by omega)
  refine xv_sub (L' := [(0, .ref (Y.2.2.2 277)), (1, .int (nI f)), (2, .int (nI t)), (3, .long (lN 0)), (5, .int (nI f))]) [0, 1, 2, 3, 4] rfl ?_
  exact lp5 _ 0 (Nat.zero_le _) (Nat.lt_succ_self _)

set_option maxRecDepth 100000 in
set_option maxHeartbeats 4000000 in
theorem ct_MD_hash (l : Launch) (Y : xw_Y) (M : xm_M) (f t : Int32) (h1 : M 277 1 ≤ 160) (hd : ∀ j, j < 1440 → M 278 j < 256) : xc_i l qm_MD_hash 1 Y [.ref (Y.2.2.2 277), .int f, .int t] M (fun r M1 => M1 = M ∧ ((¬ (0 ≤ f.toInt ∧ f.toInt ≤ t.toInt ∧ t.toInt ≤ (M 277 1 : Nat)) ∧ r = nI 4294967295) ∨ ∃ i j, f = nI i ∧ t = nI j ∧ i ≤ j ∧ j ≤ M 277 1 ∧ r = nI (ps_hash (M 278) (1280 + i) (j - i)))) := by
  refine xc_i.mk .int rfl (by decide) (Nat.le_of_ble_eq_true rfl) ?_
  intro X hXl hX hR
  subst hXl
  have hX : xv_ok X Y prog_9_method_8_code "CertificatePathModel" 3 (xc_rm 1) := hX
  show xv_V X Y 3 0 0 xw_lk xw_N M 0 [(0, .ref (Y.2.2.2 277)), (1, .int f), (2, .int t)] []
  refine xv_iload_n hX 1 dc_MD_hash_0 rfl (rfl : _ = 1) ?_
  refine xv_if_lt hX (rfl : (f).toInt = _) (tgt := 17) (pq := 4) dc_MD_hash_1 (by decide) rfl (fun c1 => ?_) (fun c1 => ?_)
  · skip
    refine xv_iconst hX (v := nI 4294967295) dc_MD_hash_17 (by decide) (rfl : _ = 18) ?_
    refine xv_goto hX (pq := 35) dc_MD_hash_18 (by decide) ?_
    refine xv_reti hX hR rfl dc_MD_hash_35 ?_
    exact ⟨rfl, Or.inl ⟨by omega, rfl⟩⟩
  · skip
    refine xv_iload_n hX 1 dc_MD_hash_4 rfl (rfl : _ = 5) ?_
    refine xv_iload_n hX 2 dc_MD_hash_5 rfl (rfl : _ = 6) ?_
    refine xv_icmp_gt hX (rfl : (f).toInt = _) (rfl : (t).toInt = _) (tgt := 17) (pq := 9) dc_MD_hash_6 (by decide) rfl (fun c6 => ?_) (fun c6 => ?_)
    · skip
      refine xv_iconst hX (v := nI 4294967295) dc_MD_hash_17 (by decide) (rfl : _ = 18) ?_
      refine xv_goto hX (pq := 35) dc_MD_hash_18 (by decide) ?_
      refine xv_reti hX hR rfl dc_MD_hash_35 ?_
      exact ⟨rfl, Or.inl ⟨by omega, rfl⟩⟩
    · skip
      refine xv_iload_n hX 2 dc_MD_hash_9 rfl (rfl : _ = 10) ?_
      refine xv_aload_n hX 0 dc_MD_hash_10 rfl (rfl : _ = 11) ?_
      refine xv_geti hX fl_MD_22 rfl rfl (by decide) (v := M 277 1) rfl dc_MD_hash_11 (rfl : _ = 14) ?_
      refine xv_icmp_le hX (rfl : (t).toInt = _) (nI_toInt (by omega)) (tgt := 21) (pq := 17) dc_MD_hash_14 (by decide) rfl (fun c14 => ?_) (fun c14 => ?_)
      · skip
        obtain ⟨i, hi, rfl⟩ := xi_of (x := f) (by omega)
        have ti : (nI i).toInt = (i : Int) := nI_toInt hi
        obtain ⟨j, hj, rfl⟩ := xi_of (x := t) (by omega)
        have tj : (nI j).toInt = (j : Int) := nI_toInt hj
        refine xv_aload_n hX 0 dc_MD_hash_21 rfl (rfl : _ = 22) ?_
        refine xv_sipush hX (v := nI 1280) dc_MD_hash_22 (by decide) (rfl : _ = 25) ?_
        refine xv_iload_n hX 1 dc_MD_hash_25 rfl (rfl : _ = 26) ?_
        refine xv_iadd hX dc_MD_hash_26 (nI_add 1280 i) (rfl : _ = 27) ?_
        refine xv_sipush hX (v := nI 1280) dc_MD_hash_27 (by decide) (rfl : _ = 30) ?_
        refine xv_iload_n hX 2 dc_MD_hash_30 rfl (rfl : _ = 31) ?_
        refine xv_iadd hX dc_MD_hash_31 (nI_add 1280 j) (rfl : _ = 32) ?_
        refine xv_calli hX (As := [.int (nI (1280 + i)), .int (nI (1280 + j))]) (rest := []) (ct_MD_hashed _ Y M (1280 + i) (1280 + j) (by omega) (by omega) hd) ml_MD_30 li_MD_hashed rfl (by decide) rfl rfl rfl (by decide) ⟨by decide, by decide⟩ ⟨Nat.le_refl _, Nat.le_refl _⟩ (Nat.le_of_ble_eq_true rfl) dc_MD_hash_32 (rfl : _ = 35) (fun r32 M32 p32 => ?_)
        rw [p32.1, p32.2]
        refine xv_reti hX hR rfl dc_MD_hash_35 ?_
        exact ⟨rfl, Or.inr ⟨i, j, rfl, rfl, by omega, by omega, by rw [show 1280 + j - (1280 + i) = j - i by omega]⟩⟩
      · skip
        refine xv_iconst hX (v := nI 4294967295) dc_MD_hash_17 (by decide) (rfl : _ = 18) ?_
        refine xv_goto hX (pq := 35) dc_MD_hash_18 (by decide) ?_
        refine xv_reti hX hR rfl dc_MD_hash_35 ?_
        exact ⟨rfl, Or.inl ⟨by omega, rfl⟩⟩

set_option maxRecDepth 100000 in
set_option maxHeartbeats 4000000 in
theorem ct_MD_kept (l : Launch) (Y : xw_Y) (M : xm_M) (i : Int32) (hk8 : M 277 2 ≤ 8) : xc_i l qm_MD_kept 0 Y [.ref (Y.2.2.2 277), .int i] M (fun r M1 => M1 = M ∧ ∃ t : Nat, r = nI t ∧ t < 2 ∧ (t = 1 ↔ 0 ≤ i.toInt ∧ i.toInt < (M 277 2 : Nat))) := by
  refine xc_i.mk .boolean rfl (by decide) (Nat.le_of_ble_eq_true rfl) ?_
  intro X hXl hX hR
  subst hXl
  have hX : xv_ok X Y prog_9_method_24_code "CertificatePathModel" 2 (xc_rm 0) := hX
  show xv_V X Y 2 0 0 xw_lk xw_N M 0 [(0, .ref (Y.2.2.2 277)), (1, .int i)] []
  refine xv_iload_n hX 1 dc_MD_kept_0 rfl (rfl : _ = 1) ?_
  refine xv_if_lt hX (rfl : (i).toInt = _) (tgt := 16) (pq := 4) dc_MD_kept_1 (by decide) rfl (fun c1 => ?_) (fun c1 => ?_)
  · skip
    refine xv_iconst hX (v := nI 0) dc_MD_kept_16 (by decide) (rfl : _ = 17) ?_
    refine xv_reti hX hR (by decide) dc_MD_kept_17 ?_
    exact ⟨rfl, 0, rfl, by decide, by omega⟩
  · skip
    refine xv_iload_n hX 1 dc_MD_kept_4 rfl (rfl : _ = 5) ?_
    refine xv_aload_n hX 0 dc_MD_kept_5 rfl (rfl : _ = 6) ?_
    refine xv_geti hX fl_MD_174 rfl rfl (by decide) (v := M 277 2) rfl dc_MD_kept_6 (rfl : _ = 9) ?_
    refine xv_icmp_ge hX (rfl : (i).toInt = _) (nI_toInt (by omega)) (tgt := 16) (pq := 12) dc_MD_kept_9 (by decide) rfl (fun c9 => ?_) (fun c9 => ?_)
    · skip
      refine xv_iconst hX (v := nI 0) dc_MD_kept_16 (by decide) (rfl : _ = 17) ?_
      refine xv_reti hX hR (by decide) dc_MD_kept_17 ?_
      exact ⟨rfl, 0, rfl, by decide, by omega⟩
    · skip
      refine xv_iconst hX (v := nI 1) dc_MD_kept_12 (by decide) (rfl : _ = 13) ?_
      refine xv_goto hX (pq := 17) dc_MD_kept_13 (by decide) ?_
      refine xv_reti hX hR (by decide) dc_MD_kept_17 ?_
      exact ⟨rfl, 1, rfl, by decide, by omega⟩

set_option maxRecDepth 100000 in
set_option maxHeartbeats 4000000 in
theorem ct_MD_link (l : Launch) (Y : xw_Y) (M : xm_M) (i : Int32) (hk8 : M 277 2 ≤ 8) (hl : M 277 5 ≤ 6) : xc_i l qm_MD_link 1 Y [.ref (Y.2.2.2 277), .int i] M (fun r M1 => (r = nI 0 ∧ M1 = M ∧ ¬ ((0 ≤ i.toInt ∧ i.toInt < (M 277 2 : Nat)) ∧ M 277 5 ≠ 6)) ∨ (r = nI 1 ∧ ∃ j, i = nI j ∧ j < M 277 2 ∧ M 277 5 < 6 ∧ M1 = xm_set (xm_set M 280 (M 277 5) j) 277 5 (M 277 5 + 1))) := by
  refine xc_i.mk .boolean rfl (by decide) (Nat.le_of_ble_eq_true rfl) ?_
  intro X hXl hX hR
  subst hXl
  have hX : xv_ok X Y prog_9_method_33_code "CertificatePathModel" 2 (xc_rm 1) := hX
  show xv_V X Y 2 0 0 xw_lk xw_N M 0 [(0, .ref (Y.2.2.2 277)), (1, .int i)] []
  refine xv_aload_n hX 0 dc_MD_link_0 rfl (rfl : _ = 1) ?_
  refine xv_iload_n hX 1 dc_MD_link_1 rfl (rfl : _ = 2) ?_
  refine xv_calli hX (As := [.int i]) (rest := []) (ct_MD_kept _ Y M i hk8) ml_MD_177 li_MD_kept rfl (by decide) rfl rfl rfl (by decide) ⟨by decide, by decide⟩ ⟨Nat.le_refl _, Nat.le_refl _⟩ (Nat.le_of_ble_eq_true rfl) dc_MD_link_2 (rfl : _ = 5) (fun r2 M2 p2 => ?_)
  obtain ⟨pMa, ta, pra, pta, pia⟩ := p2
  rw [pMa, pra]
  refine xv_if_eq hX (nI_toInt (by omega)) (tgt := 17) (pq := 8) dc_MD_link_5 (by decide) rfl (fun c5 => ?_) (fun c5 => ?_)
  · skip
    refine xv_iconst hX (v := nI 0) dc_MD_link_17 (by decide) (rfl : _ = 18) ?_
    refine xv_reti hX hR (by decide) dc_MD_link_18 ?_
    exact Or.inl ⟨rfl, rfl, fun z => by have := pia.mpr z.1; omega⟩
  · skip
    refine xv_aload_n hX 0 dc_MD_link_8 rfl (rfl : _ = 9) ?_
    refine xv_geti hX fl_MD_190 rfl rfl (by decide) (v := M 277 5) rfl dc_MD_link_9 (rfl : _ = 12) ?_
    refine xv_bipush hX (v := nI 6) dc_MD_link_12 (by decide) (rfl : _ = 14) ?_
    refine xv_icmp_ne hX (nI_toInt (by omega)) (show (nI 6).toInt = 6 by decide) (tgt := 19) (pq := 17) dc_MD_link_14 (by decide) rfl (fun c14 => ?_) (fun c14 => ?_)
    · skip
      have hka := pia.mp (by omega)
      obtain ⟨j, hj, rfl⟩ := xi_of (x := i) (by omega)
      have tj : (nI j).toInt = (j : Int) := nI_toInt hj
      refine xv_aload_n hX 0 dc_MD_link_19 rfl (rfl : _ = 20) ?_
      refine xv_getr hX fl_MD_16 rfl rfl (by decide) rfl dc_MD_link_20 (rfl : _ = 23) ?_
      refine xv_aload_n hX 0 dc_MD_link_23 rfl (rfl : _ = 24) ?_
      refine xv_geti hX fl_MD_190 rfl rfl (by decide) (v := M 277 5) rfl dc_MD_link_24 (rfl : _ = 27) ?_
      refine xv_iload_n hX 1 dc_MD_link_27 rfl (rfl : _ = 28) ?_
      refine xv_iast hX rfl (by decide) (by omega) (by decide) dc_MD_link_28 (rfl : _ = 29) ?_
      refine xv_aload_n hX 0 dc_MD_link_29 rfl (rfl : _ = 30) ?_
      refine xv_aload_n hX 0 dc_MD_link_30 rfl (rfl : _ = 31) ?_
      refine xv_geti hX fl_MD_190 rfl rfl (by decide) (v := M 277 5) (xm_np (by decide)) dc_MD_link_31 (rfl : _ = 34) ?_
      refine xv_iconst hX (v := nI 1) dc_MD_link_34 (by decide) (rfl : _ = 35) ?_
      refine xv_iadd hX dc_MD_link_35 (nI_add (M 277 5) 1) (rfl : _ = 36) ?_
      refine xv_puti hX fl_MD_190 rfl rfl (by decide) dc_MD_link_36 (rfl : _ = 39) ?_
      refine xv_iconst hX (v := nI 1) dc_MD_link_39 (by decide) (rfl : _ = 40) ?_
      refine xv_reti hX hR (by decide) dc_MD_link_40 ?_
      exact Or.inr ⟨rfl, j, rfl, by omega, by omega, rfl⟩
    · skip
      refine xv_iconst hX (v := nI 0) dc_MD_link_17 (by decide) (rfl : _ = 18) ?_
      refine xv_reti hX hR (by decide) dc_MD_link_18 ?_
      exact Or.inl ⟨rfl, rfl, fun z => by have := pia.mpr z.1; omega⟩

set_option maxRecDepth 100000 in
set_option maxHeartbeats 4000000 in
theorem ct_MD_unlink (l : Launch) (Y : xw_Y) (M : xm_M) (hl : M 277 5 ≤ 6) : xc_i l qm_MD_unlink 0 Y [.ref (Y.2.2.2 277)] M (fun r M1 => (r = nI 0 ∧ M1 = M ∧ M 277 5 = 0) ∨ (r = nI 1 ∧ M 277 5 ≠ 0 ∧ M1 = xm_set M 277 5 (M 277 5 - 1))) := by
  refine xc_i.mk .boolean rfl (by decide) (Nat.le_of_ble_eq_true rfl) ?_
  intro X hXl hX hR
  subst hXl
  have hX : xv_ok X Y prog_9_method_34_code "CertificatePathModel" 1 (xc_rm 0) := hX
  show xv_V X Y 1 0 0 xw_lk xw_N M 0 [(0, .ref (Y.2.2.2 277))] []
  refine xv_aload_n hX 0 dc_MD_unlink_0 rfl (rfl : _ = 1) ?_
  refine xv_geti hX fl_MD_190 rfl rfl (by decide) (v := M 277 5) rfl dc_MD_unlink_1 (rfl : _ = 4) ?_
  refine xv_if_ne hX (nI_toInt (by omega)) (tgt := 9) (pq := 7) dc_MD_unlink_4 (by decide) rfl (fun c4 => ?_) (fun c4 => ?_)
  · skip
    refine xv_aload_n hX 0 dc_MD_unlink_9 rfl (rfl : _ = 10) ?_
    refine xv_aload_n hX 0 dc_MD_unlink_10 rfl (rfl : _ = 11) ?_
    refine xv_geti hX fl_MD_190 rfl rfl (by decide) (v := M 277 5) rfl dc_MD_unlink_11 (rfl : _ = 14) ?_
    refine xv_iconst hX (v := nI 1) dc_MD_unlink_14 (by decide) (rfl : _ = 15) ?_
    refine xv_isub hX dc_MD_unlink_15 (pk_sub (by omega)) (rfl : _ = 16) ?_
    refine xv_puti hX fl_MD_190 rfl rfl (by decide) dc_MD_unlink_16 (rfl : _ = 19) ?_
    refine xv_iconst hX (v := nI 1) dc_MD_unlink_19 (by decide) (rfl : _ = 20) ?_
    refine xv_reti hX hR (by decide) dc_MD_unlink_20 ?_
    exact Or.inr ⟨rfl, by omega, rfl⟩
  · skip
    refine xv_iconst hX (v := nI 0) dc_MD_unlink_7 (by decide) (rfl : _ = 8) ?_
    refine xv_reti hX hR (by decide) dc_MD_unlink_8 ?_
    exact Or.inl ⟨rfl, rfl, by omega⟩

set_option maxRecDepth 100000 in
set_option maxHeartbeats 4000000 in
theorem ct_MD_recode (l : Launch) (Y : xw_Y) (M : xm_M) (i : Int32) (hk8 : M 277 2 ≤ 8) (hs : ∀ a, a < M 277 2 → M 279 a ≤ 160) : xc_i l qm_MD_recode 1 Y [.ref (Y.2.2.2 277), .int i] M (fun r M1 => (r = nI 4294967295 ∧ M1 = M ∧ ¬ (0 ≤ i.toInt ∧ i.toInt < (M 277 2 : Nat))) ∨ ∃ a, i = nI a ∧ a < M 277 2 ∧ r = nI (M 279 a) ∧ M1 277 1 = M 279 a ∧ (∀ j, j ≠ 1 → M1 277 j = M 277 j) ∧ (∀ j, j < M 279 a → M1 278 (1280 + j) = M 278 (160 * a + j)) ∧ (∀ j, (j < 1280 ∨ 1280 + M 279 a ≤ j) → M1 278 j = M 278 j) ∧ ∀ q, q ≠ 277 → q ≠ 278 → M1 q = M q) := by
  refine xc_i.mk .int rfl (by decide) (Nat.le_of_ble_eq_true rfl) ?_
  intro X hXl hX hR
  subst hXl
  have hX : xv_ok X Y prog_9_method_32_code "CertificatePathModel" 3 (xc_rm 1) := hX
  show xv_V X Y 3 0 0 xw_lk xw_N M 0 [(0, .ref (Y.2.2.2 277)), (1, .int i)] []
  refine xv_aload_n hX 0 dc_MD_recode_0 rfl (rfl : _ = 1) ?_
  refine xv_iload_n hX 1 dc_MD_recode_1 rfl (rfl : _ = 2) ?_
  refine xv_calli hX (As := [.int i]) (rest := []) (ct_MD_kept _ Y M i hk8) ml_MD_177 li_MD_kept rfl (by decide) rfl rfl rfl (by decide) ⟨by decide, by decide⟩ ⟨Nat.le_refl _, Nat.le_refl _⟩ (Nat.le_of_ble_eq_true rfl) dc_MD_recode_2 (rfl : _ = 5) (fun r2 M2 p2 => ?_)
  obtain ⟨pMa, ta, pra, pta, pia⟩ := p2
  rw [pMa, pra]
  refine xv_if_ne hX (nI_toInt (by omega)) (tgt := 10) (pq := 8) dc_MD_recode_5 (by decide) rfl (fun c5 => ?_) (fun c5 => ?_)
  · skip
    have hka := pia.mp (by omega)
    obtain ⟨a, ha, rfl⟩ := xi_of (x := i) (by omega)
    have ta : (nI a).toInt = (a : Int) := nI_toInt ha
    have hsa := hs a (by omega)
    refine xv_aload_n hX 0 dc_MD_recode_10 rfl (rfl : _ = 11) ?_
    refine xv_aload_n hX 0 dc_MD_recode_11 rfl (rfl : _ = 12) ?_
    refine xv_getr hX fl_MD_13 rfl rfl (by decide) rfl dc_MD_recode_12 (rfl : _ = 15) ?_
    refine xv_iload_n hX 1 dc_MD_recode_15 rfl (rfl : _ = 16) ?_
    refine xv_iald hX rfl (by decide) (by omega) (by decide) (v := M 279 a) rfl dc_MD_recode_16 (rfl : _ = 17) ?_
    refine xv_puti hX fl_MD_22 rfl rfl (by decide) dc_MD_recode_17 (rfl : _ = 20) ?_
    refine xv_iconst hX (v := nI 0) dc_MD_recode_20 (by decide) (rfl : _ = 21) ?_
    refine xv_istore_n hX [1, 2, 0] dc_MD_recode_21 (by decide) (L' := [(0, .ref (Y.2.2.2 277)), (1, .int (nI a)), (2, .int (nI 0))]) rfl (rfl : _ = 22) ?_
    have lp22 : ∀ (fu22 : Nat) (Mk : xm_M) (k : Nat) (hk : k ≤ M 279 a) (hz : Mk 277 1 = M 279 a) (hj : ∀ j, j ≠ 1 → Mk 277 j = M 277 j) (hb : ∀ j, j < k → Mk 278 (1280 + j) = M 278 (160 * a + j)) (ho : ∀ j, (j < 1280 ∨ 1280 + k ≤ j) → Mk 278 j = M 278 j) (hF : ∀ q, q ≠ 277 → q ≠ 278 → Mk q = M q), M 279 a - k < fu22 → xv_V X Y 3 0 0 xw_lk xw_N Mk 22 [(0, .ref (Y.2.2.2 277)), (1, .int (nI a)), (2, .int (nI k))] [] := by
      intro n22
      induction n22 with
      | zero => intro Mk k hk hz hj hb ho hF hm22; exact absurd hm22 (Nat.not_lt_zero _)
      | succ n22 ih22 =>
        intro Mk k hk hz hj hb ho hF hm22
        refine xv_iload_n hX 2 dc_MD_recode_22 rfl (rfl : _ = 23) ?_
        refine xv_aload_n hX 0 dc_MD_recode_23 rfl (rfl : _ = 24) ?_
        refine xv_geti hX fl_MD_22 rfl rfl (by decide) (v := Mk 277 1) rfl dc_MD_recode_24 (rfl : _ = 27) ?_
        refine xv_icmp_ge hX (nI_toInt (by omega)) (nI_toInt (by omega)) (tgt := 58) (pq := 30) dc_MD_recode_27 (by decide) rfl (fun c27 => ?_) (fun c27 => ?_)
        · skip
          refine xv_aload_n hX 0 dc_MD_recode_58 rfl (rfl : _ = 59) ?_
          refine xv_geti hX fl_MD_22 rfl rfl (by decide) (v := Mk 277 1) rfl dc_MD_recode_59 (rfl : _ = 62) ?_
          refine xv_reti hX hR rfl dc_MD_recode_62 ?_
          exact Or.inr ⟨a, rfl, by omega, by rw [hz], hz, hj, fun j hj2 => hb j (by omega), fun j hj2 => ho j (by omega), hF⟩
        · skip
          refine xv_aload_n hX 0 dc_MD_recode_30 rfl (rfl : _ = 31) ?_
          refine xv_getr hX fl_MD_7 rfl rfl (by decide) rfl dc_MD_recode_31 (rfl : _ = 34) ?_
          refine xv_sipush hX (v := nI 1280) dc_MD_recode_34 (by decide) (rfl : _ = 37) ?_
          refine xv_iload_n hX 2 dc_MD_recode_37 rfl (rfl : _ = 38) ?_
          refine xv_iadd hX dc_MD_recode_38 (nI_add 1280 k) (rfl : _ = 39) ?_
          refine xv_aload_n hX 0 dc_MD_recode_39 rfl (rfl : _ = 40) ?_
          refine xv_getr hX fl_MD_7 rfl rfl (by decide) rfl dc_MD_recode_40 (rfl : _ = 43) ?_
          refine xv_sipush hX (v := nI 160) dc_MD_recode_43 (by decide) (rfl : _ = 46) ?_
          refine xv_iload_n hX 1 dc_MD_recode_46 rfl (rfl : _ = 47) ?_
          refine xv_imul hX dc_MD_recode_47 (pk_mul 160 a) (rfl : _ = 48) ?_
          refine xv_iload_n hX 2 dc_MD_recode_48 rfl (rfl : _ = 49) ?_
          refine xv_iadd hX dc_MD_recode_49 (nI_add (160 * a) k) (rfl : _ = 50) ?_
          refine xv_iald hX rfl (by decide) (by omega) (by decide) (v := Mk 278 ((160 * a) + k)) rfl dc_MD_recode_50 (rfl : _ = 51) ?_
          refine xv_iast hX rfl (by decide) (by omega) (by decide) dc_MD_recode_51 (rfl : _ = 52) ?_
          refine xv_iinc hX 2 [1, 2, 0] dc_MD_recode_52 rfl (xi_inc k 1) (by decide) (L' := [(0, .ref (Y.2.2.2 277)), (1, .int (nI a)), (2, .int (nI (k + 1)))]) rfl (rfl : _ = 55) ?_
          refine xv_goto hX (pq := 22) dc_MD_recode_55 (by decide) ?_
          refine xv_sub (L' := [(0, .ref (Y.2.2.2 277)), (1, .int (nI a)), (2, .int (nI (k + 1)))]) [0, 1, 2] rfl ?_
          exact ih22 (xm_set Mk 278 (1280 + k) (Mk 278 (160 * a + k))) (k + 1) (by omega) (by rw [xm_np (by decide)]; exact hz) (fun j x => by rw [xm_np (by decide)]; exact hj j x) (fun j hj2 => by by_cases e : j = k; rw [e, xm_eq]; exact ho _ (by omega); rw [xm_nk (by omega)]; exact hb j (by omega)) (fun j hj2 => by rw [xm_nk (by omega)]; exact ho j (by omega)) (fun q x y => by rw [xm_oth y]; exact hF q x y) (by omega)
    refine xv_sub (L' := [(0, .ref (Y.2.2.2 277)), (1, .int (nI a)), (2, .int (nI 0))]) [0, 1, 2] rfl ?_
    exact lp22 _ (xm_set M 277 1 (M 279 a)) 0 (Nat.zero_le _) xm_eq (fun j a => xm_nk a) (fun j hj => absurd hj (Nat.not_lt_zero _)) (fun j hj => by rw [xm_np (by decide)]) (fun q a b => xm_oth a) (Nat.lt_succ_self _)
  · skip
    refine xv_iconst hX (v := nI 4294967295) dc_MD_recode_8 (by decide) (rfl : _ = 9) ?_
    refine xv_reti hX hR rfl dc_MD_recode_9 ?_
    exact Or.inl ⟨rfl, rfl, fun z => by have := pia.mpr z; omega⟩
