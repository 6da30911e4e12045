/-! ByteRow: what is read and written -/
set_option maxRecDepth 100000 in
set_option maxHeartbeats 4000000 in
theorem ct_BR_has (l : Launch) (Y : xw_Y) (M : xm_M) (k : Int32) (hs : M 2 1 ≤ 160) : xc_i l qm_BR_has 0 Y [.ref (Y.2.2.2 2), .int k] M (fun r M1 => M1 = M ∧ r = nI (if 0 ≤ k.toInt ∧ k.toInt < (M 2 1 : Nat) then 1 else 0)) := by
  refine xc_i.mk .boolean rfl (by decide) (Nat.le_of_ble_eq_true rfl) ?_
  intro X hXl hX hR
  subst hXl
  have hX : xv_ok X Y prog_2_method_2_code "CertificatePath$ByteRow" 2 (xc_rm 0) := hX
  show xv_V X Y 2 0 0 xw_lk xw_N M 0 [(0, .ref (Y.2.2.2 2)), (1, .int k)] []
  refine xv_iload_n hX 1 dc_BR_has_0 rfl (rfl : _ = 1) ?_
  refine xv_if_lt hX (rfl : (k).toInt = _) (tgt := 16) (pq := 4) dc_BR_has_1 (by decide) rfl (fun c1 => ?_) (fun c1 => ?_)
  · skip
    refine xv_iconst hX (v := nI 0) dc_BR_has_16 (by decide) (rfl : _ = 17) ?_
    refine xv_reti hX hR (by decide) dc_BR_has_17 ?_
    exact ⟨rfl, by rw [if_neg (by omega)]⟩
  · skip
    refine xv_iload_n hX 1 dc_BR_has_4 rfl (rfl : _ = 5) ?_
    refine xv_aload_n hX 0 dc_BR_has_5 rfl (rfl : _ = 6) ?_
    refine xv_geti hX fl_BR_15 rfl rfl (by decide) (v := M 2 1) rfl dc_BR_has_6 (rfl : _ = 9) ?_
    refine xv_icmp_ge hX (rfl : (k).toInt = _) (nI_toInt (by omega)) (tgt := 16) (pq := 12) dc_BR_has_9 (by decide) rfl (fun c9 => ?_) (fun c9 => ?_)
    · skip
      refine xv_iconst hX (v := nI 0) dc_BR_has_16 (by decide) (rfl : _ = 17) ?_
      refine xv_reti hX hR (by decide) dc_BR_has_17 ?_
      exact ⟨rfl, by rw [if_neg (by omega)]⟩
    · skip
      refine xv_iconst hX (v := nI 1) dc_BR_has_12 (by decide) (rfl : _ = 13) ?_
      refine xv_goto hX (pq := 17) dc_BR_has_13 (by decide) ?_
      refine xv_reti hX hR (by decide) dc_BR_has_17 ?_
      exact ⟨rfl, by rw [if_pos (by omega)]⟩

set_option maxRecDepth 100000 in
set_option maxHeartbeats 4000000 in
theorem ct_BR_hashBetween (l : Launch) (Y : xw_Y) (M : xm_M) (f t : Nat) (hf : f ≤ 160) (ht : t ≤ 160) (hb : ∀ j, j < 160 → M 3 j < 256) : xc_i l qm_BR_hashBetween 0 Y [.ref (Y.2.2.2 2), .int (nI f), .int (nI t)] M (fun r M1 => M1 = M ∧ r = nI (ps_hash (M 3) f (t - f))) := by
  refine xc_i.mk .int rfl (by decide) (Nat.le_of_ble_eq_true rfl) ?_
  intro X hXl hX hR
  subst hXl
  have hX : xv_ok X Y prog_2_method_3_code "CertificatePath$ByteRow" 5 (xc_rm 0) := hX
  show xv_V X Y 5 0 0 xw_lk xw_N M 0 [(0, .ref (Y.2.2.2 2)), (1, .int (nI f)), (2, .int (nI t))] []
  refine xv_iconst hX (v := nI 0) dc_BR_hashBetween_0 (by decide) (rfl : _ = 1) ?_
  refine xv_istore_n hX [1, 2, 3, 0] dc_BR_hashBetween_1 (by decide) (L' := [(0, .ref (Y.2.2.2 2)), (1, .int (nI f)), (2, .int (nI t)), (3, .int (nI 0))]) rfl (rfl : _ = 2) ?_
  refine xv_iload_n hX 1 dc_BR_hashBetween_2 rfl (rfl : _ = 3) ?_
  refine xv_istore hX [1, 2, 3, 4, 0] dc_BR_hashBetween_3 (by decide) (L' := [(0, .ref (Y.2.2.2 2)), (1, .int (nI f)), (2, .int (nI t)), (3, .int (nI 0)), (4, .int (nI f))]) rfl (rfl : _ = 5) ?_
  have lp5 : ∀ (n : Nat) (k : Nat) (hk : k ≤ t - f), t - f - k < n → xv_V X Y 5 0 0 xw_lk xw_N M 5 [(0, .ref (Y.2.2.2 2)), (1, .int (nI f)), (2, .int (nI t)), (3, .int (nI (ps_hash (M 3) f k))), (4, .int (nI (f + k)))] [] := by
    intro n5
    induction n5 with
    | zero => intro k hk hm5; exact absurd hm5 (Nat.not_lt_zero _)
    | succ n5 ih5 =>
      intro k hk hm5
      refine xv_iload hX 4 dc_BR_hashBetween_5 rfl (rfl : _ = 7) ?_
      refine xv_iload_n hX 2 dc_BR_hashBetween_7 rfl (rfl : _ = 8) ?_
      refine xv_icmp_ge hX (nI_toInt (by omega)) (nI_toInt (by omega)) (tgt := 36) (pq := 11) dc_BR_hashBetween_8 (by decide) rfl (fun c8 => ?_) (fun c8 => ?_)
      · skip
        refine xv_iload_n hX 3 dc_BR_hashBetween_36 rfl (rfl : _ = 37) ?_
        refine xv_reti hX hR rfl dc_BR_hashBetween_37 ?_
        exact ⟨rfl, by rw [show k = t - f by omega]⟩
      · skip
        have h1 := ps_hash_lt (M 3) f k
        have h2 := hb (f + k) (by omega)
        refine xv_sipush hX (v := nI 263) dc_BR_hashBetween_11 (by decide) (rfl : _ = 14) ?_
        refine xv_iload_n hX 3 dc_BR_hashBetween_14 rfl (rfl : _ = 15) ?_
        refine xv_imul hX dc_BR_hashBetween_15 (pk_mul 263 (ps_hash (M 3) f k)) (rfl : _ = 16) ?_
        refine xv_aload_n hX 0 dc_BR_hashBetween_16 rfl (rfl : _ = 17) ?_
        refine xv_getr hX fl_BR_9 rfl rfl (by decide) rfl dc_BR_hashBetween_17 (rfl : _ = 20) ?_
        refine xv_iload hX 4 dc_BR_hashBetween_20 rfl (rfl : _ = 22) ?_
        refine xv_iald hX rfl (by decide) (by omega) (by decide) (v := M 3 (f + k)) rfl dc_BR_hashBetween_22 (rfl : _ = 23) ?_
        refine xv_iadd hX dc_BR_hashBetween_23 (nI_add (263 * (ps_hash (M 3) f k)) (M 3 (f + k))) (rfl : _ = 24) ?_
        refine xv_iconst hX (v := nI 1) dc_BR_hashBetween_24 (by decide) (rfl : _ = 25) ?_
        refine xv_iadd hX dc_BR_hashBetween_25 (nI_add ((263 * (ps_hash (M 3) f k)) + (M 3 (f + k))) 1) (rfl : _ = 26) ?_
        refine xv_ldc hX (v := nI 1000003) kc_BR_19 dc_BR_hashBetween_26 (rfl : _ = 28) ?_
        refine xv_irem hX dc_BR_hashBetween_28 (by decide) (pk_rem (by omega) (by decide) (by decide)) (rfl : _ = 29) ?_
        refine xv_istore_n hX [1, 2, 3, 0, 4] dc_BR_hashBetween_29 (by decide) (L' := [(0, .ref (Y.2.2.2 2)), (1, .int (nI f)), (2, .int (nI t)), (3, .int (nI ((((263 * (ps_hash (M 3) f k)) + (M 3 (f + k))) + 1) % 1000003))), (4, .int (nI (f + k)))]) rfl (rfl : _ = 30) ?_
        refine xv_iinc hX 4 [1, 2, 3, 4, 0] dc_BR_hashBetween_30 rfl (xi_inc (f + k) 1) (by decide) (L' := [(0, .ref (Y.2.2.2 2)), (1, .int (nI f)), (2, .int (nI t)), (3, .int (nI ((((263 * (ps_hash (M 3) f k)) + (M 3 (f + k))) + 1) % 1000003))), (4, .int (nI (f + k + 1)))]) rfl (rfl : _ = 33) ?_
        refine xv_goto hX (pq := 5) dc_BR_hashBetween_33 (by decide) ?_
        refine xv_sub (L' := [(0, .ref (Y.2.2.2 2)), (1, .int (nI f)), (2, .int (nI t)), (3, .int (nI ((((263 * (ps_hash (M 3) f k)) + (M 3 (f + k))) + 1) % 1000003))), (4, .int (nI (f + k + 1)))]) [0, 1, 2, 3, 4] rfl ?_
        exact ih5 (k + 1) (by omega) (by omega)
  refine xv_sub (L' := [(0, .ref (Y.2.2.2 2)), (1, .int (nI f)), (2, .int (nI t)), (3, .int (nI 0)), (4, .int (nI f))]) [0, 1, 2, 3, 4] rfl ?_
  exact lp5 _ 0 (Nat.zero_le _) (Nat.lt_succ_self _)

set_option maxRecDepth 100000 in
set_option maxHeartbeats 4000000 in
theorem ct_BR_append (l : Launch) (Y : xw_Y) (M : xm_M) (v : Nat) (hs : M 2 1 < 160) : xc_i l qm_BR_append 0 Y [.ref (Y.2.2.2 2), .int (nI v)] M (fun r M1 => M1 = xm_set (xm_set M 3 (M 2 1) v) 2 1 (M 2 1 + 1) ∧ r = nI (M 2 1 + 1)) := by
  refine xc_i.mk .int rfl (by decide) (Nat.le_of_ble_eq_true rfl) ?_
  intro X hXl hX hR
  subst hXl
  have hX : xv_ok X Y prog_2_method_4_code "CertificatePath$ByteRow" 2 (xc_rm 0) := hX
  show xv_V X Y 2 0 0 xw_lk xw_N M 0 [(0, .ref (Y.2.2.2 2)), (1, .int (nI v))] []
  refine xv_aload_n hX 0 dc_BR_append_0 rfl (rfl : _ = 1) ?_
  refine xv_geti hX fl_BR_15 rfl rfl (by decide) (v := M 2 1) rfl dc_BR_append_1 (rfl : _ = 4) ?_
  refine xv_aload_n hX 0 dc_BR_append_4 rfl (rfl : _ = 5) ?_
  refine xv_getr hX fl_BR_9 rfl rfl (by decide) rfl dc_BR_append_5 (rfl : _ = 8) ?_
  refine xv_alen hX (n := 160) rfl ⟨_, rfl⟩ (by decide) dc_BR_append_8 (rfl : _ = 9) ?_
  refine xv_icmp_ge hX (nI_toInt (by omega)) (show (nI 160).toInt = 160 by decide) (tgt := 32) (pq := 12) dc_BR_append_9 (by decide) rfl (fun c9 => ?_) (fun c9 => ?_)
  · exact absurd c9 (by omega)
  · skip
    refine xv_aload_n hX 0 dc_BR_append_12 rfl (rfl : _ = 13) ?_
    refine xv_getr hX fl_BR_9 rfl rfl (by decide) rfl dc_BR_append_13 (rfl : _ = 16) ?_
    refine xv_aload_n hX 0 dc_BR_append_16 rfl (rfl : _ = 17) ?_
    refine xv_geti hX fl_BR_15 rfl rfl (by decide) (v := M 2 1) rfl dc_BR_append_17 (rfl : _ = 20) ?_
    refine xv_iload_n hX 1 dc_BR_append_20 rfl (rfl : _ = 21) ?_
    refine xv_iast hX rfl (by decide) (by omega) (by decide) dc_BR_append_21 (rfl : _ = 22) ?_
    refine xv_aload_n hX 0 dc_BR_append_22 rfl (rfl : _ = 23) ?_
    refine xv_dup hX dc_BR_append_23 rfl (rfl : _ = 24) ?_
    refine xv_geti hX fl_BR_15 rfl rfl (by decide) (v := M 2 1) (xm_np (by decide)) dc_BR_append_24 (rfl : _ = 27) ?_
    refine xv_iconst hX (v := nI 1) dc_BR_append_27 (by decide) (rfl : _ = 28) ?_
    refine xv_iadd hX dc_BR_append_28 (nI_add (M 2 1) 1) (rfl : _ = 29) ?_
    refine xv_puti hX fl_BR_15 rfl rfl (by decide) dc_BR_append_29 (rfl : _ = 32) ?_
    refine xv_aload_n hX 0 dc_BR_append_32 rfl (rfl : _ = 33) ?_
    refine xv_geti hX fl_BR_15 rfl rfl (by decide) (v := M 2 1 + 1) xm_eq dc_BR_append_33 (rfl : _ = 36) ?_
    refine xv_reti hX hR rfl dc_BR_append_36 ?_
    exact ⟨rfl, rfl⟩
