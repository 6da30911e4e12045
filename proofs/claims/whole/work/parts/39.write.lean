/-! ByteRow: writing -/
set_option maxRecDepth 100000 in
set_option maxHeartbeats 4000000 in
theorem ct_BR_insertLength (l : Launch) (Y : xw_Y) (M : xm_M) (M0 : xm_M) (E c : List Nat) (hM : M = wr_m M0 (E ++ c)) (hE : 1 ≤ E.length) (hfit : M0 2 1 + E.length + (if c.length ≤ 127 then 1 else 2) + c.length ≤ 160) : xc_v l qm_BR_insertLength 0 Y [.ref (Y.2.2.2 2), .int (nI (M0 2 1 + E.length))] M (fun M1 => M1 = wr_m M0 (E ++ (en_len c.length ++ c))) := by
  refine xc_v.mk rfl (by decide) (Nat.le_of_ble_eq_true rfl) ?_
  intro X hXl hX hR
  subst hXl
  have hX : xv_ok X Y prog_2_method_5_code "CertificatePath$ByteRow" 5 (xc_rm 0) := hX
  show xv_V X Y 5 0 0 xw_lk xw_N M 0 [(0, .ref (Y.2.2.2 2)), (1, .int (nI (M0 2 1 + E.length)))] []
  have hz : M 2 1 = M0 2 1 + E.length + c.length := by rw [hM, wr_21, List.length_append]; omega
  have hn : M 2 1 - (M0 2 1 + E.length) = c.length := by omega
  refine xv_aload_n hX 0 dc_BR_insertLength_0 rfl (rfl : _ = 1) ?_
  refine xv_geti hX fl_BR_15 rfl rfl (by decide) (v := M 2 1) rfl dc_BR_insertLength_1 (rfl : _ = 4) ?_
  refine xv_iload_n hX 1 dc_BR_insertLength_4 rfl (rfl : _ = 5) ?_
  refine xv_isub hX dc_BR_insertLength_5 (pk_sub (by omega)) (rfl : _ = 6) ?_
  refine xv_istore_n hX [1, 2, 0] dc_BR_insertLength_6 (by decide) (L' := [(0, .ref (Y.2.2.2 2)), (1, .int (nI (M0 2 1 + E.length))), (2, .int (nI (M 2 1 - (M0 2 1 + E.length))))]) rfl (rfl : _ = 7) ?_
  refine xv_iload_n hX 2 dc_BR_insertLength_7 rfl (rfl : _ = 8) ?_
  refine xv_bipush hX (v := nI 127) dc_BR_insertLength_8 (by decide) (rfl : _ = 10) ?_
  refine xv_icmp_le hX (nI_toInt (by omega)) (show (nI 127).toInt = 127 by decide) (tgt := 17) (pq := 13) dc_BR_insertLength_10 (by decide) rfl (fun c10 => ?_) (fun c10 => ?_)
  · skip
    refine xv_iconst hX (v := nI 1) dc_BR_insertLength_17 (by decide) (rfl : _ = 18) ?_
    refine xv_istore_n hX [1, 2, 3, 0] dc_BR_insertLength_18 (by decide) (L' := [(0, .ref (Y.2.2.2 2)), (1, .int (nI (M0 2 1 + E.length))), (2, .int (nI (M 2 1 - (M0 2 1 + E.length)))), (3, .int (nI 1))]) rfl (rfl : _ = 19) ?_
    refine xv_iload_n hX 1 dc_BR_insertLength_19 rfl (rfl : _ = 20) ?_
    refine xv_if_lt hX (nI_toInt (by omega)) (tgt := 41) (pq := 23) dc_BR_insertLength_20 (by decide) rfl (fun c20 => ?_) (fun c20 => ?_)
    · exact absurd c20 (by omega)
    · skip
      refine xv_iload_n hX 2 dc_BR_insertLength_23 rfl (rfl : _ = 24) ?_
      refine xv_if_lt hX (nI_toInt (by omega)) (tgt := 41) (pq := 27) dc_BR_insertLength_24 (by decide) rfl (fun c24 => ?_) (fun c24 => ?_)
      · exact absurd c24 (by omega)
      · skip
        refine xv_iload_n hX 3 dc_BR_insertLength_27 rfl (rfl : _ = 28) ?_
        refine xv_aload_n hX 0 dc_BR_insertLength_28 rfl (rfl : _ = 29) ?_
        refine xv_getr hX fl_BR_9 rfl rfl (by decide) rfl dc_BR_insertLength_29 (rfl : _ = 32) ?_
        refine xv_alen hX (n := 160) rfl ⟨_, rfl⟩ (by decide) dc_BR_insertLength_32 (rfl : _ = 33) ?_
        refine xv_aload_n hX 0 dc_BR_insertLength_33 rfl (rfl : _ = 34) ?_
        refine xv_geti hX fl_BR_15 rfl rfl (by decide) (v := M 2 1) rfl dc_BR_insertLength_34 (rfl : _ = 37) ?_
        refine xv_isub hX dc_BR_insertLength_37 (pk_sub (by omega)) (rfl : _ = 38) ?_
        refine xv_icmp_le hX (show (nI 1).toInt = 1 by decide) (nI_toInt (by omega)) (tgt := 42) (pq := 41) dc_BR_insertLength_38 (by decide) rfl (fun c38 => ?_) (fun c38 => ?_)
        · skip
          rw [if_pos (by omega)] at hfit
          refine xv_aload_n hX 0 dc_BR_insertLength_42 rfl (rfl : _ = 43) ?_
          refine xv_geti hX fl_BR_15 rfl rfl (by decide) (v := M 2 1) rfl dc_BR_insertLength_43 (rfl : _ = 46) ?_
          refine xv_iconst hX (v := nI 1) dc_BR_insertLength_46 (by decide) (rfl : _ = 47) ?_
          refine xv_isub hX dc_BR_insertLength_47 (pk_sub (by omega)) (rfl : _ = 48) ?_
          refine xv_istore hX [1, 2, 3, 4, 0] dc_BR_insertLength_48 (by decide) (L' := [(0, .ref (Y.2.2.2 2)), (1, .int (nI (M0 2 1 + E.length))), (2, .int (nI (M 2 1 - (M0 2 1 + E.length)))), (3, .int (nI 1)), (4, .int (nI (M 2 1 - 1)))]) rfl (rfl : _ = 50) ?_
          have lp50 : ∀ (n : Nat) (Mk : xm_M) (k : Nat) (hk1 : (M0 2 1 + E.length) ≤ k + 1) (hk2 : k + 1 ≤ (M0 2 1 + E.length) + c.length) (h1 : ∀ j, k < j → j < (M0 2 1 + E.length) + c.length → Mk 3 (j + 1) = M 3 j) (h2 : ∀ j, j ≤ k → Mk 3 j = M 3 j) (h3 : ∀ j, (M0 2 1 + E.length) + c.length + 1 ≤ j → Mk 3 j = M 3 j) (hF2 : Mk 2 = M 2) (hF : ∀ q, q ≠ 2 → q ≠ 3 → Mk q = M q), k + 1 - (M0 2 1 + E.length) < n → xv_V X Y 5 0 0 xw_lk xw_N Mk 50 [(0, .ref (Y.2.2.2 2)), (1, .int (nI (M0 2 1 + E.length))), (2, .int (nI (M 2 1 - (M0 2 1 + E.length)))), (3, .int (nI 1)), (4, .int (nI k))] [] := by
            intro n50
            induction n50 with
            | zero => intro Mk k hk1 hk2 h1 h2 h3 hF2 hF hm50; exact absurd hm50 (Nat.not_lt_zero _)
            | succ n50 ih50 =>
              intro Mk k hk1 hk2 h1 h2 h3 hF2 hF hm50
              refine xv_iload hX 4 dc_BR_insertLength_50 rfl (rfl : _ = 52) ?_
              refine xv_iload_n hX 1 dc_BR_insertLength_52 rfl (rfl : _ = 53) ?_
              refine xv_icmp_lt hX (nI_toInt (by omega)) (nI_toInt (by omega)) (tgt := 78) (pq := 56) dc_BR_insertLength_53 (by decide) rfl (fun c53 => ?_) (fun c53 => ?_)
              · skip
                refine xv_aload_n hX 0 dc_BR_insertLength_78 rfl (rfl : _ = 79) ?_
                refine xv_dup hX dc_BR_insertLength_79 rfl (rfl : _ = 80) ?_
                refine xv_geti hX fl_BR_15 rfl rfl (by decide) (v := Mk 2 1) rfl dc_BR_insertLength_80 (rfl : _ = 83) ?_
                refine xv_iload_n hX 3 dc_BR_insertLength_83 rfl (rfl : _ = 84) ?_
                refine xv_iadd hX dc_BR_insertLength_84 (nI_add (Mk 2 1) 1) (rfl : _ = 85) ?_
                refine xv_puti hX fl_BR_15 rfl rfl (by decide) dc_BR_insertLength_85 (rfl : _ = 88) ?_
                refine xv_aload_n hX 0 dc_BR_insertLength_88 rfl (rfl : _ = 89) ?_
                refine xv_getr hX fl_BR_9 rfl rfl (by decide) rfl dc_BR_insertLength_89 (rfl : _ = 92) ?_
                refine xv_iload_n hX 1 dc_BR_insertLength_92 rfl (rfl : _ = 93) ?_
                refine xv_iload_n hX 3 dc_BR_insertLength_93 rfl (rfl : _ = 94) ?_
                refine xv_iadd hX dc_BR_insertLength_94 (nI_add (M0 2 1 + E.length) 1) (rfl : _ = 95) ?_
                refine xv_iconst hX (v := nI 1) dc_BR_insertLength_95 (by decide) (rfl : _ = 96) ?_
                refine xv_isub hX dc_BR_insertLength_96 (pk_sub (by omega)) (rfl : _ = 97) ?_
                refine xv_iload_n hX 2 dc_BR_insertLength_97 rfl (rfl : _ = 98) ?_
                refine xv_iast hX rfl (by decide) (by omega) (by decide) dc_BR_insertLength_98 (rfl : _ = 99) ?_
                refine xv_iload_n hX 3 dc_BR_insertLength_99 rfl (rfl : _ = 100) ?_
                refine xv_iconst hX (v := nI 2) dc_BR_insertLength_100 (by decide) (rfl : _ = 101) ?_
                refine xv_icmp_ne hX (show (nI 1).toInt = 1 by decide) (show (nI 2).toInt = 2 by decide) (tgt := 113) (pq := 104) dc_BR_insertLength_101 (by decide) rfl (fun c101 => ?_) (fun c101 => ?_)
                · skip
                  refine xv_retv hX hR dc_BR_insertLength_113 ?_
                  exact wr_ins (Mk := Mk) (F := (M0 2 1 + E.length)) (ls := 1) hM rfl rfl (by rw [if_pos (by omega)]) (fun j a b => h1 j (by omega) b) (fun j a => h2 j (by omega)) h3 (by rw [xm_eq]; exact hn) (fun z => absurd z (by decide)) (fun j a _ => by rw [xm_nk a, xm_np (by decide)]) (by rw [xm_np (by decide), xm_eq, hF2]; omega) (fun j a => by rw [xm_np (by decide), xm_nk a, hF2]) (fun q a b => by rw [xm_oth b, xm_oth a]; exact hF q a b)
                · skip
                  exact absurd c101 (by decide)
              · skip
                refine xv_aload_n hX 0 dc_BR_insertLength_56 rfl (rfl : _ = 57) ?_
                refine xv_getr hX fl_BR_9 rfl rfl (by decide) rfl dc_BR_insertLength_57 (rfl : _ = 60) ?_
                refine xv_iload hX 4 dc_BR_insertLength_60 rfl (rfl : _ = 62) ?_
                refine xv_iload_n hX 3 dc_BR_insertLength_62 rfl (rfl : _ = 63) ?_
                refine xv_iadd hX dc_BR_insertLength_63 (nI_add k 1) (rfl : _ = 64) ?_
                refine xv_aload_n hX 0 dc_BR_insertLength_64 rfl (rfl : _ = 65) ?_
                refine xv_getr hX fl_BR_9 rfl rfl (by decide) rfl dc_BR_insertLength_65 (rfl : _ = 68) ?_
                refine xv_iload hX 4 dc_BR_insertLength_68 rfl (rfl : _ = 70) ?_
                refine xv_iald hX rfl (by decide) (by omega) (by decide) (v := Mk 3 k) rfl dc_BR_insertLength_70 (rfl : _ = 71) ?_
                refine xv_iast hX rfl (by decide) (by omega) (by decide) dc_BR_insertLength_71 (rfl : _ = 72) ?_
                refine xv_iinc hX 4 [1, 2, 3, 4, 0] dc_BR_insertLength_72 rfl (xi_m1 (by omega)) (by decide) (L' := [(0, .ref (Y.2.2.2 2)), (1, .int (nI (M0 2 1 + E.length))), (2, .int (nI (M 2 1 - (M0 2 1 + E.length)))), (3, .int (nI 1)), (4, .int (nI (k - 1)))]) rfl (rfl : _ = 75) ?_
                refine xv_goto hX (pq := 50) dc_BR_insertLength_75 (by decide) ?_
                refine xv_sub (L' := [(0, .ref (Y.2.2.2 2)), (1, .int (nI (M0 2 1 + E.length))), (2, .int (nI (M 2 1 - (M0 2 1 + E.length)))), (3, .int (nI 1)), (4, .int (nI (k - 1)))]) [0, 1, 2, 3, 4] rfl ?_
                exact ih50 (xm_set Mk 3 (k + 1) (Mk 3 k)) (k - 1) (by omega) (by omega) (fun j a b => by by_cases hj : j = k; rw [hj, xm_eq]; exact h2 k (by omega); rw [xm_nk (by omega)]; exact h1 j (by omega) b) (fun j a => by rw [xm_nk (by omega)]; exact h2 j (by omega)) (fun j a => by rw [xm_nk (by omega)]; exact h3 j a) (by rw [xm_oth (by decide)]; exact hF2) (fun q a b => by rw [xm_oth b]; exact hF q a b) (by omega)
          refine xv_sub (L' := [(0, .ref (Y.2.2.2 2)), (1, .int (nI (M0 2 1 + E.length))), (2, .int (nI (M 2 1 - (M0 2 1 + E.length)))), (3, .int (nI 1)), (4, .int (nI (M 2 1 - 1)))]) [0, 1, 2, 3, 4] rfl ?_
          exact lp50 _ M (M 2 1 - 1) (by omega) (by omega) (fun j a b => absurd b (by omega)) (fun j a => rfl) (fun j a => rfl) rfl (fun q _ _ => rfl) (Nat.lt_succ_self _)
        · skip
          exact absurd c38 (by split at hfit <;> omega)
  · skip
    refine xv_iconst hX (v := nI 2) dc_BR_insertLength_13 (by decide) (rfl : _ = 14) ?_
    refine xv_goto hX (pq := 18) dc_BR_insertLength_14 (by decide) ?_
    refine xv_istore_n hX [1, 2, 3, 0] dc_BR_insertLength_18 (by decide) (L' := [(0, .ref (Y.2.2.2 2)), (1, .int (nI (M0 2 1 + E.length))), (2, .int (nI (M 2 1 - (M0 2 1 + E.length)))), (3, .int (nI 2))]) rfl (rfl : _ = 19) ?_
    refine xv_iload_n hX 1 dc_BR_insertLength_19 rfl (rfl : _ = 20) ?_
    refine xv_if_lt hX (nI_toInt (by omega)) (tgt := 41) (pq := 23) dc_BR_insertLength_20 (by decide) rfl (fun c20 => ?_) (fun c20 => ?_)
    · exact absurd c20 (by omega)
    · skip
      refine xv_iload_n hX 2 dc_BR_insertLength_23 rfl (rfl : _ = 24) ?_
      refine xv_if_lt hX (nI_toInt (by omega)) (tgt := 41) (pq := 27) dc_BR_insertLength_24 (by decide) rfl (fun c24 => ?_) (fun c24 => ?_)
      · exact absurd c24 (by omega)
      · skip
        refine xv_iload_n hX 3 dc_BR_insertLength_27 rfl (rfl : _ = 28) ?_
        refine xv_aload_n hX 0 dc_BR_insertLength_28 rfl (rfl : _ = 29) ?_
        refine xv_getr hX fl_BR_9 rfl rfl (by decide) rfl dc_BR_insertLength_29 (rfl : _ = 32) ?_
        refine xv_alen hX (n := 160) rfl ⟨_, rfl⟩ (by decide) dc_BR_insertLength_32 (rfl : _ = 33) ?_
        refine xv_aload_n hX 0 dc_BR_insertLength_33 rfl (rfl : _ = 34) ?_
        refine xv_geti hX fl_BR_15 rfl rfl (by decide) (v := M 2 1) rfl dc_BR_insertLength_34 (rfl : _ = 37) ?_
        refine xv_isub hX dc_BR_insertLength_37 (pk_sub (by omega)) (rfl : _ = 38) ?_
        refine xv_icmp_le hX (show (nI 2).toInt = 2 by decide) (nI_toInt (by omega)) (tgt := 42) (pq := 41) dc_BR_insertLength_38 (by decide) rfl (fun c38 => ?_) (fun c38 => ?_)
        · skip
          rw [if_neg (by omega)] at hfit
          refine xv_aload_n hX 0 dc_BR_insertLength_42 rfl (rfl : _ = 43) ?_
          refine xv_geti hX fl_BR_15 rfl rfl (by decide) (v := M 2 1) rfl dc_BR_insertLength_43 (rfl : _ = 46) ?_
          refine xv_iconst hX (v := nI 1) dc_BR_insertLength_46 (by decide) (rfl : _ = 47) ?_
          refine xv_isub hX dc_BR_insertLength_47 (pk_sub (by omega)) (rfl : _ = 48) ?_
          refine xv_istore hX [1, 2, 3, 4, 0] dc_BR_insertLength_48 (by decide) (L' := [(0, .ref (Y.2.2.2 2)), (1, .int (nI (M0 2 1 + E.length))), (2, .int (nI (M 2 1 - (M0 2 1 + E.length)))), (3, .int (nI 2)), (4, .int (nI (M 2 1 - 1)))]) rfl (rfl : _ = 50) ?_
          have lp50 : ∀ (n : Nat) (Mk : xm_M) (k : Nat) (hk1 : (M0 2 1 + E.length) ≤ k + 1) (hk2 : k + 1 ≤ (M0 2 1 + E.length) + c.length) (h1 : ∀ j, k < j → j < (M0 2 1 + E.length) + c.length → Mk 3 (j + 2) = M 3 j) (h2 : ∀ j, j ≤ k → Mk 3 j = M 3 j) (h3 : ∀ j, (M0 2 1 + E.length) + c.length + 2 ≤ j → Mk 3 j = M 3 j) (hF2 : Mk 2 = M 2) (hF : ∀ q, q ≠ 2 → q ≠ 3 → Mk q = M q), k + 1 - (M0 2 1 + E.length) < n → xv_V X Y 5 0 0 xw_lk xw_N Mk 50 [(0, .ref (Y.2.2.2 2)), (1, .int (nI (M0 2 1 + E.length))), (2, .int (nI (M 2 1 - (M0 2 1 + E.length)))), (3, .int (nI 2)), (4, .int (nI k))] [] := by
            intro n50
            induction n50 with
            | zero => intro Mk k hk1 hk2 h1 h2 h3 hF2 hF hm50; exact absurd hm50 (Nat.not_lt_zero _)
            | succ n50 ih50 =>
              intro Mk k hk1 hk2 h1 h2 h3 hF2 hF hm50
              refine xv_iload hX 4 dc_BR_insertLength_50 rfl (rfl : _ = 52) ?_
              refine xv_iload_n hX 1 dc_BR_insertLength_52 rfl (rfl : _ = 53) ?_
              refine xv_icmp_lt hX (nI_toInt (by omega)) (nI_toInt (by omega)) (tgt := 78) (pq := 56) dc_BR_insertLength_53 (by decide) rfl (fun c53 => ?_) (fun c53 => ?_)
              · skip
                refine xv_aload_n hX 0 dc_BR_insertLength_78 rfl (rfl : _ = 79) ?_
                refine xv_dup hX dc_BR_insertLength_79 rfl (rfl : _ = 80) ?_
                refine xv_geti hX fl_BR_15 rfl rfl (by decide) (v := Mk 2 1) rfl dc_BR_insertLength_80 (rfl : _ = 83) ?_
                refine xv_iload_n hX 3 dc_BR_insertLength_83 rfl (rfl : _ = 84) ?_
                refine xv_iadd hX dc_BR_insertLength_84 (nI_add (Mk 2 1) 2) (rfl : _ = 85) ?_
                refine xv_puti hX fl_BR_15 rfl rfl (by decide) dc_BR_insertLength_85 (rfl : _ = 88) ?_
                refine xv_aload_n hX 0 dc_BR_insertLength_88 rfl (rfl : _ = 89) ?_
                refine xv_getr hX fl_BR_9 rfl rfl (by decide) rfl dc_BR_insertLength_89 (rfl : _ = 92) ?_
                refine xv_iload_n hX 1 dc_BR_insertLength_92 rfl (rfl : _ = 93) ?_
                refine xv_iload_n hX 3 dc_BR_insertLength_93 rfl (rfl : _ = 94) ?_
                refine xv_iadd hX dc_BR_insertLength_94 (nI_add (M0 2 1 + E.length) 2) (rfl : _ = 95) ?_
                refine xv_iconst hX (v := nI 1) dc_BR_insertLength_95 (by decide) (rfl : _ = 96) ?_
                refine xv_isub hX dc_BR_insertLength_96 (pk_sub (by omega)) (rfl : _ = 97) ?_
                refine xv_iload_n hX 2 dc_BR_insertLength_97 rfl (rfl : _ = 98) ?_
                refine xv_iast hX rfl (by decide) (by omega) (by decide) dc_BR_insertLength_98 (rfl : _ = 99) ?_
                refine xv_iload_n hX 3 dc_BR_insertLength_99 rfl (rfl : _ = 100) ?_
                refine xv_iconst hX (v := nI 2) dc_BR_insertLength_100 (by decide) (rfl : _ = 101) ?_
                refine xv_icmp_ne hX (show (nI 2).toInt = 2 by decide) (show (nI 2).toInt = 2 by decide) (tgt := 113) (pq := 104) dc_BR_insertLength_101 (by decide) rfl (fun c101 => ?_) (fun c101 => ?_)
                · skip
                  exact absurd c101 (by decide)
                · skip
                  refine xv_aload_n hX 0 dc_BR_insertLength_104 rfl (rfl : _ = 105) ?_
                  refine xv_getr hX fl_BR_9 rfl rfl (by decide) rfl dc_BR_insertLength_105 (rfl : _ = 108) ?_
                  refine xv_iload_n hX 1 dc_BR_insertLength_108 rfl (rfl : _ = 109) ?_
                  refine xv_sipush hX (v := nI 129) dc_BR_insertLength_109 (by decide) (rfl : _ = 112) ?_
                  refine xv_iast hX rfl (by decide) (by omega) (by decide) dc_BR_insertLength_112 (rfl : _ = 113) ?_
                  refine xv_retv hX hR dc_BR_insertLength_113 ?_
                  exact wr_ins (Mk := Mk) (F := (M0 2 1 + E.length)) (ls := 2) hM rfl rfl (by rw [if_neg (by omega)]) (fun j a b => h1 j (by omega) b) (fun j a => h2 j (by omega)) h3 (by rw [xm_nk (by omega), xm_eq]; exact hn) (fun _ => xm_eq) (fun j a b => by rw [xm_nk (b rfl), xm_nk a, xm_np (by decide)]) (by rw [xm_np (by decide), xm_np (by decide), xm_eq, hF2]; omega) (fun j a => by rw [xm_np (by decide), xm_np (by decide), xm_nk a, hF2]) (fun q a b => by rw [xm_oth b, xm_oth b, xm_oth a]; exact hF q a b)
              · skip
                refine xv_aload_n hX 0 dc_BR_insertLength_56 rfl (rfl : _ = 57) ?_
                refine xv_getr hX fl_BR_9 rfl rfl (by decide) rfl dc_BR_insertLength_57 (rfl : _ = 60) ?_
                refine xv_iload hX 4 dc_BR_insertLength_60 rfl (rfl : _ = 62) ?_
                refine xv_iload_n hX 3 dc_BR_insertLength_62 rfl (rfl : _ = 63) ?_
                refine xv_iadd hX dc_BR_insertLength_63 (nI_add k 2) (rfl : _ = 64) ?_
                refine xv_aload_n hX 0 dc_BR_insertLength_64 rfl (rfl : _ = 65) ?_
                refine xv_getr hX fl_BR_9 rfl rfl (by decide) rfl dc_BR_insertLength_65 (rfl : _ = 68) ?_
                refine xv_iload hX 4 dc_BR_insertLength_68 rfl (rfl : _ = 70) ?_
                refine xv_iald hX rfl (by decide) (by omega) (by decide) (v := Mk 3 k) rfl dc_BR_insertLength_70 (rfl : _ = 71) ?_
                refine xv_iast hX rfl (by decide) (by omega) (by decide) dc_BR_insertLength_71 (rfl : _ = 72) ?_
                refine xv_iinc hX 4 [1, 2, 3, 4, 0] dc_BR_insertLength_72 rfl (xi_m1 (by omega)) (by decide) (L' := [(0, .ref (Y.2.2.2 2)), (1, .int (nI (M0 2 1 + E.length))), (2, .int (nI (M 2 1 - (M0 2 1 + E.length)))), (3, .int (nI 2)), (4, .int (nI (k - 1)))]) rfl (rfl : _ = 75) ?_
                refine xv_goto hX (pq := 50) dc_BR_insertLength_75 (by decide) ?_
                refine xv_sub (L' := [(0, .ref (Y.2.2.2 2)), (1, .int (nI (M0 2 1 + E.length))), (2, .int (nI (M 2 1 - (M0 2 1 + E.length)))), (3, .int (nI 2)), (4, .int (nI (k - 1)))]) [0, 1, 2, 3, 4] rfl ?_
                exact ih50 (xm_set Mk 3 (k + 2) (Mk 3 k)) (k - 1) (by omega) (by omega) (fun j a b => by by_cases hj : j = k; rw [hj, xm_eq]; exact h2 k (by omega); rw [xm_nk (by omega)]; exact h1 j (by omega) b) (fun j a => by rw [xm_nk (by omega)]; exact h2 j (by omega)) (fun j a => by rw [xm_nk (by omega)]; exact h3 j a) (by rw [xm_oth (by decide)]; exact hF2) (fun q a b => by rw [xm_oth b]; exact hF q a b) (by omega)
          refine xv_sub (L' := [(0, .ref (Y.2.2.2 2)), (1, .int (nI (M0 2 1 + E.length))), (2, .int (nI (M 2 1 - (M0 2 1 + E.length)))), (3, .int (nI 2)), (4, .int (nI (M 2 1 - 1)))]) [0, 1, 2, 3, 4] rfl ?_
          exact lp50 _ M (M 2 1 - 1) (by omega) (by omega) (fun j a b => absurd b (by omega)) (fun j a => rfl) (fun j a => rfl) rfl (fun q _ _ => rfl) (Nat.lt_succ_self _)
        · skip
          exact absurd c38 (by split at hfit <;> omega)
