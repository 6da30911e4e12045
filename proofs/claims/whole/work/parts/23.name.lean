/-! Name: within, same, read -/
/-- the name at p is within the name at q -/
def nm_wi (M : xm_M) (p q : Nat) : Prop := M q 1 ≤ M p 1 ∧ ∀ m, m < M q 1 → M (p + 1) m = M (q + 1) m

set_option maxRecDepth 100000 in
set_option maxHeartbeats 4000000 in
theorem ct_NM_isWithin (l : Launch) (Y : xw_Y) (M : xm_M) (p q : Nat) (hp : xk_nm p) (hq : xk_nm q) (h1 : M p 1 ≤ 4) (h2 : M q 1 ≤ 4) (b1 : ∀ m, m < M p 1 → M (p + 1) m < 18446744073709551616) (b2 : ∀ m, m < M q 1 → M (q + 1) m < 18446744073709551616) : xc_i l qm_NM_isWithin 0 Y [.ref (Y.2.2.2 p), .ref (Y.2.2.2 q)] M (fun r M1 => M1 = M ∧ ∃ t : Nat, r = nI t ∧ t < 2 ∧ (t = 1 ↔ nm_wi M p q)) := by
  refine xc_i.mk .boolean rfl (by decide) (Nat.le_of_ble_eq_true rfl) ?_
  intro X hXl hX hR
  subst hXl
  have hX : xv_ok X Y prog_5_method_2_code "CertificatePath$Name" 3 (xc_rm 0) := hX
  show xv_V X Y 3 0 0 xw_lk xw_N M 0 [(0, .ref (Y.2.2.2 p)), (1, .ref (Y.2.2.2 q))] []
  refine xv_aload_n hX 0 dc_NM_isWithin_0 rfl (rfl : _ = 1) ?_
  refine xv_geti hX fl_NM_15 rfl hp.1 (xk_N (Nat.lt_of_succ_lt hp.2.2.2.2)) (v := M p 1) rfl dc_NM_isWithin_1 (rfl : _ = 4) ?_
  refine xv_aload_n hX 1 dc_NM_isWithin_4 rfl (rfl : _ = 5) ?_
  refine xv_geti hX fl_NM_15 rfl hq.1 (xk_N (Nat.lt_of_succ_lt hq.2.2.2.2)) (v := M q 1) rfl dc_NM_isWithin_5 (rfl : _ = 8) ?_
  refine xv_icmp_ge hX (nI_toInt (by omega)) (nI_toInt (by omega)) (tgt := 13) (pq := 11) dc_NM_isWithin_8 (by decide) rfl (fun c8 => ?_) (fun c8 => ?_)
  · skip
    refine xv_iconst hX (v := nI 0) dc_NM_isWithin_13 (by decide) (rfl : _ = 14) ?_
    refine xv_istore_n hX [1, 2, 0] dc_NM_isWithin_14 (by decide) (L' := [(0, .ref (Y.2.2.2 p)), (1, .ref (Y.2.2.2 q)), (2, .int (nI 0))]) rfl (rfl : _ = 15) ?_
    have lp15 : ∀ (n : Nat) (k : Nat) (hk : k ≤ M q 1) (he : ∀ m, m < k → M (p + 1) m = M (q + 1) m), M q 1 - k < n → xv_V X Y 3 0 0 xw_lk xw_N M 15 [(0, .ref (Y.2.2.2 p)), (1, .ref (Y.2.2.2 q)), (2, .int (nI k))] [] := by
      intro n15
      induction n15 with
      | zero => intro k hk he hm15; exact absurd hm15 (Nat.not_lt_zero _)
      | succ n15 ih15 =>
        intro k hk he hm15
        refine xv_iload_n hX 2 dc_NM_isWithin_15 rfl (rfl : _ = 16) ?_
        refine xv_aload_n hX 1 dc_NM_isWithin_16 rfl (rfl : _ = 17) ?_
        refine xv_geti hX fl_NM_15 rfl hq.1 (xk_N (Nat.lt_of_succ_lt hq.2.2.2.2)) (v := M q 1) rfl dc_NM_isWithin_17 (rfl : _ = 20) ?_
        refine xv_icmp_ge hX (nI_toInt (by omega)) (nI_toInt (by omega)) (tgt := 47) (pq := 23) dc_NM_isWithin_20 (by decide) rfl (fun c20 => ?_) (fun c20 => ?_)
        · skip
          refine xv_iconst hX (v := nI 1) dc_NM_isWithin_47 (by decide) (rfl : _ = 48) ?_
          refine xv_reti hX hR (by decide) dc_NM_isWithin_48 ?_
          exact ⟨rfl, 1, rfl, by decide, fun _ => ⟨by omega, fun m hm => he m (by omega)⟩, fun _ => rfl⟩
        · skip
          refine xv_aload_n hX 0 dc_NM_isWithin_23 rfl (rfl : _ = 24) ?_
          refine xv_getr hX fl_NM_9 rfl hp.1 (xk_N (Nat.lt_of_succ_lt hp.2.2.2.2)) hp.2.2.1 dc_NM_isWithin_24 (rfl : _ = 27) ?_
          refine xv_iload_n hX 2 dc_NM_isWithin_27 rfl (rfl : _ = 28) ?_
          refine xv_lald hX hp.2.1 (xk_N hp.2.2.2.2) (by omega) (by decide) (v := M (p + 1) k) rfl dc_NM_isWithin_28 (rfl : _ = 29) ?_
          refine xv_aload_n hX 1 dc_NM_isWithin_29 rfl (rfl : _ = 30) ?_
          refine xv_getr hX fl_NM_9 rfl hq.1 (xk_N (Nat.lt_of_succ_lt hq.2.2.2.2)) hq.2.2.1 dc_NM_isWithin_30 (rfl : _ = 33) ?_
          refine xv_iload_n hX 2 dc_NM_isWithin_33 rfl (rfl : _ = 34) ?_
          refine xv_lald hX hq.2.1 (xk_N hq.2.2.2.2) (by omega) (by decide) (v := M (q + 1) k) rfl dc_NM_isWithin_34 (rfl : _ = 35) ?_
          have hb1 := b1 k (by omega)
          have hb2 := b2 k (by omega)
          refine xv_lcmp hX dc_NM_isWithin_35 (rfl : _ = 36) ?_
          refine xv_if_eq hX (rfl : (lg_cmp (lN (M (p + 1) k)) (lN (M (q + 1) k))).toInt = _) (tgt := 41) (pq := 39) dc_NM_isWithin_36 (by decide) rfl (fun c36 => ?_) (fun c36 => ?_)
          · skip
            have c36 : M (p + 1) k = M (q + 1) k := (xi_lcmp hb1 hb2).mp c36
            refine xv_iinc hX 2 [1, 2, 0] dc_NM_isWithin_41 rfl (xi_inc k 1) (by decide) (L' := [(0, .ref (Y.2.2.2 p)), (1, .ref (Y.2.2.2 q)), (2, .int (nI (k + 1)))]) rfl (rfl : _ = 44) ?_
            refine xv_goto hX (pq := 15) dc_NM_isWithin_44 (by decide) ?_
            refine xv_sub (L' := [(0, .ref (Y.2.2.2 p)), (1, .ref (Y.2.2.2 q)), (2, .int (nI (k + 1)))]) [0, 1, 2] rfl ?_
            exact ih15 (k + 1) (by omega) (fun m hm => by rcases Nat.lt_or_eq_of_le (Nat.le_of_lt_succ hm) with h | h; exact he m h; rw [h]; exact c36) (by omega)
          · skip
            have c36 : M (p + 1) k ≠ M (q + 1) k := fun h => c36 ((xi_lcmp hb1 hb2).mpr h)
            refine xv_iconst hX (v := nI 0) dc_NM_isWithin_39 (by decide) (rfl : _ = 40) ?_
            refine xv_reti hX hR (by decide) dc_NM_isWithin_40 ?_
            exact ⟨rfl, 0, rfl, by decide, by simp, fun h => absurd (h.2 k (by omega)) c36⟩
    refine xv_sub (L' := [(0, .ref (Y.2.2.2 p)), (1, .ref (Y.2.2.2 q)), (2, .int (nI 0))]) [0, 1, 2] rfl ?_
    exact lp15 _ 0 (Nat.zero_le _) (fun m hm => absurd hm (Nat.not_lt_zero _)) (Nat.lt_succ_self _)
  · skip
    refine xv_iconst hX (v := nI 0) dc_NM_isWithin_11 (by decide) (rfl : _ = 12) ?_
    refine xv_reti hX hR (by decide) dc_NM_isWithin_12 ?_
    exact ⟨rfl, 0, rfl, by decide, by simp, fun h => absurd h.1 (by omega)⟩

set_option maxRecDepth 100000 in
set_option maxHeartbeats 4000000 in
theorem ct_NM_isSameAs (l : Launch) (Y : xw_Y) (M : xm_M) (p q : Nat) (hp : xk_nm p) (hq : xk_nm q) (h1 : M p 1 ≤ 4) (h2 : M q 1 ≤ 4) (b1 : ∀ m, m < M p 1 → M (p + 1) m < 18446744073709551616) (b2 : ∀ m, m < M q 1 → M (q + 1) m < 18446744073709551616) : xc_i l qm_NM_isSameAs 1 Y [.ref (Y.2.2.2 p), .ref (Y.2.2.2 q)] M (fun r M1 => M1 = M ∧ ∃ t : Nat, r = nI t ∧ t < 2 ∧ (t = 1 ↔ M p 1 = M q 1 ∧ nm_wi M p q)) := by
  refine xc_i.mk .boolean rfl (by decide) (Nat.le_of_ble_eq_true rfl) ?_
  intro X hXl hX hR
  subst hXl
  have hX : xv_ok X Y prog_5_method_3_code "CertificatePath$Name" 2 (xc_rm 1) := hX
  show xv_V X Y 2 0 0 xw_lk xw_N M 0 [(0, .ref (Y.2.2.2 p)), (1, .ref (Y.2.2.2 q))] []
  refine xv_aload_n hX 0 dc_NM_isSameAs_0 rfl (rfl : _ = 1) ?_
  refine xv_geti hX fl_NM_15 rfl hp.1 (xk_N (Nat.lt_of_succ_lt hp.2.2.2.2)) (v := M p 1) rfl dc_NM_isSameAs_1 (rfl : _ = 4) ?_
  refine xv_aload_n hX 1 dc_NM_isSameAs_4 rfl (rfl : _ = 5) ?_
  refine xv_geti hX fl_NM_15 rfl hq.1 (xk_N (Nat.lt_of_succ_lt hq.2.2.2.2)) (v := M q 1) rfl dc_NM_isSameAs_5 (rfl : _ = 8) ?_
  refine xv_icmp_ne hX (nI_toInt (by omega)) (nI_toInt (by omega)) (tgt := 23) (pq := 11) dc_NM_isSameAs_8 (by decide) rfl (fun c8 => ?_) (fun c8 => ?_)
  · skip
    refine xv_iconst hX (v := nI 0) dc_NM_isSameAs_23 (by decide) (rfl : _ = 24) ?_
    refine xv_reti hX hR (by decide) dc_NM_isSameAs_24 ?_
    first
    | exact ⟨rfl, 0, rfl, by decide, by simp, fun h => absurd h.1 (by omega)⟩
    | exact ⟨rfl, 0, rfl, by decide, by simp, fun h => absurd (pi.mpr h.2) (by omega)⟩
  · skip
    refine xv_aload_n hX 0 dc_NM_isSameAs_11 rfl (rfl : _ = 12) ?_
    refine xv_aload_n hX 1 dc_NM_isSameAs_12 rfl (rfl : _ = 13) ?_
    refine xv_calli hX (As := [.ref (Y.2.2.2 q)]) (rest := []) (ct_NM_isWithin _ Y M p q hp hq h1 h2 b1 b2) ml_NM_19 li_NM_isWithin hp.1 (xk_N (Nat.lt_of_succ_lt hp.2.2.2.2)) rfl rfl rfl (by decide) ⟨by decide, by decide⟩ ⟨Nat.le_refl _, Nat.le_refl _⟩ (Nat.le_of_ble_eq_true rfl) dc_NM_isSameAs_13 (rfl : _ = 16) (fun r13 M13 p13 => ?_)
    obtain ⟨pM, t, pr, pt, pi⟩ := p13
    rw [pM, pr]
    refine xv_if_eq hX (nI_toInt (by omega)) (tgt := 23) (pq := 19) dc_NM_isSameAs_16 (by decide) rfl (fun c16 => ?_) (fun c16 => ?_)
    · skip
      refine xv_iconst hX (v := nI 0) dc_NM_isSameAs_23 (by decide) (rfl : _ = 24) ?_
      refine xv_reti hX hR (by decide) dc_NM_isSameAs_24 ?_
      first
      | exact ⟨rfl, 0, rfl, by decide, by simp, fun h => absurd h.1 (by omega)⟩
      | exact ⟨rfl, 0, rfl, by decide, by simp, fun h => absurd (pi.mpr h.2) (by omega)⟩
    · skip
      refine xv_iconst hX (v := nI 1) dc_NM_isSameAs_19 (by decide) (rfl : _ = 20) ?_
      refine xv_goto hX (pq := 24) dc_NM_isSameAs_20 (by decide) ?_
      refine xv_reti hX hR (by decide) dc_NM_isSameAs_24 ?_
      exact ⟨rfl, 1, rfl, by decide, fun _ => ⟨by omega, pi.mp (by omega)⟩, fun _ => rfl⟩

set_option maxRecDepth 100000 in
set_option maxHeartbeats 4000000 in
theorem ct_NM_readFrom (l : Launch) (Y : xw_Y) (M : xm_M) (p : Nat) (hp : xk_nm p) (hI : rd_I M) (hd : rd_D 2 (rd_of M)) : xc_v l qm_NM_readFrom 1 Y [.ref (Y.2.2.2 p), .ref (Y.2.2.2 1)] M (fun M1 => rd_I M1 ∧ nm_F p M M1 ∧ M1 p 1 ≤ 4 ∧ ((rd_of M1 = none ∧ rd_run (ps_name (M 3)) (rd_of M) = none) ∨ ∃ x s, rd_run (ps_name (M 3)) (rd_of M) = some (x, s) ∧ rd_of M1 = some s ∧ nm_is M1 p x)) := by
  refine xc_v.mk rfl (by decide) (Nat.le_of_ble_eq_true rfl) ?_
  intro X hXl hX hR
  subst hXl
  have hX : xv_ok X Y prog_5_method_4_code "CertificatePath$Name" 6 (xc_rm 1) := hX
  show xv_V X Y 6 0 0 xw_lk xw_N M 0 [(0, .ref (Y.2.2.2 p)), (1, .ref (Y.2.2.2 1))] []
  have hp6 := hp.2.2.2.1
  have hc0 : ∀ q, q < 6 → (xm_set M p 1 0) q = M q := fun q hq => xm_oth (by omega)
  have hI0 : rd_I (xm_set M p 1 0) := hI.cg hc0
  have ho0 : rd_of (xm_set M p 1 0) = rd_of M := rd_of_cg hc0
  refine xv_aload_n hX 0 dc_NM_readFrom_0 rfl (rfl : _ = 1) ?_
  refine xv_iconst hX (v := nI 0) dc_NM_readFrom_1 (by decide) (rfl : _ = 2) ?_
  refine xv_puti hX fl_NM_15 rfl hp.1 (xk_N (Nat.lt_of_succ_lt hp.2.2.2.2)) dc_NM_readFrom_2 (rfl : _ = 5) ?_
  refine xv_aload_n hX 1 dc_NM_readFrom_5 rfl (rfl : _ = 6) ?_
  refine xv_bipush hX (v := nI 48) dc_NM_readFrom_6 (by decide) (rfl : _ = 8) ?_
  refine xv_callv hX (As := [.int (nI 48)]) (rest := []) (ct_RD_open _ Y (xm_set M p 1 0) 48 hI0 (by decide)) ml_NM_23 li_RD_open rfl (by decide) rfl rfl rfl (by decide) ⟨by decide, by decide⟩ ⟨Nat.le_refl _, Nat.le_refl _⟩ (Nat.le_of_ble_eq_true rfl) dc_NM_readFrom_8 (rfl : _ = 11) (fun M8 p8 => ?_)
  obtain ⟨i8, f8, e8⟩ := p8
  rw [ho0, hc0 3 (by decide)] at e8
  have lpO : ∀ (n : Nat) (Mk : xm_M) (k : Nat) (hk : k ≤ 4) (hk1 : Mk p 1 = k) (hIk : rd_I Mk) (hF : nm_F p M Mk) (hO : nm_O (M 3) (rd_run (ps_name (M 3)) (rd_of M)) (Mk (p + 1)) (rd_of Mk) k), 4 - k < n → xv_V X Y 6 0 0 xw_lk xw_N Mk 11 [(0, .ref (Y.2.2.2 p)), (1, .ref (Y.2.2.2 1))] [] := by
    intro n11
    induction n11 with
    | zero => intro Mk k hk hk1 hIk hF hO hm11; exact absurd hm11 (Nat.not_lt_zero _)
    | succ n11 ih11 =>
      intro Mk k hk hk1 hIk hF hO hm11
      refine xv_aload_n hX 0 dc_NM_readFrom_11 rfl (rfl : _ = 12) ?_
      refine xv_geti hX fl_NM_15 rfl hp.1 (xk_N (Nat.lt_of_succ_lt hp.2.2.2.2)) (v := Mk p 1) rfl dc_NM_readFrom_12 (rfl : _ = 15) ?_
      refine xv_aload_n hX 0 dc_NM_readFrom_15 rfl (rfl : _ = 16) ?_
      refine xv_getr hX fl_NM_9 rfl hp.1 (xk_N (Nat.lt_of_succ_lt hp.2.2.2.2)) hp.2.2.1 dc_NM_readFrom_16 (rfl : _ = 19) ?_
      refine xv_alen hX (n := 4) hp.2.1 ⟨_, rfl⟩ (xk_N hp.2.2.2.2) dc_NM_readFrom_19 (rfl : _ = 20) ?_
      refine xv_icmp_ge hX (nI_toInt (by omega)) (show (nI 4).toInt = 4 by decide) (tgt := 131) (pq := 23) dc_NM_readFrom_20 (by decide) rfl (fun c20 => ?_) (fun c20 => ?_)
      · skip
        refine xv_aload_n hX 1 dc_NM_readFrom_131 rfl (rfl : _ = 132) ?_
        refine xv_callv hX (As := []) (rest := []) (ct_RD_close _ Y Mk hIk) ml_NM_39 li_RD_close rfl (by decide) rfl rfl rfl (by decide) ⟨by decide, by decide⟩ ⟨Nat.le_refl _, Nat.le_refl _⟩ (Nat.le_of_ble_eq_true rfl) dc_NM_readFrom_132 (rfl : _ = 135) (fun M132 p132 => ?_)
        obtain ⟨i132, f132, e132⟩ := p132
        refine xv_retv hX hR dc_NM_readFrom_135 ?_
        have hx := nm_O2 hO (by omega) hk (fun i l ls h => (rd_at_le hIk h).1)
        rw [← e132] at hx
        refine ⟨i132, hF.tr (nm_F.of f132), by rw [f132 p (by omega) (by omega)]; omega, ?_⟩
        rcases hx with h | ⟨x, j, h1, h2, h3, h4⟩
        · exact Or.inl h
        · exact Or.inr ⟨x, j, h1, h2, by rw [f132 p (by omega) (by omega)]; omega, fun q hq => by rw [f132 (p + 1) (by omega) (by omega)]; exact h4 q (by omega)⟩
      · skip
        refine xv_aload_n hX 1 dc_NM_readFrom_23 rfl (rfl : _ = 24) ?_
        refine xv_calli hX (As := []) (rest := []) (ct_RD_remaining _ Y Mk hIk) ml_NM_29 li_RD_remaining rfl (by decide) rfl rfl rfl (by decide) ⟨by decide, by decide⟩ ⟨Nat.le_refl _, Nat.le_refl _⟩ (Nat.le_of_ble_eq_true rfl) dc_NM_readFrom_24 (rfl : _ = 27) (fun r24 M24 p24 => ?_)
        rw [p24.1, p24.2]
        have hn := rd_rem_le hIk
        refine xv_if_le hX (nI_toInt (by omega)) (tgt := 131) (pq := 30) dc_NM_readFrom_27 (by decide) rfl (fun c27 => ?_) (fun c27 => ?_)
        · skip
          refine xv_aload_n hX 1 dc_NM_readFrom_131 rfl (rfl : _ = 132) ?_
          refine xv_callv hX (As := []) (rest := []) (ct_RD_close _ Y Mk hIk) ml_NM_39 li_RD_close rfl (by decide) rfl rfl rfl (by decide) ⟨by decide, by decide⟩ ⟨Nat.le_refl _, Nat.le_refl _⟩ (Nat.le_of_ble_eq_true rfl) dc_NM_readFrom_132 (rfl : _ = 135) (fun M132 p132 => ?_)
          obtain ⟨i132, f132, e132⟩ := p132
          refine xv_retv hX hR dc_NM_readFrom_135 ?_
          have hx := nm_O2 hO (by omega) hk (fun i l ls h => (rd_at_le hIk h).1)
          rw [← e132] at hx
          refine ⟨i132, hF.tr (nm_F.of f132), by rw [f132 p (by omega) (by omega)]; omega, ?_⟩
          rcases hx with h | ⟨x, j, h1, h2, h3, h4⟩
          · exact Or.inl h
          · exact Or.inr ⟨x, j, h1, h2, by rw [f132 p (by omega) (by omega)]; omega, fun q hq => by rw [f132 (p + 1) (by omega) (by omega)]; exact h4 q (by omega)⟩
        · skip
          rcases id hO with ⟨h0, -⟩ | ⟨i, e, m, L, pre, hs, hL, hpl, hf, hXX⟩
          · exact absurd c27 (by rw [h0]; simp [rd_rem])
          have hie : i < e := by rw [hs] at c27; simp only [rd_rem] at c27; omega
          have bk : Mk 3 = M 3 := hF 3 (by decide) (by decide) (by omega) (by omega)
          refine xv_aload_n hX 1 dc_NM_readFrom_30 rfl (rfl : _ = 31) ?_
          refine xv_bipush hX (v := nI 19) dc_NM_readFrom_31 (by decide) (rfl : _ = 33) ?_
          refine xv_callv hX (As := [.int (nI 19)]) (rest := []) (ct_RD_open _ Y Mk 19 hIk (by decide)) ml_NM_23 li_RD_open rfl (by decide) rfl rfl rfl (by decide) ⟨by decide, by decide⟩ ⟨Nat.le_refl _, Nat.le_refl _⟩ (Nat.le_of_ble_eq_true rfl) dc_NM_readFrom_33 (rfl : _ = 36) (fun M33 p33 => ?_)
          obtain ⟨i33, f33, e33⟩ := p33
          rw [hs, bk] at e33
          have hJ0 := nm_J0 (b := M 3) (i := i) (e := e) (L := m :: L) (by simp only [List.length_cons]; omega)
          rw [← e33] at hJ0
          refine xv_lconst hX (v := lN 0) dc_NM_readFrom_36 rfl (rfl : _ = 37) ?_
          refine xv_lstore_n hX [1, 2, 0] dc_NM_readFrom_37 (by decide) (L' := [(0, .ref (Y.2.2.2 p)), (1, .ref (Y.2.2.2 1)), (2, .long (lN 0))]) rfl (rfl : _ = 38) ?_
          refine xv_iconst hX (v := nI 0) dc_NM_readFrom_38 (by decide) (rfl : _ = 39) ?_
          refine xv_istore hX [1, 2, 3, 0] dc_NM_readFrom_39 (by decide) (L' := [(0, .ref (Y.2.2.2 p)), (1, .ref (Y.2.2.2 1)), (2, .long (lN 0)), (4, .int (nI 0))]) rfl (rfl : _ = 41) ?_
          have lpI : ∀ (n : Nat) (Mt : xm_M) (v : Nat) (t : Nat) (ht : t ≤ 8) (hIt : rd_I Mt) (hFt : rd_F Mk Mt) (hJ : nm_J (M 3) i e (m :: L) (rd_of Mt) v t) (hv : v < 256 ^ t), 8 - t < n → xv_V X Y 6 0 0 xw_lk xw_N Mt 41 [(0, .ref (Y.2.2.2 p)), (1, .ref (Y.2.2.2 1)), (2, .long (lN v)), (4, .int (nI t))] [] := by
            intro n41
            induction n41 with
            | zero => intro Mt v t ht hIt hFt hJ hv hm41; exact absurd hm41 (Nat.not_lt_zero _)
            | succ n41 ih41 =>
              intro Mt v t ht hIt hFt hJ hv hm41
              refine xv_iload hX 3 dc_NM_readFrom_41 rfl (rfl : _ = 43) ?_
              refine xv_bipush hX (v := nI 8) dc_NM_readFrom_43 (by decide) (rfl : _ = 45) ?_
              refine xv_icmp_ge hX (nI_toInt (by omega)) (show (nI 8).toInt = 8 by decide) (tgt := 94) (pq := 48) dc_NM_readFrom_45 (by decide) rfl (fun c45 => ?_) (fun c45 => ?_)
              · skip
                refine xv_lload_n hX 2 dc_NM_readFrom_94 rfl (rfl : _ = 95) ?_
                refine xv_lconst hX (v := lN 0) dc_NM_readFrom_95 rfl (rfl : _ = 96) ?_
                have hv64 := xi_pow8 hv ht
                refine xv_lcmp hX dc_NM_readFrom_96 (rfl : _ = 97) ?_
                refine xv_if_ne hX (rfl : (lg_cmp (lN v) (lN 0)).toInt = _) (tgt := 104) (pq := 100) dc_NM_readFrom_97 (by decide) rfl (fun c97 => ?_) (fun c97 => ?_)
                · skip
                  have c97 : v ≠ 0 := fun h => c97 ((xi_lcmp hv64 (by decide)).mpr h)
                  refine xv_aload_n hX 1 dc_NM_readFrom_104 rfl (rfl : _ = 105) ?_
                  refine xv_callv hX (As := []) (rest := []) (ct_RD_close _ Y Mt hIt) ml_NM_39 li_RD_close rfl (by decide) rfl rfl rfl (by decide) ⟨by decide, by decide⟩ ⟨Nat.le_refl _, Nat.le_refl _⟩ (Nat.le_of_ble_eq_true rfl) dc_NM_readFrom_105 (rfl : _ = 108) (fun M105 p105 => ?_)
                  obtain ⟨i105, f105, e105⟩ := p105
                  have fc : rd_F Mk M105 := hFt.tr f105
                  have e9 : rd_of M105 = rd_close (if v = 0 then none else rd_of Mt) := by rw [e105, if_neg (by omega)]
                  have hz : M105 p 1 = k := by rw [fc p (by omega) (by omega)]; exact hk1
                  have hJ3 := nm_J3 hJ (by omega) ht (s' := if v = 0 then none else rd_of Mt) rfl
                  rw [← e9] at hJ3
                  refine xv_aload_n hX 0 dc_NM_readFrom_108 rfl (rfl : _ = 109) ?_
                  refine xv_getr hX fl_NM_9 rfl hp.1 (xk_N (Nat.lt_of_succ_lt hp.2.2.2.2)) hp.2.2.1 dc_NM_readFrom_109 (rfl : _ = 112) ?_
                  refine xv_aload_n hX 0 dc_NM_readFrom_112 rfl (rfl : _ = 113) ?_
                  refine xv_geti hX fl_NM_15 rfl hp.1 (xk_N (Nat.lt_of_succ_lt hp.2.2.2.2)) (v := M105 p 1) rfl dc_NM_readFrom_113 (rfl : _ = 116) ?_
                  refine xv_lload_n hX 2 dc_NM_readFrom_116 rfl (rfl : _ = 117) ?_
                  refine xv_last hX hp.2.1 (xk_N hp.2.2.2.2) (by omega) (by decide) dc_NM_readFrom_117 (rfl : _ = 118) ?_
                  refine xv_aload_n hX 0 dc_NM_readFrom_118 rfl (rfl : _ = 119) ?_
                  refine xv_dup hX dc_NM_readFrom_119 rfl (rfl : _ = 120) ?_
                  refine xv_geti hX fl_NM_15 rfl hp.1 (xk_N (Nat.lt_of_succ_lt hp.2.2.2.2)) (v := M105 p 1) (xm_np (by omega)) dc_NM_readFrom_120 (rfl : _ = 123) ?_
                  refine xv_iconst hX (v := nI 1) dc_NM_readFrom_123 (by decide) (rfl : _ = 124) ?_
                  refine xv_iadd hX dc_NM_readFrom_124 (nI_add (M105 p 1) 1) (rfl : _ = 125) ?_
                  refine xv_puti hX fl_NM_15 rfl hp.1 (xk_N (Nat.lt_of_succ_lt hp.2.2.2.2)) dc_NM_readFrom_125 (rfl : _ = 128) ?_
                  have hc9 : ∀ q, q < 6 → (xm_set (xm_set M105 (p + 1) (M105 p 1) v) p 1 (M105 p 1 + 1)) q = M105 q := fun q hq => by rw [xm_oth (by omega), xm_oth (by omega)]
                  refine xv_goto hX (pq := 11) dc_NM_readFrom_128 (by decide) ?_
                  refine xv_sub (L' := [(0, .ref (Y.2.2.2 p)), (1, .ref (Y.2.2.2 1))]) [0, 1] rfl ?_
                  exact ih11 (xm_set (xm_set M105 (p + 1) (M105 p 1) v) p 1 (M105 p 1 + 1)) (k + 1) (by omega) (by rw [xm_eq, hz]) (i105.cg hc9) (fun q h1 h2 h3 h4 => by rw [xm_oth h3, xm_oth h4, fc q h1 h2]; exact hF q h1 h2 h3 h4) (by rw [rd_of_cg hc9]; exact nm_O1 hL hpl hf hXX (by omega) hie (v := v) (fun q hq => by rw [xm_oth (show p + 1 ≠ p by omega), xm_row, hz, fc (p + 1) (by omega) (by omega)]) hJ3) (by omega)
                · skip
                  have c97 : v = 0 := (xi_lcmp hv64 (by decide)).mp c97
                  refine xv_aload_n hX 1 dc_NM_readFrom_100 rfl (rfl : _ = 101) ?_
                  refine xv_callv hX (As := []) (rest := []) (ct_RD_refuse _ Y Mt hIt) ml_NM_36 li_RD_refuse rfl (by decide) rfl rfl rfl (by decide) ⟨by decide, by decide⟩ ⟨Nat.le_refl _, Nat.le_refl _⟩ (Nat.le_of_ble_eq_true rfl) dc_NM_readFrom_101 (rfl : _ = 104) (fun M101 p101 => ?_)
                  obtain ⟨i101, f101, e101⟩ := p101
                  refine xv_aload_n hX 1 dc_NM_readFrom_104 rfl (rfl : _ = 105) ?_
                  refine xv_callv hX (As := []) (rest := []) (ct_RD_close _ Y M101 i101) ml_NM_39 li_RD_close rfl (by decide) rfl rfl rfl (by decide) ⟨by decide, by decide⟩ ⟨Nat.le_refl _, Nat.le_refl _⟩ (Nat.le_of_ble_eq_true rfl) dc_NM_readFrom_105 (rfl : _ = 108) (fun M105 p105 => ?_)
                  obtain ⟨i105, f105, e105⟩ := p105
                  have fc : rd_F Mk M105 := hFt.tr (f101.tr f105)
                  have e9 : rd_of M105 = rd_close (if v = 0 then none else rd_of Mt) := by rw [e105, e101, if_pos (by omega)]
                  have hz : M105 p 1 = k := by rw [fc p (by omega) (by omega)]; exact hk1
                  have hJ3 := nm_J3 hJ (by omega) ht (s' := if v = 0 then none else rd_of Mt) rfl
                  rw [← e9] at hJ3
                  refine xv_aload_n hX 0 dc_NM_readFrom_108 rfl (rfl : _ = 109) ?_
                  refine xv_getr hX fl_NM_9 rfl hp.1 (xk_N (Nat.lt_of_succ_lt hp.2.2.2.2)) hp.2.2.1 dc_NM_readFrom_109 (rfl : _ = 112) ?_
                  refine xv_aload_n hX 0 dc_NM_readFrom_112 rfl (rfl : _ = 113) ?_
                  refine xv_geti hX fl_NM_15 rfl hp.1 (xk_N (Nat.lt_of_succ_lt hp.2.2.2.2)) (v := M105 p 1) rfl dc_NM_readFrom_113 (rfl : _ = 116) ?_
                  refine xv_lload_n hX 2 dc_NM_readFrom_116 rfl (rfl : _ = 117) ?_
                  refine xv_last hX hp.2.1 (xk_N hp.2.2.2.2) (by omega) (by decide) dc_NM_readFrom_117 (rfl : _ = 118) ?_
                  refine xv_aload_n hX 0 dc_NM_readFrom_118 rfl (rfl : _ = 119) ?_
                  refine xv_dup hX dc_NM_readFrom_119 rfl (rfl : _ = 120) ?_
                  refine xv_geti hX fl_NM_15 rfl hp.1 (xk_N (Nat.lt_of_succ_lt hp.2.2.2.2)) (v := M105 p 1) (xm_np (by omega)) dc_NM_readFrom_120 (rfl : _ = 123) ?_
                  refine xv_iconst hX (v := nI 1) dc_NM_readFrom_123 (by decide) (rfl : _ = 124) ?_
                  refine xv_iadd hX dc_NM_readFrom_124 (nI_add (M105 p 1) 1) (rfl : _ = 125) ?_
                  refine xv_puti hX fl_NM_15 rfl hp.1 (xk_N (Nat.lt_of_succ_lt hp.2.2.2.2)) dc_NM_readFrom_125 (rfl : _ = 128) ?_
                  have hc9 : ∀ q, q < 6 → (xm_set (xm_set M105 (p + 1) (M105 p 1) v) p 1 (M105 p 1 + 1)) q = M105 q := fun q hq => by rw [xm_oth (by omega), xm_oth (by omega)]
                  refine xv_goto hX (pq := 11) dc_NM_readFrom_128 (by decide) ?_
                  refine xv_sub (L' := [(0, .ref (Y.2.2.2 p)), (1, .ref (Y.2.2.2 1))]) [0, 1] rfl ?_
                  exact ih11 (xm_set (xm_set M105 (p + 1) (M105 p 1) v) p 1 (M105 p 1 + 1)) (k + 1) (by omega) (by rw [xm_eq, hz]) (i105.cg hc9) (fun q h1 h2 h3 h4 => by rw [xm_oth h3, xm_oth h4, fc q h1 h2]; exact hF q h1 h2 h3 h4) (by rw [rd_of_cg hc9]; exact nm_O1 hL hpl hf hXX (by omega) hie (v := v) (fun q hq => by rw [xm_oth (show p + 1 ≠ p by omega), xm_row, hz, fc (p + 1) (by omega) (by omega)]) hJ3) (by omega)
              · skip
                refine xv_aload_n hX 1 dc_NM_readFrom_48 rfl (rfl : _ = 49) ?_
                refine xv_calli hX (As := []) (rest := []) (ct_RD_remaining _ Y Mt hIt) ml_NM_29 li_RD_remaining rfl (by decide) rfl rfl rfl (by decide) ⟨by decide, by decide⟩ ⟨Nat.le_refl _, Nat.le_refl _⟩ (Nat.le_of_ble_eq_true rfl) dc_NM_readFrom_49 (rfl : _ = 52) (fun r49 M49 p49 => ?_)
                rw [p49.1, p49.2]
                have hn2 := rd_rem_le hIt
                refine xv_if_le hX (nI_toInt (by omega)) (tgt := 94) (pq := 55) dc_NM_readFrom_52 (by decide) rfl (fun c52 => ?_) (fun c52 => ?_)
                · skip
                  refine xv_lload_n hX 2 dc_NM_readFrom_94 rfl (rfl : _ = 95) ?_
                  refine xv_lconst hX (v := lN 0) dc_NM_readFrom_95 rfl (rfl : _ = 96) ?_
                  have hv64 := xi_pow8 hv ht
                  refine xv_lcmp hX dc_NM_readFrom_96 (rfl : _ = 97) ?_
                  refine xv_if_ne hX (rfl : (lg_cmp (lN v) (lN 0)).toInt = _) (tgt := 104) (pq := 100) dc_NM_readFrom_97 (by decide) rfl (fun c97 => ?_) (fun c97 => ?_)
                  · skip
                    have c97 : v ≠ 0 := fun h => c97 ((xi_lcmp hv64 (by decide)).mpr h)
                    refine xv_aload_n hX 1 dc_NM_readFrom_104 rfl (rfl : _ = 105) ?_
                    refine xv_callv hX (As := []) (rest := []) (ct_RD_close _ Y Mt hIt) ml_NM_39 li_RD_close rfl (by decide) rfl rfl rfl (by decide) ⟨by decide, by decide⟩ ⟨Nat.le_refl _, Nat.le_refl _⟩ (Nat.le_of_ble_eq_true rfl) dc_NM_readFrom_105 (rfl : _ = 108) (fun M105 p105 => ?_)
                    obtain ⟨i105, f105, e105⟩ := p105
                    have fc : rd_F Mk M105 := hFt.tr f105
                    have e9 : rd_of M105 = rd_close (if v = 0 then none else rd_of Mt) := by rw [e105, if_neg (by omega)]
                    have hz : M105 p 1 = k := by rw [fc p (by omega) (by omega)]; exact hk1
                    have hJ3 := nm_J3 hJ (by omega) ht (s' := if v = 0 then none else rd_of Mt) rfl
                    rw [← e9] at hJ3
                    refine xv_aload_n hX 0 dc_NM_readFrom_108 rfl (rfl : _ = 109) ?_
                    refine xv_getr hX fl_NM_9 rfl hp.1 (xk_N (Nat.lt_of_succ_lt hp.2.2.2.2)) hp.2.2.1 dc_NM_readFrom_109 (rfl : _ = 112) ?_
                    refine xv_aload_n hX 0 dc_NM_readFrom_112 rfl (rfl : _ = 113) ?_
                    refine xv_geti hX fl_NM_15 rfl hp.1 (xk_N (Nat.lt_of_succ_lt hp.2.2.2.2)) (v := M105 p 1) rfl dc_NM_readFrom_113 (rfl : _ = 116) ?_
                    refine xv_lload_n hX 2 dc_NM_readFrom_116 rfl (rfl : _ = 117) ?_
                    refine xv_last hX hp.2.1 (xk_N hp.2.2.2.2) (by omega) (by decide) dc_NM_readFrom_117 (rfl : _ = 118) ?_
                    refine xv_aload_n hX 0 dc_NM_readFrom_118 rfl (rfl : _ = 119) ?_
                    refine xv_dup hX dc_NM_readFrom_119 rfl (rfl : _ = 120) ?_
                    refine xv_geti hX fl_NM_15 rfl hp.1 (xk_N (Nat.lt_of_succ_lt hp.2.2.2.2)) (v := M105 p 1) (xm_np (by omega)) dc_NM_readFrom_120 (rfl : _ = 123) ?_
                    refine xv_iconst hX (v := nI 1) dc_NM_readFrom_123 (by decide) (rfl : _ = 124) ?_
                    refine xv_iadd hX dc_NM_readFrom_124 (nI_add (M105 p 1) 1) (rfl : _ = 125) ?_
                    refine xv_puti hX fl_NM_15 rfl hp.1 (xk_N (Nat.lt_of_succ_lt hp.2.2.2.2)) dc_NM_readFrom_125 (rfl : _ = 128) ?_
                    have hc9 : ∀ q, q < 6 → (xm_set (xm_set M105 (p + 1) (M105 p 1) v) p 1 (M105 p 1 + 1)) q = M105 q := fun q hq => by rw [xm_oth (by omega), xm_oth (by omega)]
                    refine xv_goto hX (pq := 11) dc_NM_readFrom_128 (by decide) ?_
                    refine xv_sub (L' := [(0, .ref (Y.2.2.2 p)), (1, .ref (Y.2.2.2 1))]) [0, 1] rfl ?_
                    exact ih11 (xm_set (xm_set M105 (p + 1) (M105 p 1) v) p 1 (M105 p 1 + 1)) (k + 1) (by omega) (by rw [xm_eq, hz]) (i105.cg hc9) (fun q h1 h2 h3 h4 => by rw [xm_oth h3, xm_oth h4, fc q h1 h2]; exact hF q h1 h2 h3 h4) (by rw [rd_of_cg hc9]; exact nm_O1 hL hpl hf hXX (by omega) hie (v := v) (fun q hq => by rw [xm_oth (show p + 1 ≠ p by omega), xm_row, hz, fc (p + 1) (by omega) (by omega)]) hJ3) (by omega)
                  · skip
                    have c97 : v = 0 := (xi_lcmp hv64 (by decide)).mp c97
                    refine xv_aload_n hX 1 dc_NM_readFrom_100 rfl (rfl : _ = 101) ?_
                    refine xv_callv hX (As := []) (rest := []) (ct_RD_refuse _ Y Mt hIt) ml_NM_36 li_RD_refuse rfl (by decide) rfl rfl rfl (by decide) ⟨by decide, by decide⟩ ⟨Nat.le_refl _, Nat.le_refl _⟩ (Nat.le_of_ble_eq_true rfl) dc_NM_readFrom_101 (rfl : _ = 104) (fun M101 p101 => ?_)
                    obtain ⟨i101, f101, e101⟩ := p101
                    refine xv_aload_n hX 1 dc_NM_readFrom_104 rfl (rfl : _ = 105) ?_
                    refine xv_callv hX (As := []) (rest := []) (ct_RD_close _ Y M101 i101) ml_NM_39 li_RD_close rfl (by decide) rfl rfl rfl (by decide) ⟨by decide, by decide⟩ ⟨Nat.le_refl _, Nat.le_refl _⟩ (Nat.le_of_ble_eq_true rfl) dc_NM_readFrom_105 (rfl : _ = 108) (fun M105 p105 => ?_)
                    obtain ⟨i105, f105, e105⟩ := p105
                    have fc : rd_F Mk M105 := hFt.tr (f101.tr f105)
                    have e9 : rd_of M105 = rd_close (if v = 0 then none else rd_of Mt) := by rw [e105, e101, if_pos (by omega)]
                    have hz : M105 p 1 = k := by rw [fc p (by omega) (by omega)]; exact hk1
                    have hJ3 := nm_J3 hJ (by omega) ht (s' := if v = 0 then none else rd_of Mt) rfl
                    rw [← e9] at hJ3
                    refine xv_aload_n hX 0 dc_NM_readFrom_108 rfl (rfl : _ = 109) ?_
                    refine xv_getr hX fl_NM_9 rfl hp.1 (xk_N (Nat.lt_of_succ_lt hp.2.2.2.2)) hp.2.2.1 dc_NM_readFrom_109 (rfl : _ = 112) ?_
                    refine xv_aload_n hX 0 dc_NM_readFrom_112 rfl (rfl : _ = 113) ?_
                    refine xv_geti hX fl_NM_15 rfl hp.1 (xk_N (Nat.lt_of_succ_lt hp.2.2.2.2)) (v := M105 p 1) rfl dc_NM_readFrom_113 (rfl : _ = 116) ?_
                    refine xv_lload_n hX 2 dc_NM_readFrom_116 rfl (rfl : _ = 117) ?_
                    refine xv_last hX hp.2.1 (xk_N hp.2.2.2.2) (by omega) (by decide) dc_NM_readFrom_117 (rfl : _ = 118) ?_
                    refine xv_aload_n hX 0 dc_NM_readFrom_118 rfl (rfl : _ = 119) ?_
                    refine xv_dup hX dc_NM_readFrom_119 rfl (rfl : _ = 120) ?_
                    refine xv_geti hX fl_NM_15 rfl hp.1 (xk_N (Nat.lt_of_succ_lt hp.2.2.2.2)) (v := M105 p 1) (xm_np (by omega)) dc_NM_readFrom_120 (rfl : _ = 123) ?_
                    refine xv_iconst hX (v := nI 1) dc_NM_readFrom_123 (by decide) (rfl : _ = 124) ?_
                    refine xv_iadd hX dc_NM_readFrom_124 (nI_add (M105 p 1) 1) (rfl : _ = 125) ?_
                    refine xv_puti hX fl_NM_15 rfl hp.1 (xk_N (Nat.lt_of_succ_lt hp.2.2.2.2)) dc_NM_readFrom_125 (rfl : _ = 128) ?_
                    have hc9 : ∀ q, q < 6 → (xm_set (xm_set M105 (p + 1) (M105 p 1) v) p 1 (M105 p 1 + 1)) q = M105 q := fun q hq => by rw [xm_oth (by omega), xm_oth (by omega)]
                    refine xv_goto hX (pq := 11) dc_NM_readFrom_128 (by decide) ?_
                    refine xv_sub (L' := [(0, .ref (Y.2.2.2 p)), (1, .ref (Y.2.2.2 1))]) [0, 1] rfl ?_
                    exact ih11 (xm_set (xm_set M105 (p + 1) (M105 p 1) v) p 1 (M105 p 1 + 1)) (k + 1) (by omega) (by rw [xm_eq, hz]) (i105.cg hc9) (fun q h1 h2 h3 h4 => by rw [xm_oth h3, xm_oth h4, fc q h1 h2]; exact hF q h1 h2 h3 h4) (by rw [rd_of_cg hc9]; exact nm_O1 hL hpl hf hXX (by omega) hie (v := v) (fun q hq => by rw [xm_oth (show p + 1 ≠ p by omega), xm_row, hz, fc (p + 1) (by omega) (by omega)]) hJ3) (by omega)
                · skip
                  refine xv_aload_n hX 1 dc_NM_readFrom_55 rfl (rfl : _ = 56) ?_
                  refine xv_calli hX (As := []) (rest := []) (ct_RD_readByte _ Y Mt hIt) ml_NM_33 li_RD_readByte rfl (by decide) rfl rfl rfl (by decide) ⟨by decide, by decide⟩ ⟨Nat.le_refl _, Nat.le_refl _⟩ (Nat.le_of_ble_eq_true rfl) dc_NM_readFrom_56 (rfl : _ = 59) (fun r56 M56 p56 => ?_)
                  obtain ⟨⟨i56, f56, e56⟩, z56⟩ := p56
                  have bt : Mt 3 = M 3 := by rw [hFt 3 (by decide) (by decide), bk]
                  rw [bt] at z56
                  have hw1 : rd_byte (M 3) (rd_of Mt) < 256 := by have h := rd_byte_lt hIt; rw [bt] at h; exact h
                  obtain ⟨w, hw⟩ : ∃ w, rd_byte (M 3) (rd_of Mt) = w := ⟨_, rfl⟩
                  rw [z56, hw]
                  rw [hw] at hw1
                  refine xv_istore hX [1, 2, 3, 4, 0] dc_NM_readFrom_59 (by decide) (L' := [(0, .ref (Y.2.2.2 p)), (1, .ref (Y.2.2.2 1)), (2, .long (lN v)), (4, .int (nI t)), (5, .int (nI w))]) rfl (rfl : _ = 61) ?_
                  refine xv_iload hX 4 dc_NM_readFrom_61 rfl (rfl : _ = 63) ?_
                  refine xv_bipush hX (v := nI 97) dc_NM_readFrom_63 (by decide) (rfl : _ = 65) ?_
                  refine xv_icmp_lt hX (nI_toInt (by omega)) (show (nI 97).toInt = 97 by decide) (tgt := 75) (pq := 68) dc_NM_readFrom_65 (by decide) rfl (fun c65 => ?_) (fun c65 => ?_)
                  · skip
                    refine xv_aload_n hX 1 dc_NM_readFrom_75 rfl (rfl : _ = 76) ?_
                    refine xv_callv hX (As := []) (rest := []) (ct_RD_refuse _ Y M56 i56) ml_NM_36 li_RD_refuse rfl (by decide) rfl rfl rfl (by decide) ⟨by decide, by decide⟩ ⟨Nat.le_refl _, Nat.le_refl _⟩ (Nat.le_of_ble_eq_true rfl) dc_NM_readFrom_76 (rfl : _ = 79) (fun M76 p76 => ?_)
                    obtain ⟨i76, f76, e76⟩ := p76
                    refine xv_lload_n hX 2 dc_NM_readFrom_79 rfl (rfl : _ = 80) ?_
                    refine xv_bipush hX (v := nI 8) dc_NM_readFrom_80 (by decide) (rfl : _ = 82) ?_
                    refine xv_lshl hX dc_NM_readFrom_82 (xi_lshl8 _) (rfl : _ = 83) ?_
                    refine xv_iload hX 4 dc_NM_readFrom_83 rfl (rfl : _ = 85) ?_
                    refine xv_i2l hX dc_NM_readFrom_85 (nI_l (by omega)) (rfl : _ = 86) ?_
                    refine xv_lor hX dc_NM_readFrom_86 (xi_lor8 hw1) (rfl : _ = 87) ?_
                    refine xv_lstore_n hX [1, 2, 0, 3, 4] dc_NM_readFrom_87 (by decide) (L' := [(0, .ref (Y.2.2.2 p)), (1, .ref (Y.2.2.2 1)), (2, .long (lN (v * 256 + w))), (4, .int (nI t)), (5, .int (nI w))]) rfl (rfl : _ = 88) ?_
                    refine xv_iinc hX 3 [1, 2, 3, 0, 4] dc_NM_readFrom_88 rfl (xi_inc t 1) (by decide) (L' := [(0, .ref (Y.2.2.2 p)), (1, .ref (Y.2.2.2 1)), (2, .long (lN (v * 256 + w))), (4, .int (nI (t + 1))), (5, .int (nI w))]) rfl (rfl : _ = 91) ?_
                    refine xv_goto hX (pq := 41) dc_NM_readFrom_91 (by decide) ?_
                    refine xv_sub (L' := [(0, .ref (Y.2.2.2 p)), (1, .ref (Y.2.2.2 1)), (2, .long (lN (v * 256 + w))), (4, .int (nI (t + 1)))]) [0, 1, 2, 3] rfl ?_
                    exact ih41 M76 (v * 256 + w) (t + 1) (by omega) i76 ((hFt.tr f56).tr f76) (by rw [e76]; exact nm_J2 hJ (by omega) (by rw [hw]; omega)) (by rw [Nat.pow_succ]; omega) (by omega)
                  · skip
                    refine xv_iload hX 4 dc_NM_readFrom_68 rfl (rfl : _ = 70) ?_
                    refine xv_bipush hX (v := nI 122) dc_NM_readFrom_70 (by decide) (rfl : _ = 72) ?_
                    refine xv_icmp_le hX (nI_toInt (by omega)) (show (nI 122).toInt = 122 by decide) (tgt := 79) (pq := 75) dc_NM_readFrom_72 (by decide) rfl (fun c72 => ?_) (fun c72 => ?_)
                    · skip
                      refine xv_lload_n hX 2 dc_NM_readFrom_79 rfl (rfl : _ = 80) ?_
                      refine xv_bipush hX (v := nI 8) dc_NM_readFrom_80 (by decide) (rfl : _ = 82) ?_
                      refine xv_lshl hX dc_NM_readFrom_82 (xi_lshl8 _) (rfl : _ = 83) ?_
                      refine xv_iload hX 4 dc_NM_readFrom_83 rfl (rfl : _ = 85) ?_
                      refine xv_i2l hX dc_NM_readFrom_85 (nI_l (by omega)) (rfl : _ = 86) ?_
                      refine xv_lor hX dc_NM_readFrom_86 (xi_lor8 hw1) (rfl : _ = 87) ?_
                      refine xv_lstore_n hX [1, 2, 0, 3, 4] dc_NM_readFrom_87 (by decide) (L' := [(0, .ref (Y.2.2.2 p)), (1, .ref (Y.2.2.2 1)), (2, .long (lN (v * 256 + w))), (4, .int (nI t)), (5, .int (nI w))]) rfl (rfl : _ = 88) ?_
                      refine xv_iinc hX 3 [1, 2, 3, 0, 4] dc_NM_readFrom_88 rfl (xi_inc t 1) (by decide) (L' := [(0, .ref (Y.2.2.2 p)), (1, .ref (Y.2.2.2 1)), (2, .long (lN (v * 256 + w))), (4, .int (nI (t + 1))), (5, .int (nI w))]) rfl (rfl : _ = 91) ?_
                      refine xv_goto hX (pq := 41) dc_NM_readFrom_91 (by decide) ?_
                      refine xv_sub (L' := [(0, .ref (Y.2.2.2 p)), (1, .ref (Y.2.2.2 1)), (2, .long (lN (v * 256 + w))), (4, .int (nI (t + 1)))]) [0, 1, 2, 3] rfl ?_
                      exact ih41 M56 (v * 256 + w) (t + 1) (by omega) i56 (hFt.tr f56) (by rw [e56, ← hw]; exact nm_J1 hJ (by omega) (by rw [hw]; omega)) (by rw [Nat.pow_succ]; omega) (by omega)
                    · skip
                      refine xv_aload_n hX 1 dc_NM_readFrom_75 rfl (rfl : _ = 76) ?_
                      refine xv_callv hX (As := []) (rest := []) (ct_RD_refuse _ Y M56 i56) ml_NM_36 li_RD_refuse rfl (by decide) rfl rfl rfl (by decide) ⟨by decide, by decide⟩ ⟨Nat.le_refl _, Nat.le_refl _⟩ (Nat.le_of_ble_eq_true rfl) dc_NM_readFrom_76 (rfl : _ = 79) (fun M76 p76 => ?_)
                      obtain ⟨i76, f76, e76⟩ := p76
                      refine xv_lload_n hX 2 dc_NM_readFrom_79 rfl (rfl : _ = 80) ?_
                      refine xv_bipush hX (v := nI 8) dc_NM_readFrom_80 (by decide) (rfl : _ = 82) ?_
                      refine xv_lshl hX dc_NM_readFrom_82 (xi_lshl8 _) (rfl : _ = 83) ?_
                      refine xv_iload hX 4 dc_NM_readFrom_83 rfl (rfl : _ = 85) ?_
                      refine xv_i2l hX dc_NM_readFrom_85 (nI_l (by omega)) (rfl : _ = 86) ?_
                      refine xv_lor hX dc_NM_readFrom_86 (xi_lor8 hw1) (rfl : _ = 87) ?_
                      refine xv_lstore_n hX [1, 2, 0, 3, 4] dc_NM_readFrom_87 (by decide) (L' := [(0, .ref (Y.2.2.2 p)), (1, .ref (Y.2.2.2 1)), (2, .long (lN (v * 256 + w))), (4, .int (nI t)), (5, .int (nI w))]) rfl (rfl : _ = 88) ?_
                      refine xv_iinc hX 3 [1, 2, 3, 0, 4] dc_NM_readFrom_88 rfl (xi_inc t 1) (by decide) (L' := [(0, .ref (Y.2.2.2 p)), (1, .ref (Y.2.2.2 1)), (2, .long (lN (v * 256 + w))), (4, .int (nI (t + 1))), (5, .int (nI w))]) rfl (rfl : _ = 91) ?_
                      refine xv_goto hX (pq := 41) dc_NM_readFrom_91 (by decide) ?_
                      refine xv_sub (L' := [(0, .ref (Y.2.2.2 p)), (1, .ref (Y.2.2.2 1)), (2, .long (lN (v * 256 + w))), (4, .int (nI (t + 1)))]) [0, 1, 2, 3] rfl ?_
                      exact ih41 M76 (v * 256 + w) (t + 1) (by omega) i76 ((hFt.tr f56).tr f76) (by rw [e76]; exact nm_J2 hJ (by omega) (by rw [hw]; omega)) (by rw [Nat.pow_succ]; omega) (by omega)
          refine xv_sub (L' := [(0, .ref (Y.2.2.2 p)), (1, .ref (Y.2.2.2 1)), (2, .long (lN 0)), (4, .int (nI 0))]) [0, 1, 2, 3] rfl ?_
          exact lpI _ M33 0 0 (by decide) i33 f33 hJ0 (by decide) (Nat.lt_succ_self _)
  refine xv_sub (L' := [(0, .ref (Y.2.2.2 p)), (1, .ref (Y.2.2.2 1))]) [0, 1] rfl ?_
  exact lpO _ M8 0 (by decide) (by rw [f8 p (by omega) (by omega)]; exact xm_eq) i8 (fun q h1 h2 h3 h4 => by rw [f8 q h1 h2, xm_oth h3]) (by rw [e8]; exact nm_O0 hd) (Nat.lt_succ_self _)
