/-! the law's start -/
theorem wn_ao2 : Cond.arrayOver (.object xw_A2) ∈ lw_tbl := List.mem_append_right _ (List.mem_of_getElem? (i := 60) (by decide +kernel))
theorem wn_ao3 : Cond.arrayOver (.object xw_A3) ∈ lw_tbl := List.mem_append_right _ (List.mem_of_getElem? (i := 110) (by decide +kernel))
theorem wn_ao4 : Cond.arrayOver (.object xw_A4) ∈ lw_tbl := List.mem_append_right _ (List.mem_of_getElem? (i := 82) (by decide +kernel))
theorem xs_cl277 : xn_cl xn_lk 277 := by
  intro z hz k t ht
  by_cases e0 : z = 0
  · rw [e0, xn_lk_ob (ci := 0) (n := 6) rfl] at ht
    rcases k with _ | _ | _ | _ | _ | k
    · have ht : some 1 = some t := ht
      cases ht; omega
    · have ht : some 2 = some t := ht
      cases ht; omega
    · have ht : some 5 = some t := ht
      cases ht; omega
    · have ht : none = some t := ht
      cases ht
    · have ht : some 276 = some t := ht
      cases ht; omega
    · have ht : none = some t := ht
      cases ht
  · by_cases e1 : z < 5
    · have := xs_in5 z (by omega) e1 k t ht; omega
    · by_cases e2 : z = 5
      · rw [e2] at ht
        have := xs_l5 ht; omega
      · by_cases e3 : z = 276
        · rw [e3, xn_lk_i (t := 0) (n := 6) rfl] at ht
          cases ht
        · have := xs_in6 9 (by omega) z (by omega) (by omega) k t ht; omega
theorem lw_arr {s : State} {args : Array Value} {ty : FieldType} (h : (Cond.arrayClass ty).before args s = true) : ∃ cA, ArrOfT s cA ty ∧ s.vm.findClass ("[" ++ ty.toString) = some cA := by
  obtain ⟨cA, kA, comp, h1, h2, h3⟩ := Cond.arrayClass_spec h
  exact ⟨cA, fun n z => ⟨fun k h => (by cases h), kA, h2, comp, h3⟩, h1⟩
theorem lw_arq {s : State} {C : String} (h : va_AO C s) : ∃ cA, ArrOfT s cA (.object C) ∧ va_RA s cA (.object C) := by
  obtain ⟨comp, c, k, h1, h2, h3, h4, h5⟩ := Cond.arrayOver_spec h
  exact ⟨c, fun n z => ⟨fun k h => (by cases h), k, h3, comp, h4⟩, k, comp, h3, h4, h1, h5⟩
theorem lw_Y0 {s : State} {args : Array Value} (hts : ∀ w ∈ xw_W, w.before args s = true) (hO : xn_ov s) : ∃ (D : va_G) (cA : Nat → ClassId), va_K D xw_Cl [(cA 0, .int), (cA 1, .long), (cA 2, .object xw_A2), (cA 3, .object xw_A3), (cA 4, .object xw_A4)] s := by
  obtain ⟨c0, i0, k0⟩ := u_known hts wi_CP (hts _ wn_in_CP)
  obtain ⟨c1, i1, k1⟩ := u_known hts wi_RD (hts _ wn_in_RD)
  obtain ⟨c2, i2, k2⟩ := u_known hts wi_BR (hts _ wn_in_BR)
  obtain ⟨c3, i3, k3⟩ := u_known hts wi_NM (hts _ wn_in_NM)
  obtain ⟨c4, i4, k4⟩ := u_known hts wi_NL (hts _ wn_in_NL)
  obtain ⟨c5, i5, k5⟩ := u_known hts wi_EX (hts _ wn_in_EX)
  obtain ⟨c6, i6, k6⟩ := u_known hts wi_CT (hts _ wn_in_CT)
  obtain ⟨c7, i7, k7⟩ := u_known hts wi_MD (hts _ wn_in_MD)
  obtain ⟨a0, p0, q0⟩ := lw_arr (hts _ wn_ai)
  obtain ⟨a1, p1, q1⟩ := lw_arr (hts _ wn_al)
  obtain ⟨a2, p2, q2⟩ := lw_arq hO.1
  obtain ⟨a3, p3, q3⟩ := lw_arq hO.2.1
  obtain ⟨a4, p4, q4⟩ := lw_arq hO.2.2
  refine ⟨(fun c => match c with | 0 => c0 | 1 => c1 | 2 => c2 | 3 => c3 | 4 => c4 | 5 => c5 | 6 => c6 | _ => c7, fun c => match c with | 0 => i0 | 1 => i1 | 2 => i2 | 3 => i3 | 4 => i4 | 5 => i5 | 6 => i6 | _ => i7), fun t => match t with | 0 => a0 | 1 => a1 | 2 => a2 | 3 => a3 | _ => a4, ?_, ?_⟩
  · intro c q h
    rcases c with _ | _ | _ | _ | _ | _ | _ | _ | c
    · cases h; exact k0
    · cases h; exact k1
    · cases h; exact k2
    · cases h; exact k3
    · cases h; exact k4
    · cases h; exact k5
    · cases h; exact k6
    · cases h; exact k7
    · cases h
  · intro k q h
    rcases k with _ | _ | _ | _ | _ | k
    · cases h; exact ⟨p0, q0⟩
    · cases h; exact ⟨p1, q1⟩
    · cases h; exact ⟨p2, q2⟩
    · cases h; exact ⟨p3, q3⟩
    · cases h; exact ⟨p4, q4⟩
    · cases h
theorem xn_d2 {q : Nat} (h : xw_K q ≠ (0, 6, 16)) (k : Nat) : xn_d q k = 0 := congrFun (xn_d0 h) k
theorem lw_I0 : ∃ As, lw_I xn_d As := by
  have d0 : ∀ k, xn_d 0 k = 0 := xn_d2 (by decide)
  have d2 : ∀ k, xn_d 2 k = 0 := xn_d2 (by decide)
  have d3 : ∀ k, xn_d 3 k = 0 := xn_d2 (by decide)
  have d277 : ∀ k, xn_d 277 k = 0 := xn_d2 (by decide)
  have d278 : ∀ k, xn_d 278 k = 0 := xn_d2 (by decide)
  refine ⟨fun _ => ((0, [], (0, 0), [], (0, 0)), ([], false, none, none, [], []), 0, 0), ⟨by rw [d277]; omega, fun j _ => by rw [d278]; decide, fun i hi => ?_⟩, fun a ha => ?_, by rw [d2, d277]; omega, ⟨fun j _ => by rw [d3]; decide, fun j hj => ?_⟩, by rw [d0, d277], by rw [d0, d277], by rw [d0]; omega, fun q hq => ?_⟩
  · rw [d277] at hi; exact absurd hi (Nat.not_lt_zero _)
  · rw [d0] at ha; exact absurd ha (Nat.not_lt_zero _)
  · rw [d2] at hj; exact absurd hj (Nat.not_lt_zero _)
  · rw [d0] at hq; exact absurd hq (Nat.not_lt_zero _)
theorem xn_fin {X : xv_X} {Y : xw_Y} {nL cells slots N pc : Nat} {M : xm_M} {L : List (Nat × Value)} {st : List Value} (h : xv_V X Y nL cells slots xw_lk N M pc L st) : xv_V X Y nL cells slots xn_lk N M pc L st := by
  intro H locs ls hP hD hS hl
  rw [xn_end] at hP hD
  exact h H locs ls hP hD hS hl
set_option maxRecDepth 100000 in
set_option maxHeartbeats 4000000 in
theorem lw_main (X : xv_X) (Y : xw_Y) (ad : Nat → Nat) (b L : Nat) (xs : Nat → Int32) (hX : xv_ok X Y code "CertificatePathLaw" 4 room_1) (hL : L ≤ 2560) (hs : va_X b L xs (xv_s X) (xv_s X).heap) (hb : b < (xv_s X).heap.size) (hbA : ¬ Y.2.2.1 b) (hA : ∀ q, (xv_s X).heap.size ≤ q → Y.2.2.1 q) (hO : xn_ov (xv_s X)) (hEnd : ∀ (ad : Nat → Nat) (M : xm_M) (Ls : List (Nat × Value)), xv_V X (xn_Y Y ad) 4 282 3266 xw_lk xw_N M 547 Ls [.int (nI 1)]) : xv_V X (xn_Y Y ad) 4 0 0 (fun _ _ => none) 0 (fun _ _ => 0) 0 [(0, .ref b)] [] := by
  have k0 : xw_K 0 = (0, 0, 6) := rfl
  have k7 : xw_K 277 = (0, 7, 43) := rfl
  have hX0 : xv_ok X (xn_Y Y ad) code "CertificatePathLaw" 4 room_1 := hX
  have hc0 : xn_cl (fun _ _ => none) 0 := fun q hq => absurd hq (Nat.not_lt_zero _)
  refine xn_new hX0 hA k0 (C := "CertificatePath") (T := tk_CP) (tf := ty_CP) rfl wi_CP to_CP wn_dv_CP wn_cl_LW_7 wn_in_CP wn_it_CP hc0 ⟨by decide, by decide⟩ dc_LW_law_0 (rfl : _ = 3) (fun ad1 h1 => ?_)
  have hX1 : xv_ok X (xn_Y Y ad1) code "CertificatePathLaw" 4 room_1 := hX
  refine xv_dup hX1 dc_LW_law_3 rfl (rfl : _ = 4) ?_
  refine xn_call hX1 hA hO (cn_CP _ Y ad1 _ _ (xn_cl_l0 hc0) xn_l_eq xn_m_eq) ml_LW_9 rfl rfl wn_im_CP (by decide) ⟨by decide, by decide⟩ ⟨by decide, by decide⟩ (Nat.le_of_ble_eq_true rfl) dc_LW_law_4 (rfl : _ = 7) (fun ad2 h2 => ?_)
  rw [← h2 0 (by omega)]
  have hX2 : xv_ok X (xn_Y Y ad2) code "CertificatePathLaw" 4 room_1 := hX
  refine xn_sw (lk' := xn_lk) (M' := xn_d) (fun z hz => ⟨(xn_fl_ge (Nat.zero_le _)).symm, (xn_fm_ge (Nat.zero_le _)).symm⟩) ?_
  refine xv_astore_n hX2 [1, 0] dc_LW_law_7 (by decide) (L' := [(0, .ref b), (1, .ref (ad2 0))]) rfl (rfl : _ = 8) ?_
  refine xn_new hX2 hA k7 (C := "CertificatePathModel") (T := tk_MD) (tf := ty_MD) rfl wi_MD to_MD wn_dv_MD wn_cl_LW_10 wn_in_MD wn_it_MD xs_cl277 ⟨by decide, by decide⟩ dc_LW_law_8 (rfl : _ = 11) (fun ad3 h3 => ?_)
  rw [← h3 0 (by omega)]
  have hX3 : xv_ok X (xn_Y Y ad3) code "CertificatePathLaw" 4 room_1 := hX
  refine xv_dup hX3 dc_LW_law_11 rfl (rfl : _ = 12) ?_
  refine xn_call hX3 hA hO (cn_MD _ Y ad3 _ _ (xn_cl_l0 xs_cl277) xn_l_eq xn_m_eq) ml_LW_12 rfl rfl wn_im_MD (by decide) ⟨by decide, by decide⟩ ⟨by decide, by decide⟩ (Nat.le_of_ble_eq_true rfl) dc_LW_law_12 (rfl : _ = 15) (fun ad4 h4 => ?_)
  rw [← h4 0 (by omega), ← h4 277 (by omega)]
  have hX4 : xv_ok X (xn_Y Y ad4) code "CertificatePathLaw" 4 room_1 := hX
  refine xn_sw (lk' := xn_lk) (M' := xn_d) (fun z hz => ?_) ?_
  · by_cases e : z < 277
    · rw [xn_fl_lt e, xn_l_ne (by omega), xn_fm_lt e, xn_m_ne (by omega)]
      exact ⟨rfl, rfl⟩
    · rw [xn_fl_ge (by omega), xn_fm_ge (by omega)]
      exact ⟨rfl, rfl⟩
  refine xn_fin ?_
  refine xv_astore_n hX4 [1, 2, 0] dc_LW_law_15 (by decide) (L' := [(0, .ref b), (1, .ref (ad4 0)), (2, .ref (ad4 277))]) rfl (rfl : _ = 16) ?_
  refine xv_iconst hX4 (v := nI 0) dc_LW_law_16 (by decide) (rfl : _ = 17) ?_
  refine xv_istore_n hX4 [1, 2, 3, 0] dc_LW_law_17 (by decide) (L' := [(0, .ref b), (1, .ref (ad4 0)), (2, .ref (ad4 277)), (3, .int (nI 0))]) rfl (rfl : _ = 18) ?_
  exact lw_loop X (xn_Y Y ad4) b L xs hX4 hL hs hb hbA (hEnd ad4) xn_d 0 lw_I0 (Nat.zero_le _)
