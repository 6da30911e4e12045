/-! a certificate is written; recode -/
set_option maxRecDepth 100000 in
set_option maxHeartbeats 4000000 in
theorem ct_CT_writeHead (l : Launch) (Y : xw_Y) (M : xm_M) (c : Nat) (H : ps_H) (hc : xk_ct c) (hH : ct_H M c H) (hv : cv_H H) (hfit : M 2 1 + (en_head H).length ≤ 160) : xc_v l qm_CT_writeHead 2 Y [.ref (Y.2.2.2 c), .ref (Y.2.2.2 2)] M (fun M1 => M1 = wr_m M (en_head H)) := by
  refine xc_v.mk rfl (by decide) (Nat.le_of_ble_eq_true rfl) ?_
  intro X hXl hX hR
  subst hXl
  have hX : xv_ok X Y prog_3_method_19_code "CertificatePath$Certificate" 4 (xc_rm 2) := hX
  show xv_V X Y 4 0 0 xw_lk xw_N M 0 [(0, .ref (Y.2.2.2 c)), (1, .ref (Y.2.2.2 2))] []
  have hc6 : 6 ≤ c := hc.2.2.2.2.2.2.1
  have hc29 : c + 29 < 276 := hc.2.2.2.2.2.2.2
  have q0 : M = wr_m M [] := (wr_nil M).symm
  obtain ⟨z1, z2, ⟨z3, z4⟩, z5, z6, z7⟩ := hH
  obtain ⟨v1, v2, ⟨v3, v4⟩, v5, ⟨v6a, v6b⟩, ⟨v7a, v7b⟩⟩ := hv
  have hlen : (en_head H).length = (en_int H.1).length + ((en_name H.2.1).length + ((en_two H.2.2.1.1 H.2.2.1.2).length + ((en_name H.2.2.2.1).length + (en_two H.2.2.2.2.1 H.2.2.2.2.2).length))) := by unfold en_head; simp only [List.length_append]
  have hg1 : (en_int H.2.2.1.1 ++ en_int H.2.2.1.2).length + 2 ≤ (en_two H.2.2.1.1 H.2.2.1.2).length := en_el_ge 48 _
  have hg2 : (en_int H.2.2.2.2.1 ++ en_int H.2.2.2.2.2).length + 2 ≤ (en_two H.2.2.2.2.1 H.2.2.2.2.2).length := en_el_ge 48 _
  have hg1e : (en_two H.2.2.1.1 H.2.2.1.2).length = (en_int H.2.2.1.1 ++ en_int H.2.2.1.2).length + 1 + (if (en_int H.2.2.1.1 ++ en_int H.2.2.1.2).length ≤ 127 then 1 else 2) := en_el_len 48 _
  have hg2e : (en_two H.2.2.2.2.1 H.2.2.2.2.2).length = (en_int H.2.2.2.2.1 ++ en_int H.2.2.2.2.2).length + 1 + (if (en_int H.2.2.2.2.1 ++ en_int H.2.2.2.2.2).length ≤ 127 then 1 else 2) := en_el_len 48 _
  refine xv_aload_n hX 1 dc_CT_writeHead_0 rfl (rfl : _ = 1) ?_
  have g1 : M c 0 = H.1 := by exact z1
  refine xv_aload_n hX 0 dc_CT_writeHead_1 rfl (rfl : _ = 2) ?_
  refine xv_geti hX fl_CT_58 rfl hc.1 (xk_N (by omega)) (v := H.1) g1 dc_CT_writeHead_2 (rfl : _ = 5) ?_
  refine xv_callv hX (As := [.int (nI H.1)]) (rest := []) (ct_BR_appendInteger _ Y M H.1 v1 (by omega)) ml_CT_196 li_BR_appendInteger rfl (by decide) rfl rfl rfl (by decide) ⟨by decide, by decide⟩ ⟨Nat.le_refl _, Nat.le_refl _⟩ (Nat.le_of_ble_eq_true rfl) dc_CT_writeHead_5 (rfl : _ = 8) (fun M5 p5 => ?_)
  have q5 : M5 = wr_m M ([] ++ en_int H.1) := p5
  refine xv_aload_n hX 0 dc_CT_writeHead_8 rfl (rfl : _ = 9) ?_
  refine xv_getr hX fl_CT_12 rfl hc.1 (xk_N (by omega)) hc.2.1.1 dc_CT_writeHead_9 (rfl : _ = 12) ?_
  refine xv_aload_n hX 1 dc_CT_writeHead_12 rfl (rfl : _ = 13) ?_
  refine xv_callv hX (As := [.ref (Y.2.2.2 2)]) (rest := []) (ct_NM_writeTo _ Y M5 (c + 1) H.2.1 hc.2.1.2 (by rw [q5]; exact wr_nm (by omega) z2) v2 (by rw [q5, wr_21]; simp only [List.length_append, List.length_cons, List.length_nil] at *; omega)) ml_CT_199 li_NM_writeTo hc.2.1.2.1 (xk_N (Nat.lt_of_succ_lt hc.2.1.2.2.2.2.2)) rfl rfl rfl (by decide) ⟨by decide, by decide⟩ ⟨Nat.le_refl _, Nat.le_refl _⟩ (Nat.le_of_ble_eq_true rfl) dc_CT_writeHead_13 (rfl : _ = 16) (fun M13 p13 => ?_)
  have q13 : M13 = wr_m M (([] ++ en_int H.1) ++ en_name H.2.1) := by rw [p13, q5, wr_app]
  refine xv_aload_n hX 1 dc_CT_writeHead_16 rfl (rfl : _ = 17) ?_
  refine xv_bipush hX (v := nI 48) dc_CT_writeHead_17 (by decide) (rfl : _ = 19) ?_
  refine xv_calli hX (As := [.int (nI 48)]) (rest := []) (ct_BR_append _ Y M13 48 (by rw [q13, wr_21]; simp only [List.length_append, List.length_cons, List.length_nil] at *; omega)) ml_CT_180 li_BR_append rfl (by decide) rfl rfl rfl (by decide) ⟨by decide, by decide⟩ ⟨Nat.le_refl _, Nat.le_refl _⟩ (Nat.le_of_ble_eq_true rfl) dc_CT_writeHead_19 (rfl : _ = 22) (fun r19 M19 p19 => ?_)
  have q19 : M19 = wr_m M ((([] ++ en_int H.1) ++ en_name H.2.1) ++ [48]) := by rw [p19.1, wr_one, q13, wr_app]
  have zk19 : M13 2 1 + 1 = M 2 1 + ((([] ++ en_int H.1) ++ en_name H.2.1) ++ [48]).length := by rw [q13, wr_21]; simp only [List.length_append, List.length_cons, List.length_nil] <;> omega
  rw [p19.2, zk19]
  refine xv_istore_n hX [1, 2, 0] dc_CT_writeHead_22 (by decide) (L' := [(0, .ref (Y.2.2.2 c)), (1, .ref (Y.2.2.2 2)), (2, .int (nI (M 2 1 + ((([] ++ en_int H.1) ++ en_name H.2.1) ++ [48]).length)))]) rfl (rfl : _ = 23) ?_
  refine xv_aload_n hX 1 dc_CT_writeHead_23 rfl (rfl : _ = 24) ?_
  have g24 : M19 c 2 = H.2.2.1.1 := by rw [q19, wr_o (by omega) (by omega)]; exact z3
  refine xv_aload_n hX 0 dc_CT_writeHead_24 rfl (rfl : _ = 25) ?_
  refine xv_geti hX fl_CT_61 rfl hc.1 (xk_N (by omega)) (v := H.2.2.1.1) g24 dc_CT_writeHead_25 (rfl : _ = 28) ?_
  refine xv_callv hX (As := [.int (nI H.2.2.1.1)]) (rest := []) (ct_BR_appendInteger _ Y M19 H.2.2.1.1 v3 (by rw [q19, wr_21]; simp only [List.length_append, List.length_cons, List.length_nil] at *; omega)) ml_CT_196 li_BR_appendInteger rfl (by decide) rfl rfl rfl (by decide) ⟨by decide, by decide⟩ ⟨Nat.le_refl _, Nat.le_refl _⟩ (Nat.le_of_ble_eq_true rfl) dc_CT_writeHead_28 (rfl : _ = 31) (fun M28 p28 => ?_)
  have q28 : M28 = wr_m M (((([] ++ en_int H.1) ++ en_name H.2.1) ++ [48]) ++ en_int H.2.2.1.1) := by rw [p28, q19, wr_app]
  refine xv_aload_n hX 1 dc_CT_writeHead_31 rfl (rfl : _ = 32) ?_
  have g32 : M28 c 3 = H.2.2.1.2 := by rw [q28, wr_o (by omega) (by omega)]; exact z4
  refine xv_aload_n hX 0 dc_CT_writeHead_32 rfl (rfl : _ = 33) ?_
  refine xv_geti hX fl_CT_64 rfl hc.1 (xk_N (by omega)) (v := H.2.2.1.2) g32 dc_CT_writeHead_33 (rfl : _ = 36) ?_
  refine xv_callv hX (As := [.int (nI H.2.2.1.2)]) (rest := []) (ct_BR_appendInteger _ Y M28 H.2.2.1.2 v4 (by rw [q28, wr_21]; simp only [List.length_append, List.length_cons, List.length_nil] at *; omega)) ml_CT_196 li_BR_appendInteger rfl (by decide) rfl rfl rfl (by decide) ⟨by decide, by decide⟩ ⟨Nat.le_refl _, Nat.le_refl _⟩ (Nat.le_of_ble_eq_true rfl) dc_CT_writeHead_36 (rfl : _ = 39) (fun M36 p36 => ?_)
  have q36 : M36 = wr_m M ((((([] ++ en_int H.1) ++ en_name H.2.1) ++ [48]) ++ en_int H.2.2.1.1) ++ en_int H.2.2.1.2) := by rw [p36, q28, wr_app]
  refine xv_aload_n hX 1 dc_CT_writeHead_39 rfl (rfl : _ = 40) ?_
  refine xv_iload_n hX 2 dc_CT_writeHead_40 rfl (rfl : _ = 41) ?_
  refine xv_callv hX (As := [.int (nI (M 2 1 + ((([] ++ en_int H.1) ++ en_name H.2.1) ++ [48]).length))]) (rest := []) (ct_BR_insertLength _ Y M36 M ((([] ++ en_int H.1) ++ en_name H.2.1) ++ [48]) (en_int H.2.2.1.1 ++ en_int H.2.2.1.2) (by rw [q36] <;> try simp only [List.append_assoc, List.nil_append, List.append_nil]) (by simp only [List.length_append, List.length_cons, List.length_nil]; omega) (by have hel := en_el_len 48 (en_int H.2.2.1.1 ++ en_int H.2.2.1.2); rw [Nat.add_assoc, Nat.add_assoc]; simp only [List.length_append, List.length_cons, List.length_nil] at *; omega)) ml_CT_193 li_BR_insertLength rfl (by decide) rfl rfl rfl (by decide) ⟨by decide, by decide⟩ ⟨Nat.le_refl _, Nat.le_refl _⟩ (Nat.le_of_ble_eq_true rfl) dc_CT_writeHead_41 (rfl : _ = 44) (fun M41 p41 => ?_)
  have q41 : M41 = wr_m M ((([] ++ en_int H.1) ++ en_name H.2.1) ++ en_el 48 (en_int H.2.2.1.1 ++ en_int H.2.2.1.2)) := by rw [p41]; simp only [List.append_assoc, en_el, List.cons_append, List.nil_append]
  refine xv_aload_n hX 0 dc_CT_writeHead_44 rfl (rfl : _ = 45) ?_
  refine xv_getr hX fl_CT_18 rfl hc.1 (xk_N (by omega)) hc.2.2.1.1 dc_CT_writeHead_45 (rfl : _ = 48) ?_
  refine xv_aload_n hX 1 dc_CT_writeHead_48 rfl (rfl : _ = 49) ?_
  refine xv_callv hX (As := [.ref (Y.2.2.2 2)]) (rest := []) (ct_NM_writeTo _ Y M41 (c + 3) H.2.2.2.1 hc.2.2.1.2 (by rw [q41]; exact wr_nm (by omega) z5) v5 (by rw [q41, wr_21]; simp only [List.length_append, List.length_cons, List.length_nil, en_el_len] at *; omega)) ml_CT_199 li_NM_writeTo hc.2.2.1.2.1 (xk_N (Nat.lt_of_succ_lt hc.2.2.1.2.2.2.2.2)) rfl rfl rfl (by decide) ⟨by decide, by decide⟩ ⟨Nat.le_refl _, Nat.le_refl _⟩ (Nat.le_of_ble_eq_true rfl) dc_CT_writeHead_49 (rfl : _ = 52) (fun M49 p49 => ?_)
  have q49 : M49 = wr_m M (((([] ++ en_int H.1) ++ en_name H.2.1) ++ en_two H.2.2.1.1 H.2.2.1.2) ++ en_name H.2.2.2.1) := by rw [p49, q41, wr_app]; rfl
  refine xv_aload_n hX 1 dc_CT_writeHead_52 rfl (rfl : _ = 53) ?_
  refine xv_bipush hX (v := nI 48) dc_CT_writeHead_53 (by decide) (rfl : _ = 55) ?_
  refine xv_calli hX (As := [.int (nI 48)]) (rest := []) (ct_BR_append _ Y M49 48 (by rw [q49, wr_21]; simp only [List.length_append, List.length_cons, List.length_nil] at *; omega)) ml_CT_180 li_BR_append rfl (by decide) rfl rfl rfl (by decide) ⟨by decide, by decide⟩ ⟨Nat.le_refl _, Nat.le_refl _⟩ (Nat.le_of_ble_eq_true rfl) dc_CT_writeHead_55 (rfl : _ = 58) (fun r55 M55 p55 => ?_)
  have q55 : M55 = wr_m M ((((([] ++ en_int H.1) ++ en_name H.2.1) ++ en_two H.2.2.1.1 H.2.2.1.2) ++ en_name H.2.2.2.1) ++ [48]) := by rw [p55.1, wr_one, q49, wr_app]
  have zk55 : M49 2 1 + 1 = M 2 1 + ((((([] ++ en_int H.1) ++ en_name H.2.1) ++ en_two H.2.2.1.1 H.2.2.1.2) ++ en_name H.2.2.2.1) ++ [48]).length := by rw [q49, wr_21]; simp only [List.length_append, List.length_cons, List.length_nil] <;> omega
  rw [p55.2, zk55]
  refine xv_istore_n hX [1, 2, 3, 0] dc_CT_writeHead_58 (by decide) (L' := [(0, .ref (Y.2.2.2 c)), (1, .ref (Y.2.2.2 2)), (2, .int (nI (M 2 1 + ((([] ++ en_int H.1) ++ en_name H.2.1) ++ [48]).length))), (3, .int (nI (M 2 1 + ((((([] ++ en_int H.1) ++ en_name H.2.1) ++ en_two H.2.2.1.1 H.2.2.1.2) ++ en_name H.2.2.2.1) ++ [48]).length)))]) rfl (rfl : _ = 59) ?_
  refine xv_aload_n hX 1 dc_CT_writeHead_59 rfl (rfl : _ = 60) ?_
  have g60 : M55 c 5 = H.2.2.2.2.1 := by rw [q55, wr_o (by omega) (by omega)]; exact z6
  refine xv_aload_n hX 0 dc_CT_writeHead_60 rfl (rfl : _ = 61) ?_
  refine xv_geti hX fl_CT_67 rfl hc.1 (xk_N (by omega)) (v := H.2.2.2.2.1) g60 dc_CT_writeHead_61 (rfl : _ = 64) ?_
  refine xv_callv hX (As := [.int (nI H.2.2.2.2.1)]) (rest := []) (ct_BR_appendInteger _ Y M55 H.2.2.2.2.1 v6b (by rw [q55, wr_21]; simp only [List.length_append, List.length_cons, List.length_nil] at *; omega)) ml_CT_196 li_BR_appendInteger rfl (by decide) rfl rfl rfl (by decide) ⟨by decide, by decide⟩ ⟨Nat.le_refl _, Nat.le_refl _⟩ (Nat.le_of_ble_eq_true rfl) dc_CT_writeHead_64 (rfl : _ = 67) (fun M64 p64 => ?_)
  have q64 : M64 = wr_m M (((((([] ++ en_int H.1) ++ en_name H.2.1) ++ en_two H.2.2.1.1 H.2.2.1.2) ++ en_name H.2.2.2.1) ++ [48]) ++ en_int H.2.2.2.2.1) := by rw [p64, q55, wr_app]
  refine xv_aload_n hX 1 dc_CT_writeHead_67 rfl (rfl : _ = 68) ?_
  have g68 : M64 c 6 = H.2.2.2.2.2 := by rw [q64, wr_o (by omega) (by omega)]; exact z7
  refine xv_aload_n hX 0 dc_CT_writeHead_68 rfl (rfl : _ = 69) ?_
  refine xv_geti hX fl_CT_70 rfl hc.1 (xk_N (by omega)) (v := H.2.2.2.2.2) g68 dc_CT_writeHead_69 (rfl : _ = 72) ?_
  refine xv_callv hX (As := [.int (nI H.2.2.2.2.2)]) (rest := []) (ct_BR_appendInteger _ Y M64 H.2.2.2.2.2 (by omega) (by rw [q64, wr_21]; simp only [List.length_append, List.length_cons, List.length_nil] at *; omega)) ml_CT_196 li_BR_appendInteger rfl (by decide) rfl rfl rfl (by decide) ⟨by decide, by decide⟩ ⟨Nat.le_refl _, Nat.le_refl _⟩ (Nat.le_of_ble_eq_true rfl) dc_CT_writeHead_72 (rfl : _ = 75) (fun M72 p72 => ?_)
  have q72 : M72 = wr_m M ((((((([] ++ en_int H.1) ++ en_name H.2.1) ++ en_two H.2.2.1.1 H.2.2.1.2) ++ en_name H.2.2.2.1) ++ [48]) ++ en_int H.2.2.2.2.1) ++ en_int H.2.2.2.2.2) := by rw [p72, q64, wr_app]
  refine xv_aload_n hX 1 dc_CT_writeHead_75 rfl (rfl : _ = 76) ?_
  refine xv_iload_n hX 3 dc_CT_writeHead_76 rfl (rfl : _ = 77) ?_
  refine xv_callv hX (As := [.int (nI (M 2 1 + ((((([] ++ en_int H.1) ++ en_name H.2.1) ++ en_two H.2.2.1.1 H.2.2.1.2) ++ en_name H.2.2.2.1) ++ [48]).length))]) (rest := []) (ct_BR_insertLength _ Y M72 M ((((([] ++ en_int H.1) ++ en_name H.2.1) ++ en_two H.2.2.1.1 H.2.2.1.2) ++ en_name H.2.2.2.1) ++ [48]) (en_int H.2.2.2.2.1 ++ en_int H.2.2.2.2.2) (by rw [q72] <;> try simp only [List.append_assoc, List.nil_append, List.append_nil]) (by simp only [List.length_append, List.length_cons, List.length_nil]; omega) (by have hel := en_el_len 48 (en_int H.2.2.2.2.1 ++ en_int H.2.2.2.2.2); rw [Nat.add_assoc, Nat.add_assoc]; simp only [List.length_append, List.length_cons, List.length_nil] at *; omega)) ml_CT_193 li_BR_insertLength rfl (by decide) rfl rfl rfl (by decide) ⟨by decide, by decide⟩ ⟨Nat.le_refl _, Nat.le_refl _⟩ (Nat.le_of_ble_eq_true rfl) dc_CT_writeHead_77 (rfl : _ = 80) (fun M77 p77 => ?_)
  have q77 : M77 = wr_m M ((((([] ++ en_int H.1) ++ en_name H.2.1) ++ en_two H.2.2.1.1 H.2.2.1.2) ++ en_name H.2.2.2.1) ++ en_el 48 (en_int H.2.2.2.2.1 ++ en_int H.2.2.2.2.2)) := by rw [p77]; simp only [List.append_assoc, en_el, List.cons_append, List.nil_append]
  refine xv_retv hX hR dc_CT_writeHead_80 ?_
  rw [q77]
  unfold en_head en_two
  simp only [List.append_assoc, List.nil_append]

set_option maxRecDepth 100000 in
set_option maxHeartbeats 4000000 in
theorem ct_CT_writeTo (l : Launch) (Y : xw_Y) (M : xm_M) (c : Nat) (C : ps_C) (hc : xk_ct c) (hH : ct_H M c C.1.1.1) (hE : ct_E M c C.1.1.2) (h10 : M c 10 = C.1.1.2.1.length) (h7 : M c 7 = C.2) (hvH : cv_H C.1.1.1) (hvE : cv_E C.1.1.2) (hsg : C.2 < 2147483648) (hfit : M 2 1 + (en_cert C).length ≤ 160) : xc_v l qm_CT_writeTo 5 Y [.ref (Y.2.2.2 c), .ref (Y.2.2.2 2)] M (fun M1 => M1 = wr_m M (en_cert C)) := by
  refine xc_v.mk rfl (by decide) (Nat.le_of_ble_eq_true rfl) ?_
  intro X hXl hX hR
  subst hXl
  have hX : xv_ok X Y prog_3_method_18_code "CertificatePath$Certificate" 7 (xc_rm 5) := hX
  show xv_V X Y 7 0 0 xw_lk xw_N M 0 [(0, .ref (Y.2.2.2 c)), (1, .ref (Y.2.2.2 2))] []
  have hc6 : 6 ≤ c := hc.2.2.2.2.2.2.1
  have hc29 : c + 29 < 276 := hc.2.2.2.2.2.2.2
  have q0 : M = wr_m M [] := (wr_nil M).symm
  have hx4 := hvE.1
  have hfit : M 2 1 + (en_el 48 (en_el 48 (en_head C.1.1.1 ++ en_more C.1.1.2) ++ en_int C.2)).length ≤ 160 := hfit
  have hge := en_el_ge 48 (en_el 48 (en_head C.1.1.1 ++ en_more C.1.1.2) ++ en_int C.2)
  have hge2 := en_el_ge 48 (en_head C.1.1.1 ++ en_more C.1.1.2)
  simp only [List.length_append] at hge hge2
  refine xv_aload_n hX 1 dc_CT_writeTo_0 rfl (rfl : _ = 1) ?_
  refine xv_bipush hX (v := nI 48) dc_CT_writeTo_1 (by decide) (rfl : _ = 3) ?_
  refine xv_calli hX (As := [.int (nI 48)]) (rest := []) (ct_BR_append _ Y M 48 (by first | omega | (rw [q0, wr_21]; simp only [List.length_append, List.length_cons, List.length_nil]; omega))) ml_CT_180 li_BR_append rfl (by decide) rfl rfl rfl (by decide) ⟨by decide, by decide⟩ ⟨Nat.le_refl _, Nat.le_refl _⟩ (Nat.le_of_ble_eq_true rfl) dc_CT_writeTo_3 (rfl : _ = 6) (fun r3 M3 p3 => ?_)
  have q3 : M3 = wr_m M ([] ++ [48]) := by rw [p3.1]; exact wr_one M 48
  have zk3 : M 2 1 + 1 = M 2 1 + ([] ++ [48]).length := rfl
  rw [p3.2, zk3]
  refine xv_istore_n hX [1, 2, 0] dc_CT_writeTo_6 (by decide) (L' := [(0, .ref (Y.2.2.2 c)), (1, .ref (Y.2.2.2 2)), (2, .int (nI (M 2 1 + ([] ++ [48]).length)))]) rfl (rfl : _ = 7) ?_
  refine xv_aload_n hX 1 dc_CT_writeTo_7 rfl (rfl : _ = 8) ?_
  refine xv_bipush hX (v := nI 48) dc_CT_writeTo_8 (by decide) (rfl : _ = 10) ?_
  refine xv_calli hX (As := [.int (nI 48)]) (rest := []) (ct_BR_append _ Y M3 48 (by rw [q3, wr_21]; simp only [List.length_append, List.length_cons, List.length_nil] at *; omega)) ml_CT_180 li_BR_append rfl (by decide) rfl rfl rfl (by decide) ⟨by decide, by decide⟩ ⟨Nat.le_refl _, Nat.le_refl _⟩ (Nat.le_of_ble_eq_true rfl) dc_CT_writeTo_10 (rfl : _ = 13) (fun r10 M10 p10 => ?_)
  have q10 : M10 = wr_m M (([] ++ [48]) ++ [48]) := by rw [p10.1, wr_one, q3, wr_app]
  have zk10 : M3 2 1 + 1 = M 2 1 + (([] ++ [48]) ++ [48]).length := by rw [q3, wr_21]; simp only [List.length_append, List.length_cons, List.length_nil] <;> omega
  rw [p10.2, zk10]
  refine xv_istore_n hX [1, 2, 3, 0] dc_CT_writeTo_13 (by decide) (L' := [(0, .ref (Y.2.2.2 c)), (1, .ref (Y.2.2.2 2)), (2, .int (nI (M 2 1 + ([] ++ [48]).length))), (3, .int (nI (M 2 1 + (([] ++ [48]) ++ [48]).length)))]) rfl (rfl : _ = 14) ?_
  refine xv_aload_n hX 0 dc_CT_writeTo_14 rfl (rfl : _ = 15) ?_
  refine xv_aload_n hX 1 dc_CT_writeTo_15 rfl (rfl : _ = 16) ?_
  refine xv_callv hX (As := [.ref (Y.2.2.2 2)]) (rest := []) (ct_CT_writeHead _ Y M10 c C.1.1.1 hc (by rw [q10]; exact ⟨by rw [wr_o (by omega) (by omega)]; exact hH.1, wr_nm (by omega) hH.2.1, ⟨by rw [wr_o (by omega) (by omega)]; exact hH.2.2.1.1, by rw [wr_o (by omega) (by omega)]; exact hH.2.2.1.2⟩, wr_nm (by omega) hH.2.2.2.1, by rw [wr_o (by omega) (by omega)]; exact hH.2.2.2.2.1, by rw [wr_o (by omega) (by omega)]; exact hH.2.2.2.2.2⟩) hvH (by rw [q10, wr_21]; simp only [List.length_append, List.length_cons, List.length_nil] at *; omega)) ml_CT_185 li_CT_writeHead hc.1 (xk_N (by omega)) rfl rfl rfl (by decide) ⟨by decide, by decide⟩ ⟨Nat.le_refl _, Nat.le_refl _⟩ (Nat.le_of_ble_eq_true rfl) dc_CT_writeTo_16 (rfl : _ = 19) (fun M16 p16 => ?_)
  have q16 : M16 = wr_m M ((([] ++ [48]) ++ [48]) ++ en_head C.1.1.1) := by rw [p16, q10, wr_app]
  have g16 : M16 c 10 = C.1.1.2.1.length := by rw [q16, wr_o (by omega) (by omega)]; exact h10
  refine xv_aload_n hX 0 dc_CT_writeTo_19 rfl (rfl : _ = 20) ?_
  refine xv_geti hX fl_CT_41 rfl hc.1 (xk_N (by omega)) (v := M16 c 10) rfl dc_CT_writeTo_20 (rfl : _ = 23) ?_
  refine xv_if_le hX (nI_toInt (by omega)) (tgt := 85) (pq := 26) dc_CT_writeTo_23 (by decide) rfl (fun c23 => ?_) (fun c23 => ?_)
  · skip
    have hxe : C.1.1.2.1 = [] := List.eq_nil_of_length_eq_zero (by omega)
    have hmo : en_more C.1.1.2 = [] := if_pos hxe
    rw [hmo] at hfit hge hge2
    refine xv_aload_n hX 1 dc_CT_writeTo_85 rfl (rfl : _ = 86) ?_
    refine xv_iload_n hX 3 dc_CT_writeTo_86 rfl (rfl : _ = 87) ?_
    refine xv_callv hX (As := [.int (nI (M 2 1 + (([] ++ [48]) ++ [48]).length))]) (rest := []) (ct_BR_insertLength _ Y M16 M (([] ++ [48]) ++ [48]) (en_head C.1.1.1 ++ []) (by rw [q16] <;> try simp only [List.append_assoc, List.nil_append, List.append_nil]) (by simp only [List.length_append, List.length_cons, List.length_nil]; omega) (by have hel := en_el_len 48 (en_head C.1.1.1 ++ []); rw [Nat.add_assoc, Nat.add_assoc]; simp only [List.length_append, List.length_cons, List.length_nil] at *; omega)) ml_CT_193 li_BR_insertLength rfl (by decide) rfl rfl rfl (by decide) ⟨by decide, by decide⟩ ⟨Nat.le_refl _, Nat.le_refl _⟩ (Nat.le_of_ble_eq_true rfl) dc_CT_writeTo_87 (rfl : _ = 90) (fun M87 p87 => ?_)
    have q87 : M87 = wr_m M (([] ++ [48]) ++ en_el 48 (en_head C.1.1.1 ++ [])) := by rw [p87]; simp only [List.append_assoc, en_el, List.cons_append, List.nil_append]
    have g90 : M87 c 7 = C.2 := by rw [q87, wr_o (by omega) (by omega)]; exact h7
    refine xv_aload_n hX 1 dc_CT_writeTo_90 rfl (rfl : _ = 91) ?_
    refine xv_aload_n hX 0 dc_CT_writeTo_91 rfl (rfl : _ = 92) ?_
    refine xv_geti hX fl_CT_73 rfl hc.1 (xk_N (by omega)) (v := C.2) g90 dc_CT_writeTo_92 (rfl : _ = 95) ?_
    refine xv_callv hX (As := [.int (nI C.2)]) (rest := []) (ct_BR_appendInteger _ Y M87 C.2 hsg (by rw [q87, wr_21]; simp only [List.length_append, List.length_cons, List.length_nil] at *; omega)) ml_CT_196 li_BR_appendInteger rfl (by decide) rfl rfl rfl (by decide) ⟨by decide, by decide⟩ ⟨Nat.le_refl _, Nat.le_refl _⟩ (Nat.le_of_ble_eq_true rfl) dc_CT_writeTo_95 (rfl : _ = 98) (fun M95 p95 => ?_)
    have q95 : M95 = wr_m M ((([] ++ [48]) ++ en_el 48 (en_head C.1.1.1 ++ [])) ++ en_int C.2) := by rw [p95, q87, wr_app]
    refine xv_aload_n hX 1 dc_CT_writeTo_98 rfl (rfl : _ = 99) ?_
    refine xv_iload_n hX 2 dc_CT_writeTo_99 rfl (rfl : _ = 100) ?_
    refine xv_callv hX (As := [.int (nI (M 2 1 + ([] ++ [48]).length))]) (rest := []) (ct_BR_insertLength _ Y M95 M ([] ++ [48]) (en_el 48 (en_head C.1.1.1 ++ []) ++ en_int C.2) (by rw [q95] <;> try simp only [List.append_assoc, List.nil_append, List.append_nil]) (by simp only [List.length_append, List.length_cons, List.length_nil]; omega) (by have hel := en_el_len 48 (en_el 48 (en_head C.1.1.1 ++ []) ++ en_int C.2); rw [Nat.add_assoc, Nat.add_assoc]; simp only [List.length_append, List.length_cons, List.length_nil] at *; omega)) ml_CT_193 li_BR_insertLength rfl (by decide) rfl rfl rfl (by decide) ⟨by decide, by decide⟩ ⟨Nat.le_refl _, Nat.le_refl _⟩ (Nat.le_of_ble_eq_true rfl) dc_CT_writeTo_100 (rfl : _ = 103) (fun M100 p100 => ?_)
    have q100 : M100 = wr_m M ([] ++ en_el 48 (en_el 48 (en_head C.1.1.1 ++ []) ++ en_int C.2)) := by rw [p100]; simp only [List.append_assoc, en_el, List.cons_append, List.nil_append]
    refine xv_retv hX hR dc_CT_writeTo_103 ?_
    rw [q100]
    unfold en_cert
    rw [hmo]
    rfl
  · skip
    have hxe : C.1.1.2.1 ≠ [] := fun h => by rw [h] at g16; simp only [List.length_nil] at g16; omega
    have hmo : en_more C.1.1.2 = en_el 163 (en_el 48 (en_exts C.1.1.2 C.1.1.2.1)) := if_neg hxe
    rw [hmo] at hfit hge hge2
    have hge3 := en_el_ge 163 (en_el 48 (en_exts C.1.1.2 C.1.1.2.1))
    have hge4 := en_el_ge 48 (en_exts C.1.1.2 C.1.1.2.1)
    refine xv_aload_n hX 1 dc_CT_writeTo_26 rfl (rfl : _ = 27) ?_
    refine xv_sipush hX (v := nI 163) dc_CT_writeTo_27 (by decide) (rfl : _ = 30) ?_
    refine xv_calli hX (As := [.int (nI 163)]) (rest := []) (ct_BR_append _ Y M16 163 (by rw [q16, wr_21]; simp only [List.length_append, List.length_cons, List.length_nil] at *; omega)) ml_CT_180 li_BR_append rfl (by decide) rfl rfl rfl (by decide) ⟨by decide, by decide⟩ ⟨Nat.le_refl _, Nat.le_refl _⟩ (Nat.le_of_ble_eq_true rfl) dc_CT_writeTo_30 (rfl : _ = 33) (fun r30 M30 p30 => ?_)
    have q30 : M30 = wr_m M (((([] ++ [48]) ++ [48]) ++ en_head C.1.1.1) ++ [163]) := by rw [p30.1, wr_one, q16, wr_app]
    have zk30 : M16 2 1 + 1 = M 2 1 + (((([] ++ [48]) ++ [48]) ++ en_head C.1.1.1) ++ [163]).length := by rw [q16, wr_21]; simp only [List.length_append, List.length_cons, List.length_nil] <;> omega
    rw [p30.2, zk30]
    refine xv_istore hX [1, 2, 3, 4, 0] dc_CT_writeTo_33 (by decide) (L' := [(0, .ref (Y.2.2.2 c)), (1, .ref (Y.2.2.2 2)), (2, .int (nI (M 2 1 + ([] ++ [48]).length))), (3, .int (nI (M 2 1 + (([] ++ [48]) ++ [48]).length))), (4, .int (nI (M 2 1 + (((([] ++ [48]) ++ [48]) ++ en_head C.1.1.1) ++ [163]).length)))]) rfl (rfl : _ = 35) ?_
    refine xv_aload_n hX 1 dc_CT_writeTo_35 rfl (rfl : _ = 36) ?_
    refine xv_bipush hX (v := nI 48) dc_CT_writeTo_36 (by decide) (rfl : _ = 38) ?_
    refine xv_calli hX (As := [.int (nI 48)]) (rest := []) (ct_BR_append _ Y M30 48 (by rw [q30, wr_21]; simp only [List.length_append, List.length_cons, List.length_nil] at *; omega)) ml_CT_180 li_BR_append rfl (by decide) rfl rfl rfl (by decide) ⟨by decide, by decide⟩ ⟨Nat.le_refl _, Nat.le_refl _⟩ (Nat.le_of_ble_eq_true rfl) dc_CT_writeTo_38 (rfl : _ = 41) (fun r38 M38 p38 => ?_)
    have q38 : M38 = wr_m M ((((([] ++ [48]) ++ [48]) ++ en_head C.1.1.1) ++ [163]) ++ [48]) := by rw [p38.1, wr_one, q30, wr_app]
    have zk38 : M30 2 1 + 1 = M 2 1 + ((((([] ++ [48]) ++ [48]) ++ en_head C.1.1.1) ++ [163]) ++ [48]).length := by rw [q30, wr_21]; simp only [List.length_append, List.length_cons, List.length_nil] <;> omega
    rw [p38.2, zk38]
    refine xv_istore hX [1, 2, 3, 4, 5, 0] dc_CT_writeTo_41 (by decide) (L' := [(0, .ref (Y.2.2.2 c)), (1, .ref (Y.2.2.2 2)), (2, .int (nI (M 2 1 + ([] ++ [48]).length))), (3, .int (nI (M 2 1 + (([] ++ [48]) ++ [48]).length))), (4, .int (nI (M 2 1 + (((([] ++ [48]) ++ [48]) ++ en_head C.1.1.1) ++ [163]).length))), (5, .int (nI (M 2 1 + ((((([] ++ [48]) ++ [48]) ++ en_head C.1.1.1) ++ [163]) ++ [48]).length)))]) rfl (rfl : _ = 43) ?_
    refine xv_iconst hX (v := nI 0) dc_CT_writeTo_43 (by decide) (rfl : _ = 44) ?_
    refine xv_istore hX [1, 2, 3, 4, 5, 6, 0] dc_CT_writeTo_44 (by decide) (L' := [(0, .ref (Y.2.2.2 c)), (1, .ref (Y.2.2.2 2)), (2, .int (nI (M 2 1 + ([] ++ [48]).length))), (3, .int (nI (M 2 1 + (([] ++ [48]) ++ [48]).length))), (4, .int (nI (M 2 1 + (((([] ++ [48]) ++ [48]) ++ en_head C.1.1.1) ++ [163]).length))), (5, .int (nI (M 2 1 + ((((([] ++ [48]) ++ [48]) ++ en_head C.1.1.1) ++ [163]) ++ [48]).length))), (6, .int (nI 0))]) rfl (rfl : _ = 46) ?_
    have lp46 : ∀ (fu46 : Nat) (Mk : xm_M) (pre : List (Nat × Bool × List Nat)) (post : List (Nat × Bool × List Nat)) (k : Nat) (hM : Mk = wr_m M (((((([] ++ [48]) ++ [48]) ++ en_head C.1.1.1) ++ [163]) ++ [48]) ++ en_exts C.1.1.2 pre)) (hpp : pre ++ post = C.1.1.2.1) (hkp : pre.length = k), post.length < fu46 → xv_V X Y 7 0 0 xw_lk xw_N Mk 46 [(0, .ref (Y.2.2.2 c)), (1, .ref (Y.2.2.2 2)), (2, .int (nI (M 2 1 + ([] ++ [48]).length))), (3, .int (nI (M 2 1 + (([] ++ [48]) ++ [48]).length))), (4, .int (nI (M 2 1 + (((([] ++ [48]) ++ [48]) ++ en_head C.1.1.1) ++ [163]).length))), (5, .int (nI (M 2 1 + ((((([] ++ [48]) ++ [48]) ++ en_head C.1.1.1) ++ [163]) ++ [48]).length))), (6, .int (nI k))] [] := by
      intro n46
      induction n46 with
      | zero => intro Mk pre post k hM hpp hkp hm46; exact absurd hm46 (Nat.not_lt_zero _)
      | succ n46 ih46 =>
        intro Mk pre post k hM hpp hkp hm46
        refine xv_iload hX 6 dc_CT_writeTo_46 rfl (rfl : _ = 48) ?_
        have hkx : Mk c 10 = C.1.1.2.1.length := by rw [hM, wr_o (by omega) (by omega)]; exact h10
        have hprl : pre.length ≤ C.1.1.2.1.length := by rw [← hpp]; simp
        refine xv_aload_n hX 0 dc_CT_writeTo_48 rfl (rfl : _ = 49) ?_
        refine xv_geti hX fl_CT_41 rfl hc.1 (xk_N (by omega)) (v := Mk c 10) rfl dc_CT_writeTo_49 (rfl : _ = 52) ?_
        refine xv_icmp_ge hX (nI_toInt (by omega)) (nI_toInt (by omega)) (tgt := 73) (pq := 55) dc_CT_writeTo_52 (by decide) rfl (fun c52 => ?_) (fun c52 => ?_)
        · skip
          have hpre : pre = C.1.1.2.1 := by
            have h : pre.length = C.1.1.2.1.length := by omega
            rw [← hpp] at h ⊢
            simp only [List.length_append] at h
            have : post = [] := List.eq_nil_of_length_eq_zero (by omega)
            rw [this, List.append_nil]
          refine xv_aload_n hX 1 dc_CT_writeTo_73 rfl (rfl : _ = 74) ?_
          refine xv_iload hX 5 dc_CT_writeTo_74 rfl (rfl : _ = 76) ?_
          refine xv_callv hX (As := [.int (nI (M 2 1 + ((((([] ++ [48]) ++ [48]) ++ en_head C.1.1.1) ++ [163]) ++ [48]).length))]) (rest := []) (ct_BR_insertLength _ Y Mk M ((((([] ++ [48]) ++ [48]) ++ en_head C.1.1.1) ++ [163]) ++ [48]) (en_exts C.1.1.2 C.1.1.2.1) (by rw [hM, hpre] <;> try simp only [List.append_assoc, List.nil_append, List.append_nil]) (by simp only [List.length_append, List.length_cons, List.length_nil]; omega) (by have hel := en_el_len 48 (en_exts C.1.1.2 C.1.1.2.1); rw [Nat.add_assoc, Nat.add_assoc]; simp only [List.length_append, List.length_cons, List.length_nil] at *; omega)) ml_CT_193 li_BR_insertLength rfl (by decide) rfl rfl rfl (by decide) ⟨by decide, by decide⟩ ⟨Nat.le_refl _, Nat.le_refl _⟩ (Nat.le_of_ble_eq_true rfl) dc_CT_writeTo_76 (rfl : _ = 79) (fun M76 p76 => ?_)
          have q76 : M76 = wr_m M ((((([] ++ [48]) ++ [48]) ++ en_head C.1.1.1) ++ [163]) ++ en_el 48 (en_exts C.1.1.2 C.1.1.2.1)) := by rw [p76]; simp only [List.append_assoc, en_el, List.cons_append, List.nil_append]
          refine xv_aload_n hX 1 dc_CT_writeTo_79 rfl (rfl : _ = 80) ?_
          refine xv_iload hX 4 dc_CT_writeTo_80 rfl (rfl : _ = 82) ?_
          refine xv_callv hX (As := [.int (nI (M 2 1 + (((([] ++ [48]) ++ [48]) ++ en_head C.1.1.1) ++ [163]).length))]) (rest := []) (ct_BR_insertLength _ Y M76 M (((([] ++ [48]) ++ [48]) ++ en_head C.1.1.1) ++ [163]) (en_el 48 (en_exts C.1.1.2 C.1.1.2.1)) (by rw [q76] <;> try simp only [List.append_assoc, List.nil_append, List.append_nil]) (by simp only [List.length_append, List.length_cons, List.length_nil]; omega) (by have hel := en_el_len 163 (en_el 48 (en_exts C.1.1.2 C.1.1.2.1)); rw [Nat.add_assoc, Nat.add_assoc]; simp only [List.length_append, List.length_cons, List.length_nil] at *; omega)) ml_CT_193 li_BR_insertLength rfl (by decide) rfl rfl rfl (by decide) ⟨by decide, by decide⟩ ⟨Nat.le_refl _, Nat.le_refl _⟩ (Nat.le_of_ble_eq_true rfl) dc_CT_writeTo_82 (rfl : _ = 85) (fun M82 p82 => ?_)
          have q82 : M82 = wr_m M (((([] ++ [48]) ++ [48]) ++ en_head C.1.1.1) ++ en_el 163 (en_el 48 (en_exts C.1.1.2 C.1.1.2.1))) := by rw [p82]; simp only [List.append_assoc, en_el, List.cons_append, List.nil_append]
          refine xv_aload_n hX 1 dc_CT_writeTo_85 rfl (rfl : _ = 86) ?_
          refine xv_iload_n hX 3 dc_CT_writeTo_86 rfl (rfl : _ = 87) ?_
          refine xv_callv hX (As := [.int (nI (M 2 1 + (([] ++ [48]) ++ [48]).length))]) (rest := []) (ct_BR_insertLength _ Y M82 M (([] ++ [48]) ++ [48]) (en_head C.1.1.1 ++ en_el 163 (en_el 48 (en_exts C.1.1.2 C.1.1.2.1))) (by rw [q82] <;> try simp only [List.append_assoc, List.nil_append, List.append_nil]) (by simp only [List.length_append, List.length_cons, List.length_nil]; omega) (by have hel := en_el_len 48 (en_head C.1.1.1 ++ en_el 163 (en_el 48 (en_exts C.1.1.2 C.1.1.2.1))); rw [Nat.add_assoc, Nat.add_assoc]; simp only [List.length_append, List.length_cons, List.length_nil] at *; omega)) ml_CT_193 li_BR_insertLength rfl (by decide) rfl rfl rfl (by decide) ⟨by decide, by decide⟩ ⟨Nat.le_refl _, Nat.le_refl _⟩ (Nat.le_of_ble_eq_true rfl) dc_CT_writeTo_87 (rfl : _ = 90) (fun M87 p87 => ?_)
          have q87 : M87 = wr_m M (([] ++ [48]) ++ en_el 48 (en_head C.1.1.1 ++ en_el 163 (en_el 48 (en_exts C.1.1.2 C.1.1.2.1)))) := by rw [p87]; simp only [List.append_assoc, en_el, List.cons_append, List.nil_append]
          have g90 : M87 c 7 = C.2 := by rw [q87, wr_o (by omega) (by omega)]; exact h7
          refine xv_aload_n hX 1 dc_CT_writeTo_90 rfl (rfl : _ = 91) ?_
          refine xv_aload_n hX 0 dc_CT_writeTo_91 rfl (rfl : _ = 92) ?_
          refine xv_geti hX fl_CT_73 rfl hc.1 (xk_N (by omega)) (v := C.2) g90 dc_CT_writeTo_92 (rfl : _ = 95) ?_
          refine xv_callv hX (As := [.int (nI C.2)]) (rest := []) (ct_BR_appendInteger _ Y M87 C.2 hsg (by rw [q87, wr_21]; simp only [List.length_append, List.length_cons, List.length_nil] at *; omega)) ml_CT_196 li_BR_appendInteger rfl (by decide) rfl rfl rfl (by decide) ⟨by decide, by decide⟩ ⟨Nat.le_refl _, Nat.le_refl _⟩ (Nat.le_of_ble_eq_true rfl) dc_CT_writeTo_95 (rfl : _ = 98) (fun M95 p95 => ?_)
          have q95 : M95 = wr_m M ((([] ++ [48]) ++ en_el 48 (en_head C.1.1.1 ++ en_el 163 (en_el 48 (en_exts C.1.1.2 C.1.1.2.1)))) ++ en_int C.2) := by rw [p95, q87, wr_app]
          refine xv_aload_n hX 1 dc_CT_writeTo_98 rfl (rfl : _ = 99) ?_
          refine xv_iload_n hX 2 dc_CT_writeTo_99 rfl (rfl : _ = 100) ?_
          refine xv_callv hX (As := [.int (nI (M 2 1 + ([] ++ [48]).length))]) (rest := []) (ct_BR_insertLength _ Y M95 M ([] ++ [48]) (en_el 48 (en_head C.1.1.1 ++ en_el 163 (en_el 48 (en_exts C.1.1.2 C.1.1.2.1))) ++ en_int C.2) (by rw [q95] <;> try simp only [List.append_assoc, List.nil_append, List.append_nil]) (by simp only [List.length_append, List.length_cons, List.length_nil]; omega) (by have hel := en_el_len 48 (en_el 48 (en_head C.1.1.1 ++ en_el 163 (en_el 48 (en_exts C.1.1.2 C.1.1.2.1))) ++ en_int C.2); rw [Nat.add_assoc, Nat.add_assoc]; simp only [List.length_append, List.length_cons, List.length_nil] at *; omega)) ml_CT_193 li_BR_insertLength rfl (by decide) rfl rfl rfl (by decide) ⟨by decide, by decide⟩ ⟨Nat.le_refl _, Nat.le_refl _⟩ (Nat.le_of_ble_eq_true rfl) dc_CT_writeTo_100 (rfl : _ = 103) (fun M100 p100 => ?_)
          have q100 : M100 = wr_m M ([] ++ en_el 48 (en_el 48 (en_head C.1.1.1 ++ en_el 163 (en_el 48 (en_exts C.1.1.2 C.1.1.2.1))) ++ en_int C.2)) := by rw [p100]; simp only [List.append_assoc, en_el, List.cons_append, List.nil_append]
          refine xv_retv hX hR dc_CT_writeTo_103 ?_
          rw [q100]
          unfold en_cert
          rw [hmo]
          rfl
        · skip
          cases post with
          | nil => exact absurd c52 (by rw [hkx]; simp only [List.append_nil] at hpp; rw [← hpp, ← hkp]; omega)
          | cons x post =>
            have hxm : x ∈ C.1.1.2.1 := by rw [← hpp]; simp
            have hpl : k < C.1.1.2.1.length := by rw [← hpp, ← hkp]; simp
            have hlx : (en_exts C.1.1.2 C.1.1.2.1).length = (en_exts C.1.1.2 pre).length + ((en_ext C.1.1.2 x).length + (en_exts C.1.1.2 post).length) := by conv => lhs; rw [← hpp, en_exts_app]; simp only [en_exts, List.length_append]
            have hex : ex_is M (c + 6 + 2 * k) x := by have h := hE.1 k hpl; rw [show C.1.1.2.1.getD k (0, false, []) = x by rw [← hpp, ← hkp]; simp] at h; exact h
            refine xv_aload_n hX 0 dc_CT_writeTo_55 rfl (rfl : _ = 56) ?_
            refine xv_aload_n hX 1 dc_CT_writeTo_56 rfl (rfl : _ = 57) ?_
            refine xv_aload_n hX 0 dc_CT_writeTo_57 rfl (rfl : _ = 58) ?_
            refine xv_getr hX fl_CT_23 rfl hc.1 (xk_N (by omega)) hc.2.2.2.1.1 dc_CT_writeTo_58 (rfl : _ = 61) ?_
            refine xv_iload hX 6 dc_CT_writeTo_61 rfl (rfl : _ = 63) ?_
            refine xv_aald hX hc.2.2.2.1.2.1 (C := xw_A4) rfl (xk_N (by omega)) (by omega) (by decide) (v := c + 6 + 2 * k) ((hc.2.2.2.1.2.2 _ (by omega)).1) dc_CT_writeTo_63 (rfl : _ = 64) ?_
            refine xv_callv hX (As := [.ref (Y.2.2.2 2), .ref (Y.2.2.2 (c + 6 + 2 * k))]) (rest := []) (ct_CT_writeExtension _ Y Mk c k C.1.1.2 x hc (by omega) (by rw [hM]; exact wr_ex (by omega) hex) hxm hvE (by rw [hM, wr_o (by omega) (by omega)]; exact hE.2.1) (by rw [hM, wr_o (by omega) (by omega)]; exact hE.2.2.1) (by rw [hM, wr_o (by omega) (by omega)]; exact hE.2.2.2.1) (by rw [hM]; exact wr_nl (by omega) hE.2.2.2.2.1) (by rw [hM]; exact wr_nl (by omega) hE.2.2.2.2.2) (by rw [hM, wr_21]; simp only [List.length_append, List.length_cons, List.length_nil] at *; omega)) ml_CT_189 li_CT_writeExtension hc.1 (xk_N (by omega)) rfl rfl rfl (by decide) ⟨by decide, by decide⟩ ⟨Nat.le_refl _, Nat.le_refl _⟩ (Nat.le_of_ble_eq_true rfl) dc_CT_writeTo_64 (rfl : _ = 67) (fun M64 p64 => ?_)
            have q64 : M64 = wr_m M ((((((([] ++ [48]) ++ [48]) ++ en_head C.1.1.1) ++ [163]) ++ [48]) ++ en_exts C.1.1.2 pre) ++ en_ext C.1.1.2 x) := by rw [p64, hM, wr_app]
            refine xv_iinc hX 6 [1, 2, 3, 4, 5, 6, 0] dc_CT_writeTo_67 rfl (xi_inc k 1) (by decide) (L' := [(0, .ref (Y.2.2.2 c)), (1, .ref (Y.2.2.2 2)), (2, .int (nI (M 2 1 + ([] ++ [48]).length))), (3, .int (nI (M 2 1 + (([] ++ [48]) ++ [48]).length))), (4, .int (nI (M 2 1 + (((([] ++ [48]) ++ [48]) ++ en_head C.1.1.1) ++ [163]).length))), (5, .int (nI (M 2 1 + ((((([] ++ [48]) ++ [48]) ++ en_head C.1.1.1) ++ [163]) ++ [48]).length))), (6, .int (nI (k + 1)))]) rfl (rfl : _ = 70) ?_
            refine xv_goto hX (pq := 46) dc_CT_writeTo_70 (by decide) ?_
            refine xv_sub (L' := [(0, .ref (Y.2.2.2 c)), (1, .ref (Y.2.2.2 2)), (2, .int (nI (M 2 1 + ([] ++ [48]).length))), (3, .int (nI (M 2 1 + (([] ++ [48]) ++ [48]).length))), (4, .int (nI (M 2 1 + (((([] ++ [48]) ++ [48]) ++ en_head C.1.1.1) ++ [163]).length))), (5, .int (nI (M 2 1 + ((((([] ++ [48]) ++ [48]) ++ en_head C.1.1.1) ++ [163]) ++ [48]).length))), (6, .int (nI (k + 1)))]) [0, 1, 2, 3, 4, 5, 6] rfl ?_
            exact ih46 M64 (pre ++ [x]) post (k + 1) (by rw [q64, en_exts_app]; simp [en_exts]) (by rw [← hpp]; simp) (by simp [hkp]) (by simp only [List.length_cons] at *; omega)
    refine xv_sub (L' := [(0, .ref (Y.2.2.2 c)), (1, .ref (Y.2.2.2 2)), (2, .int (nI (M 2 1 + ([] ++ [48]).length))), (3, .int (nI (M 2 1 + (([] ++ [48]) ++ [48]).length))), (4, .int (nI (M 2 1 + (((([] ++ [48]) ++ [48]) ++ en_head C.1.1.1) ++ [163]).length))), (5, .int (nI (M 2 1 + ((((([] ++ [48]) ++ [48]) ++ en_head C.1.1.1) ++ [163]) ++ [48]).length))), (6, .int (nI 0))]) [0, 1, 2, 3, 4, 5, 6] rfl ?_
    exact lp46 _ M38 [] C.1.1.2.1 0 (by rw [q38]; simp only [en_exts, List.append_nil]) rfl rfl (Nat.lt_succ_self _)

theorem ct_H_cg {M M' : xm_M} {c : Nat} {H : ps_H} (h : ∀ q, c ≤ q → M' q = M q) (hH : ct_H M c H) : ct_H M' c H := by
  unfold ct_H nm_is at *
  have e : ∀ k, M' (c + k) = M (c + k) := fun k => h _ (by omega)
  have e0 : M' c = M c := h _ (by omega)
  simp only [Nat.add_assoc] at *
  simp only [e, e0]
  exact hH
theorem ct_E_c2 {M M' : xm_M} {c : Nat} {E : ps_E} (h : ∀ q, c ≤ q → M' q = M q) (hE : ct_E M c E) : ct_E M' c E := by
  unfold ct_E nl_is ex_is nm_is at *
  have e : ∀ k, M' (c + k) = M (c + k) := fun k => h _ (by omega)
  have e0 : M' c = M c := h _ (by omega)
  simp only [Nat.add_assoc] at *
  simp only [e, e0]
  exact hE

set_option maxRecDepth 100000 in
set_option maxHeartbeats 4000000 in
theorem ct_CP_recode (l : Launch) (Y : xw_Y) (M : xm_M) (i : Int32) (hk8 : M 0 3 ≤ 8) (h1 : M 2 1 ≤ 160) (Cs : Nat → ps_C) (hct : ∀ a, a < M 0 3 → ct_H M (6 + 30 * a) (Cs a).1.1.1 ∧ ct_E M (6 + 30 * a) (Cs a).1.1.2 ∧ M (6 + 30 * a) 10 = (Cs a).1.1.2.1.length ∧ M (6 + 30 * a) 7 = (Cs a).2 ∧ cv_H (Cs a).1.1.1 ∧ cv_E (Cs a).1.1.2 ∧ (Cs a).2 < 2147483648 ∧ (en_cert (Cs a)).length ≤ 160) : xc_i l qm_CP_recode 6 Y [.ref (Y.2.2.2 0), .int i] M (fun r M1 => (r = nI 4294967295 ∧ M1 = M ∧ ¬ (0 ≤ i.toInt ∧ i.toInt < (M 0 3 : Nat))) ∨ ∃ a, i = nI a ∧ a < M 0 3 ∧ M1 = wr_m (xm_set M 2 1 0) (en_cert (Cs a)) ∧ r = nI (en_cert (Cs a)).length) := by
  refine xc_i.mk .int rfl (by decide) (Nat.le_of_ble_eq_true rfl) ?_
  intro X hXl hX hR
  subst hXl
  have hX : xv_ok X Y prog_1_method_12_code "CertificatePath" 2 (xc_rm 6) := hX
  show xv_V X Y 2 0 0 xw_lk xw_N M 0 [(0, .ref (Y.2.2.2 0)), (1, .int i)] []
  refine xv_aload_n hX 0 dc_CP_recode_0 rfl (rfl : _ = 1) ?_
  refine xv_iload_n hX 1 dc_CP_recode_1 rfl (rfl : _ = 2) ?_
  refine xv_calli hX (As := [.int i]) (rest := []) (ct_CP_isKept _ Y M i hk8) ml_CP_65 li_CP_isKept rfl (by decide) rfl rfl rfl (by decide) ⟨by decide, by decide⟩ ⟨Nat.le_refl _, Nat.le_refl _⟩ (Nat.le_of_ble_eq_true rfl) dc_CP_recode_2 (rfl : _ = 5) (fun r2 M2 p2 => ?_)
  obtain ⟨pMa, ta, pra, pta, pia⟩ := p2
  rw [pMa, pra]
  refine xv_if_ne hX (nI_toInt (by omega)) (tgt := 10) (pq := 8) dc_CP_recode_5 (by decide) rfl (fun c5 => ?_) (fun c5 => ?_)
  · skip
    have hka := pia.mp (by omega)
    obtain ⟨x, hx, rfl⟩ := xi_of (x := i) (by omega)
    have tx : (nI x).toInt = (x : Int) := nI_toInt hx
    obtain ⟨c1, c2, c3, c4, c5, c6, c7, c8⟩ := hct x (by omega)
    refine xv_aload_n hX 0 dc_CP_recode_10 rfl (rfl : _ = 11) ?_
    refine xv_getr hX fl_CP_20 rfl rfl (by decide) rfl dc_CP_recode_11 (rfl : _ = 14) ?_
    refine xv_iconst hX (v := nI 0) dc_CP_recode_14 (by decide) (rfl : _ = 15) ?_
    refine xv_puti hX fl_CP_41 rfl rfl (by decide) dc_CP_recode_15 (rfl : _ = 18) ?_
    refine xv_aload_n hX 0 dc_CP_recode_18 rfl (rfl : _ = 19) ?_
    refine xv_getr hX fl_CP_25 rfl rfl (by decide) rfl dc_CP_recode_19 (rfl : _ = 22) ?_
    refine xv_iload_n hX 1 dc_CP_recode_22 rfl (rfl : _ = 23) ?_
    refine xv_aald hX rfl (C := xw_A2) rfl (by decide) (by omega) (by decide) (v := 6 + 30 * x) (xk_l5 (by omega)) dc_CP_recode_23 (rfl : _ = 24) ?_
    refine xv_aload_n hX 0 dc_CP_recode_24 rfl (rfl : _ = 25) ?_
    refine xv_getr hX fl_CP_20 rfl rfl (by decide) rfl dc_CP_recode_25 (rfl : _ = 28) ?_
    refine xv_callv hX (As := [.ref (Y.2.2.2 2)]) (rest := []) (ct_CT_writeTo _ Y (xm_set M 2 1 0) (6 + 30 * x) (Cs x) (xk_cert (by omega)) (ct_H_cg (fun q a => xm_oth (by omega)) c1) (ct_E_c2 (fun q a => xm_oth (by omega)) c2) (by rw [xm_oth (by omega)]; exact c3) (by rw [xm_oth (by omega)]; exact c4) c5 c6 c7 (by rw [xm_eq]; omega)) ml_CP_81 li_CT_writeTo (xk_cert (by omega)).1 (xk_N (by omega)) rfl rfl rfl (by decide) ⟨by decide, by decide⟩ ⟨Nat.le_refl _, Nat.le_refl _⟩ (Nat.le_of_ble_eq_true rfl) dc_CP_recode_28 (rfl : _ = 31) (fun M28 p28 => ?_)
    have z28 : M28 2 1 = (en_cert (Cs x)).length := by rw [p28, wr_21, xm_eq]; omega
    refine xv_aload_n hX 0 dc_CP_recode_31 rfl (rfl : _ = 32) ?_
    refine xv_getr hX fl_CP_20 rfl rfl (by decide) rfl dc_CP_recode_32 (rfl : _ = 35) ?_
    refine xv_geti hX fl_CP_41 rfl rfl (by decide) (v := M28 2 1) rfl dc_CP_recode_35 (rfl : _ = 38) ?_
    refine xv_reti hX hR rfl dc_CP_recode_38 ?_
    exact Or.inr ⟨x, rfl, by omega, p28, by rw [z28]⟩
  · skip
    refine xv_iconst hX (v := nI 4294967295) dc_CP_recode_8 (by decide) (rfl : _ = 9) ?_
    refine xv_reti hX hR rfl dc_CP_recode_9 ?_
    exact Or.inl ⟨rfl, rfl, fun z => by have := pia.mpr z; omega⟩
