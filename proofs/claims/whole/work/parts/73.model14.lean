/-! the reference: broken -/
theorem md_G.b {M M' : xm_M} {As : Nat → ab_T} (h : md_G M As) (g : md_Y md_bl M M') : md_G M' As := by
  unfold md_G at *
  rw [g.2 2 (by decide), g.1 278 (by decide) (by decide), g.1 279 (by decide) (by decide)]
  exact h
/-- the answer of broken at place p -/
def bk_P (As : Nat → ab_T) (P : Nat → Nat) (len p km ke : Nat) (hn : ps_N) (T : Int) (a : Nat) (rest : Int) (w : Nat) : Prop := ∃ v, ab_any5 As P len p km ke hn T v ∧ ((v ≠ 0 ∧ w = v) ∨ (v = 0 ∧ ((p + 1 = len ∧ gk_last (ab_us (As (P p))) a w) ∨ (p + 1 ≠ len ∧ gk_hold (ab_au (As (P p))) (ab_self (As (P p))) (ab_us (As (P p))) rest w))))
/-- the key taken over -/
def bk_Q (b : Nat → Nat) (A : ab_T) (rest : Int) (M1 : xm_M) : Prop := M1 277 38 = A.1.2.2.2.2.1 ∧ M1 277 39 = A.1.2.2.2.2.2 ∧ ps_labels b (M1 277 41) 4 (M1 277 40) = some A.1.2.2.2.1 ∧ M1 277 40 ≤ M1 277 41 ∧ M1 277 41 ≤ 1440 ∧ M1 277 42 ≤ 6 ∧ gk_rest (ab_self A) (ab_re A) rest (M1 277 42 : Nat)
def bk_L (S : Prop) (rest l : Nat) : Prop := ((S ∧ l = rest) ∨ (¬ S ∧ l + 1 = rest)) ∧ (S ∨ (0 : Int) < rest)
def bk_R (re l r : Nat) : Prop := (re ≠ 4294967295 ∧ re < l ∧ r = re) ∨ (¬ (re ≠ 4294967295 ∧ re < l) ∧ r = l)
theorem bk_g {S : Prop} {re rest l r : Nat} (h : bk_L S rest l) (g : bk_R re l r) : gk_rest S re (rest : Nat) (r : Nat) := by
  unfold bk_L at h
  unfold bk_R at g
  refine ⟨(l : Nat), ?_, ?_⟩
  · rcases h.1 with ⟨a, b⟩ | ⟨a, b⟩
    · exact Or.inl ⟨a, by omega⟩
    · exact Or.inr ⟨a, by omega⟩
  · rcases g with ⟨a, b, c⟩ | ⟨a, b⟩
    · exact Or.inl ⟨a, by omega, by omega⟩
    · exact Or.inr ⟨fun z => a ⟨z.1, by omega⟩, by omega⟩
theorem bk_take {b : Nat → Nat} {A : ab_T} {rest : Int} {M1 M2 M3 : xm_M} (hM : M3 = xm_set (xm_set (xm_set (xm_set M2 277 38 (M2 277 11)) 277 39 (M2 277 12)) 277 40 (M2 277 22)) 277 41 (M2 277 23)) (hH : md_H b M1 A.1) (eX : ∀ j, j ≠ 42 → M2 277 j = M1 277 j) (e42 : M2 277 42 ≤ 6) (eR : gk_rest (ab_self A) (ab_re A) rest (M2 277 42 : Nat)) : bk_Q b A rest M3 := by
  obtain ⟨-, -, -, h4, h5, h6⟩ := hH
  obtain ⟨n1, -, n3, n4⟩ := h4
  rw [← eX 22 (by decide), ← eX 23 (by decide)] at n1 n3
  rw [← eX 23 (by decide)] at n4
  rw [← eX 11 (by decide)] at h5
  rw [← eX 12 (by decide)] at h6
  have k38 : M3 277 38 = M2 277 11 := by rw [hM, xm_nk (by decide), xm_nk (by decide), xm_nk (by decide), xm_eq]
  have k39 : M3 277 39 = M2 277 12 := by rw [hM, xm_nk (by decide), xm_nk (by decide), xm_eq]
  have k40 : M3 277 40 = M2 277 22 := by rw [hM, xm_nk (by decide), xm_eq]
  have k41 : M3 277 41 = M2 277 23 := by rw [hM, xm_eq]
  have k42 : M3 277 42 = M2 277 42 := by rw [hM, xm_nk (by decide), xm_nk (by decide), xm_nk (by decide), xm_nk (by decide)]
  refine ⟨k38.trans h5, k39.trans h6, ?_, ?_, ?_, ?_, ?_⟩
  · rw [k40, k41]; exact n1
  · rw [k40, k41]; exact n3
  · rw [k41]; exact n4
  · rw [k42]; exact e42
  · rw [k42]; exact eR
theorem bk_tY {M2 M3 : xm_M} (hM : M3 = xm_set (xm_set (xm_set (xm_set M2 277 38 (M2 277 11)) 277 39 (M2 277 12)) 277 40 (M2 277 22)) 277 41 (M2 277 23)) : md_Y md_bl M2 M3 := by
  rw [hM]
  exact (md_Y.tt ((md_X.set _ 38 _).y.up (by decide)) (md_Y.tt ((md_X.set _ 39 _).y.up (by decide)) (md_Y.tt ((md_X.set _ 40 _).y.up (by decide)) ((md_X.set _ 41 _).y.up (by decide)))))

set_option maxRecDepth 100000 in
set_option maxHeartbeats 4000000 in
theorem ct_MD_broken (ln : Launch) (Y : xw_Y) (M : xm_M) (p : Nat) (T : Int32) (a : Nat) (hn : ps_N) (As : Nat → ab_T) (hG : md_G M As) (hp : p < M 277 5) (hl6 : M 277 5 ≤ 6) (hpa : ∀ q, q < M 277 5 → M 280 q < M 277 2) (hkm : 2 ≤ M 277 38) (hkm2 : M 277 38 < 2147483648) (hke : M 277 39 ≤ 1000) (hho : ps_labels (M 278) (M 277 41) 4 (M 277 40) = some hn) (hh1 : M 277 40 ≤ M 277 41) (hh2 : M 277 41 ≤ 1440) (hre6 : M 277 42 ≤ 6) (ha : a < 256) : xc_i ln qm_MD_broken 11 Y [.ref (Y.2.2.2 277), .int (nI p), .int T, .int (nI a)] M (fun r M1 => md_Y md_bl M M1 ∧ ∃ w : Nat, r = nI w ∧ w ≤ 9 ∧ bk_P As (M 280) (M 277 5) p (M 277 38) (M 277 39) hn T.toInt a (M 277 42 : Nat) w ∧ (w = 0 → p + 1 ≠ M 277 5 → bk_Q (M 278) (As (M 280 p)) (M 277 42 : Nat) M1)) := by
  refine xc_i.mk .int rfl (by decide) (Nat.le_of_ble_eq_true rfl) ?_
  intro X hXl hX hR
  subst hXl
  have hX : xv_ok X Y prog_9_method_40_code "CertificatePathModel" 7 (xc_rm 11) := hX
  show xv_V X Y 7 0 0 xw_lk xw_N M 0 [(0, .ref (Y.2.2.2 277)), (1, .int (nI p)), (2, .int T), (3, .int (nI a))] []
  obtain ⟨hk8, hby, hkp⟩ := id hG
  have hpp := hpa p hp
  have hV := hG.v hpp
  have hVs := hV.2.2.1
  have hV9 := hV.1.2.2.1.1
  have hV10 := hV.1.2.2.1.2
  clear hkp
  refine xv_iload_n hX 1 dc_MD_broken_0 rfl (rfl : _ = 1) ?_
  refine xv_aload_n hX 0 dc_MD_broken_1 rfl (rfl : _ = 2) ?_
  refine xv_geti hX fl_MD_190 rfl rfl (by decide) (v := M 277 5) rfl dc_MD_broken_2 (rfl : _ = 5) ?_
  refine xv_iconst hX (v := nI 1) dc_MD_broken_5 (by decide) (rfl : _ = 6) ?_
  refine xv_isub hX dc_MD_broken_6 (pk_sub (by omega)) (rfl : _ = 7) ?_
  have J15 : ∀ (la : Nat) (hla : la < 2) (hl : la = 1 ↔ p + 1 = M 277 5), xv_V X Y 7 0 0 xw_lk xw_N M 15 [(0, .ref (Y.2.2.2 277)), (1, .int (nI p)), (2, .int T), (3, .int (nI a))] [.int (nI la)] := by
    intro la hla hl
    refine xv_istore hX [1, 2, 3, 4, 0] dc_MD_broken_15 (by decide) (L' := [(0, .ref (Y.2.2.2 277)), (1, .int (nI p)), (2, .int T), (3, .int (nI a)), (4, .int (nI la))]) rfl (rfl : _ = 17) ?_
    refine xv_aload_n hX 0 dc_MD_broken_17 rfl (rfl : _ = 18) ?_
    refine xv_aload_n hX 0 dc_MD_broken_18 rfl (rfl : _ = 19) ?_
    refine xv_getr hX fl_MD_16 rfl rfl (by decide) rfl dc_MD_broken_19 (rfl : _ = 22) ?_
    refine xv_iload_n hX 1 dc_MD_broken_22 rfl (rfl : _ = 23) ?_
    refine xv_iald hX rfl (by decide) (by omega) (by decide) (v := M 280 p) rfl dc_MD_broken_23 (rfl : _ = 24) ?_
    refine xv_calli hX (As := [.int (nI (M 280 p))]) (rest := []) (ct_MD_fetch _ Y M (nI (M 280 p)) As hG) ml_MD_183 li_MD_fetch rfl (by decide) rfl rfl rfl (by decide) ⟨by decide, by decide⟩ ⟨Nat.le_refl _, Nat.le_refl _⟩ (Nat.le_of_ble_eq_true rfl) dc_MD_broken_24 (rfl : _ = 27) (fun r24 M24 p24 => ?_)
    obtain ⟨f24, h24⟩ := p24
    obtain ⟨hr24, hA24⟩ := md_fch hpp hk8 h24
    clear h24
    rw [hr24]
    obtain ⟨hH24, hE24, h14_24, h15_24, hHs24, hSg24⟩ := hA24
    refine xv_istore hX [1, 2, 3, 4, 5, 0] dc_MD_broken_27 (by decide) (L' := [(0, .ref (Y.2.2.2 277)), (1, .int (nI p)), (2, .int T), (3, .int (nI a)), (4, .int (nI la)), (5, .int (nI 1))]) rfl (rfl : _ = 29) ?_
    refine xv_iload hX 5 dc_MD_broken_29 rfl (rfl : _ = 31) ?_
    refine xv_if_eq hX (show (nI 1).toInt = 1 by decide) (tgt := 41) (pq := 34) dc_MD_broken_31 (by decide) rfl (fun c31 => ?_) (fun c31 => ?_)
    · exact absurd c31 (by decide)
    · skip
      have b24 : M24 278 = M 278 := f24.1 278 (by decide) (by decide)
      have b240 : M24 280 = M 280 := f24.1 280 (by decide) (by decide)
      have G24 := hG.y f24
      have k2 : M24 277 2 = M 277 2 := f24.2 2 (by decide)
      have k38 : M24 277 38 = M 277 38 := f24.2 38 (by decide)
      have k39 : M24 277 39 = M 277 39 := f24.2 39 (by decide)
      have k40 : M24 277 40 = M 277 40 := f24.2 40 (by decide)
      have k41 : M24 277 41 = M 277 41 := f24.2 41 (by decide)
      have s9 : M24 277 9 = (As (M 280 p)).1.2.2.1.1 := hH24.2.2.1.1
      have s10 : M24 277 10 = (As (M 280 p)).1.2.2.1.2 := hH24.2.2.1.2
      have kI := hH24.2.1
      have kS := hH24.2.2.2.1
      obtain ⟨-, -, nI1, nI2⟩ := id kI
      obtain ⟨-, -, nS1, nS2⟩ := id kS
      refine xv_aload_n hX 0 dc_MD_broken_34 rfl (rfl : _ = 35) ?_
      refine xv_calli hX (As := []) (rest := []) (ct_MD_signedByKey _ Y M24 (by omega) (by omega) (by omega) (by omega) (by omega) (by omega) G24.2.1) ml_MD_208 li_MD_signedByKey rfl (by decide) rfl rfl rfl (by decide) ⟨by decide, by decide⟩ ⟨Nat.le_refl _, Nat.le_refl _⟩ (Nat.le_of_ble_eq_true rfl) dc_MD_broken_35 (rfl : _ = 38) (fun r35 M35 p35 => ?_)
      obtain ⟨pM35, t35, pr35, pt35, pi35⟩ := p35
      rw [pM35, pr35]
      have hsg : t35 = 1 ↔ ck_sig (As (M 280 p)).2.2.1 (As (M 280 p)).2.2.2 (M 277 38) (M 277 39) := by rw [pi35, b24, hHs24, hSg24, k38, k39]
      refine xv_if_ne hX (nI_toInt (by omega)) (tgt := 43) (pq := 41) dc_MD_broken_38 (by decide) rfl (fun c38 => ?_) (fun c38 => ?_)
      · skip
        refine xv_iload_n hX 2 dc_MD_broken_43 rfl (rfl : _ = 44) ?_
        refine xv_aload_n hX 0 dc_MD_broken_44 rfl (rfl : _ = 45) ?_
        refine xv_geti hX fl_MD_144 rfl rfl (by decide) (v := M24 277 9) rfl dc_MD_broken_45 (rfl : _ = 48) ?_
        refine xv_icmp_lt hX (rfl : (T).toInt = _) (nI_toInt (by omega)) (tgt := 59) (pq := 51) dc_MD_broken_48 (by decide) rfl (fun c48 => ?_) (fun c48 => ?_)
        · skip
          refine xv_iconst hX (v := nI 2) dc_MD_broken_59 (by decide) (rfl : _ = 60) ?_
          refine xv_reti hX hR rfl dc_MD_broken_60 ?_
          exact ⟨f24.up (by decide), 2, rfl, by decide, ⟨2, Or.inr ⟨hsg.mp (by omega), Or.inl ⟨rfl, fun z => by omega⟩⟩, Or.inl ⟨by decide, rfl⟩⟩, fun z => absurd z (by decide)⟩
        · skip
          refine xv_iload_n hX 2 dc_MD_broken_51 rfl (rfl : _ = 52) ?_
          refine xv_aload_n hX 0 dc_MD_broken_52 rfl (rfl : _ = 53) ?_
          refine xv_geti hX fl_MD_147 rfl rfl (by decide) (v := M24 277 10) rfl dc_MD_broken_53 (rfl : _ = 56) ?_
          refine xv_icmp_le hX (rfl : (T).toInt = _) (nI_toInt (by omega)) (tgt := 61) (pq := 59) dc_MD_broken_56 (by decide) rfl (fun c56 => ?_) (fun c56 => ?_)
          · skip
            refine xv_aload_n hX 0 dc_MD_broken_61 rfl (rfl : _ = 62) ?_
            refine xv_aload_n hX 0 dc_MD_broken_62 rfl (rfl : _ = 63) ?_
            refine xv_geti hX fl_MD_135 rfl rfl (by decide) (v := M24 277 19) rfl dc_MD_broken_63 (rfl : _ = 66) ?_
            refine xv_aload_n hX 0 dc_MD_broken_66 rfl (rfl : _ = 67) ?_
            refine xv_geti hX fl_MD_138 rfl rfl (by decide) (v := M24 277 20) rfl dc_MD_broken_67 (rfl : _ = 70) ?_
            refine xv_aload_n hX 0 dc_MD_broken_70 rfl (rfl : _ = 71) ?_
            refine xv_geti hX fl_MD_202 rfl rfl (by decide) (v := M24 277 40) rfl dc_MD_broken_71 (rfl : _ = 74) ?_
            refine xv_aload_n hX 0 dc_MD_broken_74 rfl (rfl : _ = 75) ?_
            refine xv_geti hX fl_MD_205 rfl rfl (by decide) (v := M24 277 41) rfl dc_MD_broken_75 (rfl : _ = 78) ?_
            refine xv_calli hX (As := [.int (nI (M24 277 19)), .int (nI (M24 277 20)), .int (nI (M24 277 40)), .int (nI (M24 277 41))]) (rest := []) (ct_MD_equalNames _ Y M24 (M24 277 19) (M24 277 20) (M24 277 40) (M24 277 41) (by omega) (by omega) (by omega) (by omega) G24.2.1) ml_MD_212 li_MD_equalNames rfl (by decide) rfl rfl rfl (by decide) ⟨by decide, by decide⟩ ⟨Nat.le_refl _, Nat.le_refl _⟩ (Nat.le_of_ble_eq_true rfl) dc_MD_broken_78 (rfl : _ = 81) (fun r78 M78 p78 => ?_)
            obtain ⟨pM78, t78, pr78, pt78, pi78⟩ := p78
            rw [pM78, pr78]
            have he1 : t78 = 1 ↔ (As (M 280 p)).1.2.1 = hn := by rw [pi78, b24]; exact nw_eq nI1 (by rw [k40, k41]; exact hh1) kI.1 (by rw [k40, k41]; exact hho)
            refine xv_if_ne hX (nI_toInt (by omega)) (tgt := 86) (pq := 84) dc_MD_broken_81 (by decide) rfl (fun c81 => ?_) (fun c81 => ?_)
            · skip
              refine xv_aload_n hX 0 dc_MD_broken_86 rfl (rfl : _ = 87) ?_
              refine xv_aload_n hX 0 dc_MD_broken_87 rfl (rfl : _ = 88) ?_
              refine xv_geti hX fl_MD_135 rfl rfl (by decide) (v := M24 277 19) rfl dc_MD_broken_88 (rfl : _ = 91) ?_
              refine xv_aload_n hX 0 dc_MD_broken_91 rfl (rfl : _ = 92) ?_
              refine xv_geti hX fl_MD_138 rfl rfl (by decide) (v := M24 277 20) rfl dc_MD_broken_92 (rfl : _ = 95) ?_
              refine xv_aload_n hX 0 dc_MD_broken_95 rfl (rfl : _ = 96) ?_
              refine xv_geti hX fl_MD_150 rfl rfl (by decide) (v := M24 277 22) rfl dc_MD_broken_96 (rfl : _ = 99) ?_
              refine xv_aload_n hX 0 dc_MD_broken_99 rfl (rfl : _ = 100) ?_
              refine xv_geti hX fl_MD_153 rfl rfl (by decide) (v := M24 277 23) rfl dc_MD_broken_100 (rfl : _ = 103) ?_
              refine xv_calli hX (As := [.int (nI (M24 277 19)), .int (nI (M24 277 20)), .int (nI (M24 277 22)), .int (nI (M24 277 23))]) (rest := []) (ct_MD_equalNames _ Y M24 (M24 277 19) (M24 277 20) (M24 277 22) (M24 277 23) (by omega) (by omega) (by omega) (by omega) G24.2.1) ml_MD_212 li_MD_equalNames rfl (by decide) rfl rfl rfl (by decide) ⟨by decide, by decide⟩ ⟨Nat.le_refl _, Nat.le_refl _⟩ (Nat.le_of_ble_eq_true rfl) dc_MD_broken_103 (rfl : _ = 106) (fun r103 M103 p103 => ?_)
              obtain ⟨pM103, t103, pr103, pt103, pi103⟩ := p103
              rw [pM103, pr103]
              have he2 : t103 = 1 ↔ ab_self (As (M 280 p)) := by rw [pi103, b24]; exact nw_eq nI1 nS1 kI.1 kS.1
              refine xv_istore hX [1, 2, 3, 4, 5, 6, 0] dc_MD_broken_106 (by decide) (L' := [(0, .ref (Y.2.2.2 277)), (1, .int (nI p)), (2, .int T), (3, .int (nI a)), (4, .int (nI la)), (5, .int (nI 1)), (6, .int (nI t103))]) rfl (rfl : _ = 108) ?_
              have hN := he1.mp (by omega)
              have hT : ((As (M 280 p)).1.2.2.1.1 : Int) ≤ T.toInt ∧ T.toInt ≤ ((As (M 280 p)).1.2.2.1.2 : Int) := ⟨by omega, by omega⟩
              have hS := hsg.mp (by omega)
              have J136 : ∀ (Mc : xm_M) (hFc : md_Y md_al M Mc) (hps : (p + 1 ≠ M 277 5 ∧ ab_self (As (M 280 p))) ∨ ∀ q, q < p → ab_al (As (M 280 q)) (As (M 280 p)).1.2.2.2.1), xv_V X Y 7 0 0 xw_lk xw_N Mc 136 [(0, .ref (Y.2.2.2 277)), (1, .int (nI p)), (2, .int T), (3, .int (nI a)), (4, .int (nI la)), (6, .int (nI t103))] [] := by
                intro Mc hFc hps
                have b280 : Mc 280 p = M 280 p := by rw [hFc.1 280 (by decide) (by decide)]
                refine xv_aload_n hX 0 dc_MD_broken_136 rfl (rfl : _ = 137) ?_
                refine xv_aload_n hX 0 dc_MD_broken_137 rfl (rfl : _ = 138) ?_
                refine xv_getr hX fl_MD_16 rfl rfl (by decide) rfl dc_MD_broken_138 (rfl : _ = 141) ?_
                refine xv_iload_n hX 1 dc_MD_broken_141 rfl (rfl : _ = 142) ?_
                refine xv_iald hX rfl (by decide) (by omega) (by decide) (v := M 280 p) b280 dc_MD_broken_142 (rfl : _ = 143) ?_
                refine xv_calli hX (As := [.int (nI (M 280 p))]) (rest := []) (ct_MD_fetch _ Y Mc (nI (M 280 p)) As (hG.y hFc)) ml_MD_183 li_MD_fetch rfl (by decide) rfl rfl rfl (by decide) ⟨by decide, by decide⟩ ⟨Nat.le_refl _, Nat.le_refl _⟩ (Nat.le_of_ble_eq_true rfl) dc_MD_broken_143 (rfl : _ = 146) (fun r143 M143 p143 => ?_)
                obtain ⟨f143, h143⟩ := p143
                rw [show Mc 277 2 = M 277 2 from hFc.2 2 (by decide), show Mc 278 = M 278 from hFc.1 278 (by decide) (by decide)] at h143
                obtain ⟨hr143, hA143⟩ := md_fch hpp hk8 h143
                clear h143
                rw [hr143]
                obtain ⟨hH143, hE143, h14_143, h15_143, hHs143, hSg143⟩ := hA143
                refine xv_istore hX [1, 2, 3, 4, 5, 0, 6] dc_MD_broken_146 (by decide) (L' := [(0, .ref (Y.2.2.2 277)), (1, .int (nI p)), (2, .int T), (3, .int (nI a)), (4, .int (nI la)), (5, .int (nI 1)), (6, .int (nI t103))]) rfl (rfl : _ = 148) ?_
                have F := hFc.tt f143
                have hcr := hE143.1.2.2.2.2
                have hcr1 := hE143.1.2.2.2.1
                have s31 : M143 277 31 = ab_us (As (M 280 p)) := hE143.2.1.2.2.2.2.1
                have s30 : M143 277 30 = ab_re (As (M 280 p)) := hE143.2.1.2.2.2.1
                have s29 : M143 277 29 = ab_au (As (M 280 p)) := hE143.2.1.2.2.1
                have s28 := hE143.2.1.1
                have hbas : ab_au (As (M 280 p)) = 1 → M143 277 28 = 1 := by
                  intro z
                  apply hE143.2.1.2.1
                  unfold ab_au at z
                  split at z
                  · assumption
                  · cases z
                have hau1 := ab_au_b (As (M 280 p))
                have k42c : M143 277 42 = M 277 42 := F.2 42 (by decide)
                refine xv_aload_n hX 0 dc_MD_broken_148 rfl (rfl : _ = 149) ?_
                refine xv_geti hX fl_MD_108 rfl rfl (by decide) (v := M143 277 27) rfl dc_MD_broken_149 (rfl : _ = 152) ?_
                refine xv_if_eq hX (nI_toInt (by omega)) (tgt := 157) (pq := 155) dc_MD_broken_152 (by decide) rfl (fun c152 => ?_) (fun c152 => ?_)
                · skip
                  have hv0 : ab_any5 As (M 280) (M 277 5) p (M 277 38) (M 277 39) hn T.toInt 0 := Or.inr ⟨hS, Or.inr ⟨hT, Or.inr ⟨hN, Or.inr ⟨hps, Or.inr ⟨rfl, fun z => by have := hcr.mpr z; omega⟩⟩⟩⟩⟩
                  clear hcr hps
                  refine xv_iload hX 4 dc_MD_broken_157 rfl (rfl : _ = 159) ?_
                  refine xv_if_eq hX (nI_toInt (by omega)) (tgt := 188) (pq := 162) dc_MD_broken_159 (by decide) rfl (fun c159 => ?_) (fun c159 => ?_)
                  · skip
                    refine xv_aload_n hX 0 dc_MD_broken_188 rfl (rfl : _ = 189) ?_
                    refine xv_geti hX fl_MD_60 rfl rfl (by decide) (v := M143 277 28) rfl dc_MD_broken_189 (rfl : _ = 192) ?_
                    refine xv_if_eq hX (nI_toInt (by omega)) (tgt := 202) (pq := 195) dc_MD_broken_192 (by decide) rfl (fun c192 => ?_) (fun c192 => ?_)
                    · skip
                      refine xv_bipush hX (v := nI 6) dc_MD_broken_202 (by decide) (rfl : _ = 204) ?_
                      refine xv_reti hX hR rfl dc_MD_broken_204 ?_
                      exact ⟨F.up (by decide), 6, rfl, by decide, ⟨0, hv0, Or.inr ⟨rfl, Or.inr ⟨by omega, Or.inl ⟨rfl, by omega⟩⟩⟩⟩, fun z => absurd z (by decide)⟩
                    · skip
                      refine xv_aload_n hX 0 dc_MD_broken_195 rfl (rfl : _ = 196) ?_
                      refine xv_geti hX fl_MD_67 rfl rfl (by decide) (v := M143 277 29) rfl dc_MD_broken_196 (rfl : _ = 199) ?_
                      refine xv_if_ne hX (nI_toInt (by omega)) (tgt := 205) (pq := 202) dc_MD_broken_199 (by decide) rfl (fun c199 => ?_) (fun c199 => ?_)
                      · skip
                        have hne : p + 1 ≠ M 277 5 := by omega
                        have hau : ab_au (As (M 280 p)) = 1 := by omega
                        have J276 : ∀ (M2 : xm_M) (hF2 : md_Y md_bl M M2) (e42 : M2 277 42 ≤ 6) (eR : gk_rest (ab_self (As (M 280 p))) (ab_re (As (M 280 p))) (M 277 42 : Nat) (M2 277 42 : Nat)) (hho : ab_self (As (M 280 p)) ∨ (0 : Int) < (M 277 42 : Nat)) (eX : ∀ j, j ≠ 42 → M2 277 j = M143 277 j), xv_V X Y 7 0 0 xw_lk xw_N M2 276 [(0, .ref (Y.2.2.2 277)), (1, .int (nI p)), (2, .int T), (3, .int (nI a)), (4, .int (nI la)), (6, .int (nI t103))] [] := by
                          intro M2 hF2 e42 eR hho eX
                          have e31 : M2 277 31 = ab_us (As (M 280 p)) := (eX 31 (by decide)).trans s31
                          rcases (ab_us_b hV) with hu | hu
                          · skip
                            refine xv_aload_n hX 0 dc_MD_broken_276 rfl (rfl : _ = 277) ?_
                            refine xv_geti hX fl_MD_57 rfl rfl (by decide) (v := 4294967295) (e31.trans hu) dc_MD_broken_277 (rfl : _ = 280) ?_
                            refine xv_iconst hX (v := nI 4294967295) dc_MD_broken_280 (by decide) (rfl : _ = 281) ?_
                            refine xv_icmp_eq hX (show (nI 4294967295).toInt = -1 by decide) (show (nI 4294967295).toInt = -1 by decide) (tgt := 298) (pq := 284) dc_MD_broken_281 (by decide) rfl (fun c281 => ?_) (fun c281 => ?_)
                            · skip
                              refine xv_aload_n hX 0 dc_MD_broken_298 rfl (rfl : _ = 299) ?_
                              refine xv_callv hX (As := []) (rest := []) (ct_MD_takeKey _ Y M2) ml_MD_222 li_MD_takeKey rfl (by decide) rfl rfl rfl (by decide) ⟨by decide, by decide⟩ ⟨Nat.le_refl _, Nat.le_refl _⟩ (Nat.le_of_ble_eq_true rfl) dc_MD_broken_299 (rfl : _ = 302) (fun M299 p299 => ?_)
                              refine xv_iconst hX (v := nI 0) dc_MD_broken_302 (by decide) (rfl : _ = 303) ?_
                              refine xv_reti hX hR rfl dc_MD_broken_303 ?_
                              exact ⟨hF2.tt (bk_tY p299), 0, rfl, by decide, ⟨0, hv0, Or.inr ⟨rfl, Or.inr ⟨hne, Or.inr (Or.inr ⟨hau, hho, Or.inr ⟨rfl, Or.inl hu⟩⟩)⟩⟩⟩, fun _ _ => bk_take p299 hH143 eX e42 eR⟩
                            · skip
                              exact absurd rfl c281
                          · skip
                            refine xv_aload_n hX 0 dc_MD_broken_276 rfl (rfl : _ = 277) ?_
                            refine xv_geti hX fl_MD_57 rfl rfl (by decide) (v := ab_us (As (M 280 p))) e31 dc_MD_broken_277 (rfl : _ = 280) ?_
                            refine xv_iconst hX (v := nI 4294967295) dc_MD_broken_280 (by decide) (rfl : _ = 281) ?_
                            refine xv_icmp_eq hX (nI_toInt (by omega)) (show (nI 4294967295).toInt = -1 by decide) (tgt := 298) (pq := 284) dc_MD_broken_281 (by decide) rfl (fun c281 => ?_) (fun c281 => ?_)
                            · skip
                              exact absurd c281 (by omega)
                            · skip
                              refine xv_aload_n hX 0 dc_MD_broken_284 rfl (rfl : _ = 285) ?_
                              refine xv_geti hX fl_MD_57 rfl rfl (by decide) (v := ab_us (As (M 280 p))) e31 dc_MD_broken_285 (rfl : _ = 288) ?_
                              refine xv_iconst hX (v := nI 5) dc_MD_broken_288 (by decide) (rfl : _ = 289) ?_
                              refine xv_ishr hX dc_MD_broken_289 (us_shr _ hu 5 (by decide)) (rfl : _ = 290) ?_
                              refine xv_iconst hX (v := nI 1) dc_MD_broken_290 (by decide) (rfl : _ = 291) ?_
                              refine xv_iand hX dc_MD_broken_291 (xi_and1 (by omega)) (rfl : _ = 292) ?_
                              refine xv_if_ne hX (nI_toInt (by omega)) (tgt := 298) (pq := 295) dc_MD_broken_292 (by decide) rfl (fun c292 => ?_) (fun c292 => ?_)
                              · skip
                                refine xv_aload_n hX 0 dc_MD_broken_298 rfl (rfl : _ = 299) ?_
                                refine xv_callv hX (As := []) (rest := []) (ct_MD_takeKey _ Y M2) ml_MD_222 li_MD_takeKey rfl (by decide) rfl rfl rfl (by decide) ⟨by decide, by decide⟩ ⟨Nat.le_refl _, Nat.le_refl _⟩ (Nat.le_of_ble_eq_true rfl) dc_MD_broken_299 (rfl : _ = 302) (fun M299 p299 => ?_)
                                refine xv_iconst hX (v := nI 0) dc_MD_broken_302 (by decide) (rfl : _ = 303) ?_
                                refine xv_reti hX hR rfl dc_MD_broken_303 ?_
                                exact ⟨hF2.tt (bk_tY p299), 0, rfl, by decide, ⟨0, hv0, Or.inr ⟨rfl, Or.inr ⟨hne, Or.inr (Or.inr ⟨hau, hho, Or.inr ⟨rfl, Or.inr (by omega)⟩⟩)⟩⟩⟩, fun _ _ => bk_take p299 hH143 eX e42 eR⟩
                              · skip
                                refine xv_bipush hX (v := nI 8) dc_MD_broken_295 (by decide) (rfl : _ = 297) ?_
                                refine xv_reti hX hR rfl dc_MD_broken_297 ?_
                                exact ⟨hF2, 8, rfl, by decide, ⟨0, hv0, Or.inr ⟨rfl, Or.inr ⟨by omega, Or.inr (Or.inr ⟨hau, hho, Or.inl ⟨rfl, by omega, by omega⟩⟩)⟩⟩⟩, fun z => absurd z (by decide)⟩
                        have J239 : ∀ (l1 : Nat) (hl16 : l1 ≤ 6) (hL1 : bk_L (ab_self (As (M 280 p))) (M 277 42) l1), xv_V X Y 7 0 0 xw_lk xw_N M143 239 [(0, .ref (Y.2.2.2 277)), (1, .int (nI p)), (2, .int T), (3, .int (nI a)), (4, .int (nI la)), (6, .int (nI t103))] [.int (nI l1), .ref (Y.2.2.2 277)] := by
                          intro l1 hl16 hL1
                          refine xv_puti hX fl_MD_219 rfl rfl (by decide) dc_MD_broken_239 (rfl : _ = 242) ?_
                          have J273 : ∀ (r1 : Nat) (hr16 : r1 ≤ 6) (hr1 : bk_R (ab_re (As (M 280 p))) l1 r1), xv_V X Y 7 0 0 xw_lk xw_N (xm_set M143 277 42 l1) 273 [(0, .ref (Y.2.2.2 277)), (1, .int (nI p)), (2, .int T), (3, .int (nI a)), (4, .int (nI la)), (6, .int (nI t103))] [.int (nI r1), .ref (Y.2.2.2 277)] := by
                            intro r1 hr16 hr1
                            refine xv_puti hX fl_MD_219 rfl rfl (by decide) dc_MD_broken_273 (rfl : _ = 276) ?_
                            refine xv_sub (L' := [(0, .ref (Y.2.2.2 277)), (1, .int (nI p)), (2, .int T), (3, .int (nI a)), (4, .int (nI la)), (6, .int (nI t103))]) [0, 1, 2, 3, 4, 5] rfl ?_
                            exact J276 (xm_set (xm_set M143 277 42 l1) 277 42 r1) (md_Y.tt (F.up (by decide)) (md_Y.tt ((md_X.set M143 42 l1).y.up (by decide)) ((md_X.set _ 42 r1).y.up (by decide)))) (by rw [xm_eq]; exact hr16) (by rw [xm_eq]; exact bk_g hL1 hr1) hL1.2 (fun j hj => (xm_nk hj).trans (xm_nk hj))
                          rcases (ab_re_b hV) with hre | hre
                          · skip
                            refine xv_aload_n hX 0 dc_MD_broken_242 rfl (rfl : _ = 243) ?_
                            refine xv_aload_n hX 0 dc_MD_broken_243 rfl (rfl : _ = 244) ?_
                            refine xv_geti hX fl_MD_74 rfl rfl (by decide) (v := 4294967295) ((xm_nk (by decide)).trans (s30.trans hre)) dc_MD_broken_244 (rfl : _ = 247) ?_
                            refine xv_iconst hX (v := nI 4294967295) dc_MD_broken_247 (by decide) (rfl : _ = 248) ?_
                            refine xv_icmp_eq hX (show (nI 4294967295).toInt = -1 by decide) (show (nI 4294967295).toInt = -1 by decide) (tgt := 269) (pq := 251) dc_MD_broken_248 (by decide) rfl (fun c248 => ?_) (fun c248 => ?_)
                            · skip
                              refine xv_aload_n hX 0 dc_MD_broken_269 rfl (rfl : _ = 270) ?_
                              refine xv_geti hX fl_MD_219 rfl rfl (by decide) (v := l1) xm_eq dc_MD_broken_270 (rfl : _ = 273) ?_
                              refine xv_sub (L' := [(0, .ref (Y.2.2.2 277)), (1, .int (nI p)), (2, .int T), (3, .int (nI a)), (4, .int (nI la)), (6, .int (nI t103))]) [0, 1, 2, 3, 4, 5] rfl ?_
                              exact J273 (l1) (by omega) (by unfold bk_R; omega)
                            · skip
                              exact absurd rfl c248
                          · skip
                            refine xv_aload_n hX 0 dc_MD_broken_242 rfl (rfl : _ = 243) ?_
                            refine xv_aload_n hX 0 dc_MD_broken_243 rfl (rfl : _ = 244) ?_
                            refine xv_geti hX fl_MD_74 rfl rfl (by decide) (v := ab_re (As (M 280 p))) ((xm_nk (by decide)).trans s30) dc_MD_broken_244 (rfl : _ = 247) ?_
                            refine xv_iconst hX (v := nI 4294967295) dc_MD_broken_247 (by decide) (rfl : _ = 248) ?_
                            refine xv_icmp_eq hX (nI_toInt (by omega)) (show (nI 4294967295).toInt = -1 by decide) (tgt := 269) (pq := 251) dc_MD_broken_248 (by decide) rfl (fun c248 => ?_) (fun c248 => ?_)
                            · skip
                              exact absurd c248 (by omega)
                            · skip
                              refine xv_aload_n hX 0 dc_MD_broken_251 rfl (rfl : _ = 252) ?_
                              refine xv_geti hX fl_MD_74 rfl rfl (by decide) (v := ab_re (As (M 280 p))) ((xm_nk (by decide)).trans s30) dc_MD_broken_252 (rfl : _ = 255) ?_
                              refine xv_aload_n hX 0 dc_MD_broken_255 rfl (rfl : _ = 256) ?_
                              refine xv_geti hX fl_MD_219 rfl rfl (by decide) (v := l1) xm_eq dc_MD_broken_256 (rfl : _ = 259) ?_
                              refine xv_icmp_ge hX (nI_toInt (by omega)) (nI_toInt (by omega)) (tgt := 269) (pq := 262) dc_MD_broken_259 (by decide) rfl (fun c259 => ?_) (fun c259 => ?_)
                              · skip
                                refine xv_aload_n hX 0 dc_MD_broken_269 rfl (rfl : _ = 270) ?_
                                refine xv_geti hX fl_MD_219 rfl rfl (by decide) (v := l1) xm_eq dc_MD_broken_270 (rfl : _ = 273) ?_
                                refine xv_sub (L' := [(0, .ref (Y.2.2.2 277)), (1, .int (nI p)), (2, .int T), (3, .int (nI a)), (4, .int (nI la)), (6, .int (nI t103))]) [0, 1, 2, 3, 4, 5] rfl ?_
                                exact J273 (l1) (by omega) (by unfold bk_R; omega)
                              · skip
                                refine xv_aload_n hX 0 dc_MD_broken_262 rfl (rfl : _ = 263) ?_
                                refine xv_geti hX fl_MD_74 rfl rfl (by decide) (v := ab_re (As (M 280 p))) ((xm_nk (by decide)).trans s30) dc_MD_broken_263 (rfl : _ = 266) ?_
                                refine xv_goto hX (pq := 273) dc_MD_broken_266 (by decide) ?_
                                refine xv_sub (L' := [(0, .ref (Y.2.2.2 277)), (1, .int (nI p)), (2, .int T), (3, .int (nI a)), (4, .int (nI la)), (6, .int (nI t103))]) [0, 1, 2, 3, 4, 5] rfl ?_
                                exact J273 (ab_re (As (M 280 p))) (by omega) (by unfold bk_R; omega)
                        refine xv_iload hX 6 dc_MD_broken_205 rfl (rfl : _ = 207) ?_
                        refine xv_if_ne hX (nI_toInt (by omega)) (tgt := 220) (pq := 210) dc_MD_broken_207 (by decide) rfl (fun c207 => ?_) (fun c207 => ?_)
                        · skip
                          refine xv_aload_n hX 0 dc_MD_broken_220 rfl (rfl : _ = 221) ?_
                          refine xv_iload hX 6 dc_MD_broken_221 rfl (rfl : _ = 223) ?_
                          refine xv_if_eq hX (nI_toInt (by omega)) (tgt := 233) (pq := 226) dc_MD_broken_223 (by decide) rfl (fun c223 => ?_) (fun c223 => ?_)
                          · skip
                            exact absurd c223 (by omega)
                          · skip
                            refine xv_aload_n hX 0 dc_MD_broken_226 rfl (rfl : _ = 227) ?_
                            refine xv_geti hX fl_MD_219 rfl rfl (by decide) (v := M 277 42) k42c dc_MD_broken_227 (rfl : _ = 230) ?_
                            refine xv_goto hX (pq := 239) dc_MD_broken_230 (by decide) ?_
                            refine xv_sub (L' := [(0, .ref (Y.2.2.2 277)), (1, .int (nI p)), (2, .int T), (3, .int (nI a)), (4, .int (nI la)), (6, .int (nI t103))]) [0, 1, 2, 3, 4, 6] rfl ?_
                            exact J239 (M 277 42) (by omega) ⟨by first | exact Or.inl ⟨he2.mp (by omega), rfl⟩ | exact Or.inr ⟨fun z => by have := he2.mpr z; omega, by omega⟩, by first | exact Or.inl (he2.mp (by omega)) | exact Or.inr (by omega)⟩
                        · skip
                          refine xv_aload_n hX 0 dc_MD_broken_210 rfl (rfl : _ = 211) ?_
                          refine xv_geti hX fl_MD_219 rfl rfl (by decide) (v := M 277 42) k42c dc_MD_broken_211 (rfl : _ = 214) ?_
                          refine xv_if_gt hX (nI_toInt (by omega)) (tgt := 220) (pq := 217) dc_MD_broken_214 (by decide) rfl (fun c214 => ?_) (fun c214 => ?_)
                          · skip
                            refine xv_aload_n hX 0 dc_MD_broken_220 rfl (rfl : _ = 221) ?_
                            refine xv_iload hX 6 dc_MD_broken_221 rfl (rfl : _ = 223) ?_
                            refine xv_if_eq hX (nI_toInt (by omega)) (tgt := 233) (pq := 226) dc_MD_broken_223 (by decide) rfl (fun c223 => ?_) (fun c223 => ?_)
                            · skip
                              refine xv_aload_n hX 0 dc_MD_broken_233 rfl (rfl : _ = 234) ?_
                              refine xv_geti hX fl_MD_219 rfl rfl (by decide) (v := M 277 42) k42c dc_MD_broken_234 (rfl : _ = 237) ?_
                              refine xv_iconst hX (v := nI 1) dc_MD_broken_237 (by decide) (rfl : _ = 238) ?_
                              refine xv_isub hX dc_MD_broken_238 (pk_sub (by omega)) (rfl : _ = 239) ?_
                              refine xv_sub (L' := [(0, .ref (Y.2.2.2 277)), (1, .int (nI p)), (2, .int T), (3, .int (nI a)), (4, .int (nI la)), (6, .int (nI t103))]) [0, 1, 2, 3, 4, 6] rfl ?_
                              exact J239 (M 277 42 - 1) (by omega) ⟨by first | exact Or.inl ⟨he2.mp (by omega), rfl⟩ | exact Or.inr ⟨fun z => by have := he2.mpr z; omega, by omega⟩, by first | exact Or.inl (he2.mp (by omega)) | exact Or.inr (by omega)⟩
                            · skip
                              exact absurd c223 (by omega)
                          · skip
                            refine xv_bipush hX (v := nI 7) dc_MD_broken_217 (by decide) (rfl : _ = 219) ?_
                            refine xv_reti hX hR rfl dc_MD_broken_219 ?_
                            exact ⟨F.up (by decide), 7, rfl, by decide, ⟨0, hv0, Or.inr ⟨rfl, Or.inr ⟨by omega, Or.inr (Or.inl ⟨rfl, hau, fun z => by have := he2.mpr z; omega, by omega⟩)⟩⟩⟩, fun z => absurd z (by decide)⟩
                      · skip
                        refine xv_bipush hX (v := nI 6) dc_MD_broken_202 (by decide) (rfl : _ = 204) ?_
                        refine xv_reti hX hR rfl dc_MD_broken_204 ?_
                        exact ⟨F.up (by decide), 6, rfl, by decide, ⟨0, hv0, Or.inr ⟨rfl, Or.inr ⟨by omega, Or.inl ⟨rfl, by omega⟩⟩⟩⟩, fun z => absurd z (by decide)⟩
                  · skip
                    rcases (ab_us_b hV) with hu | hu
                    · skip
                      refine xv_aload_n hX 0 dc_MD_broken_162 rfl (rfl : _ = 163) ?_
                      refine xv_geti hX fl_MD_57 rfl rfl (by decide) (v := 4294967295) (s31.trans hu) dc_MD_broken_163 (rfl : _ = 166) ?_
                      refine xv_iconst hX (v := nI 4294967295) dc_MD_broken_166 (by decide) (rfl : _ = 167) ?_
                      refine xv_icmp_eq hX (show (nI 4294967295).toInt = -1 by decide) (show (nI 4294967295).toInt = -1 by decide) (tgt := 186) (pq := 170) dc_MD_broken_167 (by decide) rfl (fun c167 => ?_) (fun c167 => ?_)
                      · skip
                        refine xv_iconst hX (v := nI 0) dc_MD_broken_186 (by decide) (rfl : _ = 187) ?_
                        refine xv_reti hX hR rfl dc_MD_broken_187 ?_
                        exact ⟨F.up (by decide), 0, rfl, by decide, ⟨0, hv0, Or.inr ⟨rfl, Or.inl ⟨by omega, Or.inr ⟨rfl, Or.inl hu⟩⟩⟩⟩, fun _ z => absurd (show p + 1 = M 277 5 by omega) z⟩
                      · skip
                        exact absurd rfl c167
                    · skip
                      refine xv_aload_n hX 0 dc_MD_broken_162 rfl (rfl : _ = 163) ?_
                      refine xv_geti hX fl_MD_57 rfl rfl (by decide) (v := ab_us (As (M 280 p))) s31 dc_MD_broken_163 (rfl : _ = 166) ?_
                      refine xv_iconst hX (v := nI 4294967295) dc_MD_broken_166 (by decide) (rfl : _ = 167) ?_
                      refine xv_icmp_eq hX (nI_toInt (by omega)) (show (nI 4294967295).toInt = -1 by decide) (tgt := 186) (pq := 170) dc_MD_broken_167 (by decide) rfl (fun c167 => ?_) (fun c167 => ?_)
                      · skip
                        exact absurd c167 (by omega)
                      · skip
                        refine xv_iload_n hX 3 dc_MD_broken_170 rfl (rfl : _ = 171) ?_
                        refine xv_aload_n hX 0 dc_MD_broken_171 rfl (rfl : _ = 172) ?_
                        refine xv_geti hX fl_MD_57 rfl rfl (by decide) (v := ab_us (As (M 280 p))) s31 dc_MD_broken_172 (rfl : _ = 175) ?_
                        refine xv_iconst hX (v := nI 4294967295) dc_MD_broken_175 (by decide) (rfl : _ = 176) ?_
                        refine xv_ixor hX dc_MD_broken_176 rfl (rfl : _ = 177) ?_
                        refine xv_iand hX dc_MD_broken_177 rfl (rfl : _ = 178) ?_
                        refine xv_if_eq hX (rfl : (nI a &&& (nI (ab_us (As (M 280 p))) ^^^ nI 4294967295)).toInt = _) (tgt := 186) (pq := 181) dc_MD_broken_178 (by decide) rfl (fun c178 => ?_) (fun c178 => ?_)
                        · skip
                          refine xv_iconst hX (v := nI 0) dc_MD_broken_186 (by decide) (rfl : _ = 187) ?_
                          refine xv_reti hX hR rfl dc_MD_broken_187 ?_
                          exact ⟨F.up (by decide), 0, rfl, by decide, ⟨0, hv0, Or.inr ⟨rfl, Or.inl ⟨by omega, Or.inr ⟨rfl, Or.inr ((us_last ha).mp c178)⟩⟩⟩⟩, fun _ z => absurd (show p + 1 = M 277 5 by omega) z⟩
                        · skip
                          refine xv_bipush hX (v := nI 9) dc_MD_broken_181 (by decide) (rfl : _ = 183) ?_
                          refine xv_goto hX (pq := 187) dc_MD_broken_183 (by decide) ?_
                          refine xv_reti hX hR rfl dc_MD_broken_187 ?_
                          exact ⟨F.up (by decide), 9, rfl, by decide, ⟨0, hv0, Or.inr ⟨rfl, Or.inl ⟨by omega, Or.inl ⟨rfl, by omega, fun z => c178 ((us_last ha).mpr z)⟩⟩⟩⟩, fun z => absurd z (by decide)⟩
                · skip
                  refine xv_iconst hX (v := nI 5) dc_MD_broken_155 (by decide) (rfl : _ = 156) ?_
                  refine xv_reti hX hR rfl dc_MD_broken_156 ?_
                  exact ⟨F.up (by decide), 5, rfl, by decide, ⟨5, Or.inr ⟨hS, Or.inr ⟨hT, Or.inr ⟨hN, Or.inr ⟨hps, Or.inl ⟨rfl, hcr.mp (by omega)⟩⟩⟩⟩⟩, Or.inl ⟨by decide, rfl⟩⟩, fun z => absurd z (by decide)⟩
              refine xv_iload hX 4 dc_MD_broken_108 rfl (rfl : _ = 110) ?_
              refine xv_if_ne hX (nI_toInt (by omega)) (tgt := 118) (pq := 113) dc_MD_broken_110 (by decide) rfl (fun c110 => ?_) (fun c110 => ?_)
              · skip
                refine xv_aload_n hX 0 dc_MD_broken_118 rfl (rfl : _ = 119) ?_
                refine xv_iload_n hX 1 dc_MD_broken_119 rfl (rfl : _ = 120) ?_
                refine xv_aload_n hX 0 dc_MD_broken_120 rfl (rfl : _ = 121) ?_
                refine xv_geti hX fl_MD_150 rfl rfl (by decide) (v := M24 277 22) rfl dc_MD_broken_121 (rfl : _ = 124) ?_
                refine xv_aload_n hX 0 dc_MD_broken_124 rfl (rfl : _ = 125) ?_
                refine xv_geti hX fl_MD_153 rfl rfl (by decide) (v := M24 277 23) rfl dc_MD_broken_125 (rfl : _ = 128) ?_
                refine xv_calli hX (As := [.int (nI p), .int (nI (M24 277 22)), .int (nI (M24 277 23))]) (rest := []) (ct_MD_passes _ Y M24 p (M24 277 22) (M24 277 23) (As (M 280 p)).1.2.2.2.1 As G24 (by omega) (fun q hq => by rw [b240, k2]; exact hpa q (by omega)) nS1 nS2 (by rw [b24]; exact kS.1)) ml_MD_215 li_MD_passes rfl (by decide) rfl rfl rfl (by decide) ⟨by decide, by decide⟩ ⟨Nat.le_refl _, Nat.le_refl _⟩ (Nat.le_of_ble_eq_true rfl) dc_MD_broken_128 (rfl : _ = 131) (fun r128 M128 p128 => ?_)
                obtain ⟨f128, t128, pr128, pt128, q128⟩ := p128
                rw [b240] at q128
                rw [pr128]
                refine xv_if_ne hX (nI_toInt (by omega)) (tgt := 136) (pq := 134) dc_MD_broken_131 (by decide) rfl (fun c131 => ?_) (fun c131 => ?_)
                · skip
                  refine xv_sub (L' := [(0, .ref (Y.2.2.2 277)), (1, .int (nI p)), (2, .int T), (3, .int (nI a)), (4, .int (nI la)), (6, .int (nI t103))]) [0, 1, 2, 3, 4, 6] rfl ?_
                  exact J136 M128 (f24.tt f128) (Or.inr (q128.mp (by omega)))
                · skip
                  refine xv_iconst hX (v := nI 4) dc_MD_broken_134 (by decide) (rfl : _ = 135) ?_
                  refine xv_reti hX hR rfl dc_MD_broken_135 ?_
                  exact ⟨(f24.tt f128).up (by decide), 4, rfl, by decide, ⟨4, Or.inr ⟨hS, Or.inr ⟨hT, Or.inr ⟨hN, Or.inl ⟨rfl, fun z => by
                    rcases z with ⟨h1, h2⟩ | h
                    · first
                      | omega
                      | (have := he2.mpr h2; omega)
                    · have := q128.mpr h
                      omega⟩⟩⟩⟩, Or.inl ⟨by decide, rfl⟩⟩, fun z => absurd z (by decide)⟩
              · skip
                refine xv_iload hX 6 dc_MD_broken_113 rfl (rfl : _ = 115) ?_
                refine xv_if_ne hX (nI_toInt (by omega)) (tgt := 136) (pq := 118) dc_MD_broken_115 (by decide) rfl (fun c115 => ?_) (fun c115 => ?_)
                · skip
                  refine xv_sub (L' := [(0, .ref (Y.2.2.2 277)), (1, .int (nI p)), (2, .int T), (3, .int (nI a)), (4, .int (nI la)), (6, .int (nI t103))]) [0, 1, 2, 3, 4, 6] rfl ?_
                  exact J136 M24 f24 (Or.inl ⟨by omega, he2.mp (by omega)⟩)
                · skip
                  refine xv_aload_n hX 0 dc_MD_broken_118 rfl (rfl : _ = 119) ?_
                  refine xv_iload_n hX 1 dc_MD_broken_119 rfl (rfl : _ = 120) ?_
                  refine xv_aload_n hX 0 dc_MD_broken_120 rfl (rfl : _ = 121) ?_
                  refine xv_geti hX fl_MD_150 rfl rfl (by decide) (v := M24 277 22) rfl dc_MD_broken_121 (rfl : _ = 124) ?_
                  refine xv_aload_n hX 0 dc_MD_broken_124 rfl (rfl : _ = 125) ?_
                  refine xv_geti hX fl_MD_153 rfl rfl (by decide) (v := M24 277 23) rfl dc_MD_broken_125 (rfl : _ = 128) ?_
                  refine xv_calli hX (As := [.int (nI p), .int (nI (M24 277 22)), .int (nI (M24 277 23))]) (rest := []) (ct_MD_passes _ Y M24 p (M24 277 22) (M24 277 23) (As (M 280 p)).1.2.2.2.1 As G24 (by omega) (fun q hq => by rw [b240, k2]; exact hpa q (by omega)) nS1 nS2 (by rw [b24]; exact kS.1)) ml_MD_215 li_MD_passes rfl (by decide) rfl rfl rfl (by decide) ⟨by decide, by decide⟩ ⟨Nat.le_refl _, Nat.le_refl _⟩ (Nat.le_of_ble_eq_true rfl) dc_MD_broken_128 (rfl : _ = 131) (fun r128 M128 p128 => ?_)
                  obtain ⟨f128, t128, pr128, pt128, q128⟩ := p128
                  rw [b240] at q128
                  rw [pr128]
                  refine xv_if_ne hX (nI_toInt (by omega)) (tgt := 136) (pq := 134) dc_MD_broken_131 (by decide) rfl (fun c131 => ?_) (fun c131 => ?_)
                  · skip
                    refine xv_sub (L' := [(0, .ref (Y.2.2.2 277)), (1, .int (nI p)), (2, .int T), (3, .int (nI a)), (4, .int (nI la)), (6, .int (nI t103))]) [0, 1, 2, 3, 4, 6] rfl ?_
                    exact J136 M128 (f24.tt f128) (Or.inr (q128.mp (by omega)))
                  · skip
                    refine xv_iconst hX (v := nI 4) dc_MD_broken_134 (by decide) (rfl : _ = 135) ?_
                    refine xv_reti hX hR rfl dc_MD_broken_135 ?_
                    exact ⟨(f24.tt f128).up (by decide), 4, rfl, by decide, ⟨4, Or.inr ⟨hS, Or.inr ⟨hT, Or.inr ⟨hN, Or.inl ⟨rfl, fun z => by
                      rcases z with ⟨h1, h2⟩ | h
                      · first
                        | omega
                        | (have := he2.mpr h2; omega)
                      · have := q128.mpr h
                        omega⟩⟩⟩⟩, Or.inl ⟨by decide, rfl⟩⟩, fun z => absurd z (by decide)⟩
            · skip
              refine xv_iconst hX (v := nI 3) dc_MD_broken_84 (by decide) (rfl : _ = 85) ?_
              refine xv_reti hX hR rfl dc_MD_broken_85 ?_
              exact ⟨f24.up (by decide), 3, rfl, by decide, ⟨3, Or.inr ⟨hsg.mp (by omega), Or.inr ⟨⟨by omega, by omega⟩, Or.inl ⟨rfl, fun z => by have := he1.mpr z; omega⟩⟩⟩, Or.inl ⟨by decide, rfl⟩⟩, fun z => absurd z (by decide)⟩
          · skip
            refine xv_iconst hX (v := nI 2) dc_MD_broken_59 (by decide) (rfl : _ = 60) ?_
            refine xv_reti hX hR rfl dc_MD_broken_60 ?_
            exact ⟨f24.up (by decide), 2, rfl, by decide, ⟨2, Or.inr ⟨hsg.mp (by omega), Or.inl ⟨rfl, fun z => by omega⟩⟩, Or.inl ⟨by decide, rfl⟩⟩, fun z => absurd z (by decide)⟩
      · skip
        refine xv_iconst hX (v := nI 1) dc_MD_broken_41 (by decide) (rfl : _ = 42) ?_
        refine xv_reti hX hR rfl dc_MD_broken_42 ?_
        exact ⟨f24.up (by decide), 1, rfl, by decide, ⟨1, Or.inl ⟨rfl, fun h => by have := hsg.mpr h; omega⟩, Or.inl ⟨by decide, rfl⟩⟩, fun z => absurd z (by decide)⟩
  refine xv_icmp_ne hX (nI_toInt (by omega)) (nI_toInt (by omega)) (tgt := 14) (pq := 10) dc_MD_broken_7 (by decide) rfl (fun c7 => ?_) (fun c7 => ?_)
  · skip
    refine xv_iconst hX (v := nI 0) dc_MD_broken_14 (by decide) (rfl : _ = 15) ?_
    refine xv_sub (L' := [(0, .ref (Y.2.2.2 277)), (1, .int (nI p)), (2, .int T), (3, .int (nI a))]) [0, 1, 2, 3] rfl ?_
    exact J15 0 (by decide) (by omega)
  · skip
    refine xv_iconst hX (v := nI 1) dc_MD_broken_10 (by decide) (rfl : _ = 11) ?_
    refine xv_goto hX (pq := 15) dc_MD_broken_11 (by decide) ?_
    refine xv_sub (L' := [(0, .ref (Y.2.2.2 277)), (1, .int (nI p)), (2, .int T), (3, .int (nI a))]) [0, 1, 2, 3] rfl ?_
    exact J15 1 (by decide) (by omega)
