/-! the law's loop -/
set_option maxRecDepth 100000 in
set_option maxHeartbeats 8000000 in
theorem lw_loop (X : xv_X) (Y : xw_Y) (b L : Nat) (xs : Nat → Int32) (hX : xv_ok X Y code "CertificatePathLaw" 4 room_1) (hL : L ≤ 2560) (hs : va_X b L xs (xv_s X) (xv_s X).heap) (hb : b < (xv_s X).heap.size) (hbA : ¬ Y.2.2.1 b) (hEnd : ∀ (M : xm_M) (Ls : List (Nat × Value)), xv_V X Y 4 282 3266 xw_lk xw_N M 547 Ls [.int (nI 1)]) (Mk : xm_M) (i : Nat) (hI0 : ∃ As, lw_I Mk As) (hi : i ≤ L + 4) : xv_V X Y 4 282 3266 xw_lk xw_N Mk 18 [(0, .ref b), (1, .ref (Y.2.2.2 0)), (2, .ref (Y.2.2.2 277)), (3, .int (nI i))] [] := by
  have lp18 : ∀ (fu18 : Nat) (Mk : xm_M) (i : Nat) (hI0 : ∃ As, lw_I Mk As) (hi : i ≤ L + 4), L + 5 - i < fu18 → xv_V X Y 4 282 3266 xw_lk xw_N Mk 18 [(0, .ref b), (1, .ref (Y.2.2.2 0)), (2, .ref (Y.2.2.2 277)), (3, .int (nI i))] [] := by
    intro n18
    induction n18 with
    | zero => intro Mk i hI0 hi hm18; exact absurd hm18 (Nat.not_lt_zero _)
    | succ n18 ih18 =>
      intro Mk i hI0 hi hm18
      refine xv_iload_n hX 3 dc_LW_law_18 rfl (rfl : _ = 19) ?_
      refine xv_aload_n hX 0 dc_LW_law_19 rfl (rfl : _ = 20) ?_
      refine xl_len hX hs hb hbA dc_LW_law_20 (rfl : _ = 21) ?_
      refine xv_iconst hX (v := nI 5) dc_LW_law_21 (by decide) (rfl : _ = 22) ?_
      refine xv_isub hX dc_LW_law_22 rfl (rfl : _ = 23) ?_
      refine xv_icmp_gt hX (nI_toInt (by omega)) (rfl : (nI L - nI 5).toInt = _) (tgt := 546) (pq := 26) dc_LW_law_23 (by decide) rfl (fun c23 => ?_) (fun c23 => ?_)
      · skip
        rw [lw_sub5 hL] at c23
        refine xv_iconst hX (v := nI 1) dc_LW_law_546 (by decide) (rfl : _ = 547) ?_
        exact hEnd _ _
      · skip
        rw [lw_sub5 hL] at c23
        refine xv_aload_n hX 0 dc_LW_law_26 rfl (rfl : _ = 27) ?_
        refine xv_iload_n hX 3 dc_LW_law_27 rfl (rfl : _ = 28) ?_
        refine xl_ld hX hs hb hbA (by omega) (by omega) dc_LW_law_28 (rfl : _ = 29) ?_
        refine xv_bipush hX (v := nI 15) dc_LW_law_29 (by decide) (rfl : _ = 31) ?_
        obtain ⟨k, hk, ek⟩ := lw_and15 (xs i)
        refine xv_iand hX dc_LW_law_31 ek (rfl : _ = 32) ?_
        obtain ⟨As, hI⟩ := hI0
        have J540 : ∀ (M2 : xm_M) (hJ : ∃ As2, lw_I M2 As2), xv_V X Y 4 282 3266 xw_lk xw_N M2 540 [(0, .ref b), (1, .ref (Y.2.2.2 0)), (2, .ref (Y.2.2.2 277)), (3, .int (nI i))] [] := by
          intro M2 hJ
          refine xv_iinc hX 3 [1, 2, 3, 0] dc_LW_law_540 rfl (xi_inc i 5) (by decide) (L' := [(0, .ref b), (1, .ref (Y.2.2.2 0)), (2, .ref (Y.2.2.2 277)), (3, .int (nI (i + 5)))]) rfl (rfl : _ = 543) ?_
          refine xv_goto hX (pq := 18) dc_LW_law_543 (by decide) ?_
          refine xv_sub (L' := [(0, .ref b), (1, .ref (Y.2.2.2 0)), (2, .ref (Y.2.2.2 277)), (3, .int (nI (i + 5)))]) [0, 1, 2, 3] rfl ?_
          exact ih18 M2 (i + 5) hJ (by omega) (by omega)
        by_cases sw32_0 : k = 0
        · skip
          refine xv_tsIn hX (nI_toInt (by omega)) (tgt := 112) dc_LW_law_32 (by omega) (by omega) (by rw [sw32_0]; rfl) (by decide) ?_
          refine xv_aload_n hX 1 dc_LW_law_112 rfl (rfl : _ = 113) ?_
          refine xv_aload_n hX 0 dc_LW_law_113 rfl (rfl : _ = 114) ?_
          refine xv_iload_n hX 3 dc_LW_law_114 rfl (rfl : _ = 115) ?_
          refine xv_iconst hX (v := nI 1) dc_LW_law_115 (by decide) (rfl : _ = 116) ?_
          refine xv_iadd hX dc_LW_law_116 (nI_add i 1) (rfl : _ = 117) ?_
          refine xl_ld hX hs hb hbA (by omega) (by omega) dc_LW_law_117 (rfl : _ = 118) ?_
          refine xv_aload_n hX 0 dc_LW_law_118 rfl (rfl : _ = 119) ?_
          refine xv_iload_n hX 3 dc_LW_law_119 rfl (rfl : _ = 120) ?_
          refine xv_iconst hX (v := nI 2) dc_LW_law_120 (by decide) (rfl : _ = 121) ?_
          refine xv_iadd hX dc_LW_law_121 (nI_add i 2) (rfl : _ = 122) ?_
          refine xl_ld hX hs hb hbA (by omega) (by omega) dc_LW_law_122 (rfl : _ = 123) ?_
          refine xv_calli hX (As := [.int (xs (i + 1)), .int (xs (i + 2))]) (rest := []) (ct_CP_feed _ Y Mk (xs (i + 1)) (xs (i + 2)) hI.2.2.1.2) ml_LW_13 li_CP_feed rfl (by decide) rfl rfl rfl (by decide) ⟨by decide, by decide⟩ ⟨by decide, by decide⟩ (Nat.le_of_ble_eq_true rfl) dc_LW_law_123 (rfl : _ = 126) (fun r123 M123 p123 => ?_)
          have hm := hI.m (lc_feed hI p123)
          refine xv_aload_n hX 2 dc_LW_law_126 rfl (rfl : _ = 127) ?_
          refine xv_aload_n hX 0 dc_LW_law_127 rfl (rfl : _ = 128) ?_
          refine xv_iload_n hX 3 dc_LW_law_128 rfl (rfl : _ = 129) ?_
          refine xv_iconst hX (v := nI 1) dc_LW_law_129 (by decide) (rfl : _ = 130) ?_
          refine xv_iadd hX dc_LW_law_130 (nI_add i 1) (rfl : _ = 131) ?_
          refine xl_ld hX hs hb hbA (by omega) (by omega) dc_LW_law_131 (rfl : _ = 132) ?_
          refine xv_aload_n hX 0 dc_LW_law_132 rfl (rfl : _ = 133) ?_
          refine xv_iload_n hX 3 dc_LW_law_133 rfl (rfl : _ = 134) ?_
          refine xv_iconst hX (v := nI 2) dc_LW_law_134 (by decide) (rfl : _ = 135) ?_
          refine xv_iadd hX dc_LW_law_135 (nI_add i 2) (rfl : _ = 136) ?_
          refine xl_ld hX hs hb hbA (by omega) (by omega) dc_LW_law_136 (rfl : _ = 137) ?_
          refine xv_calli hX (As := [.int (xs (i + 1)), .int (xs (i + 2))]) (rest := [.int r123]) (ct_MD_feed _ Y M123 (xs (i + 1)) (xs (i + 2)) hm.2.1) ml_LW_17 li_MD_feed rfl (by decide) rfl rfl rfl (by decide) ⟨by decide, by decide⟩ ⟨by decide, by decide⟩ (Nat.le_of_ble_eq_true rfl) dc_LW_law_137 (rfl : _ = 140) (fun r137 M137 p137 => ?_)
          obtain ⟨hr, As2, hI2⟩ := ls_feed hI p123 p137
          refine xv_icmp_eq hX (rfl : (r123).toInt = _) (rfl : (r137).toInt = _) (tgt := 540) (pq := 143) dc_LW_law_140 (by decide) rfl (fun c140 => ?_) (fun c140 => ?_)
          · skip
            refine xv_sub (L' := [(0, .ref b), (1, .ref (Y.2.2.2 0)), (2, .ref (Y.2.2.2 277)), (3, .int (nI i))]) [0, 1, 2, 3] rfl ?_
            exact J540 M137 ⟨As2, hI2⟩
          · skip
            exact absurd (congrArg Int32.toInt hr) c140
        by_cases sw32_1 : k = 1
        · skip
          refine xv_tsIn hX (nI_toInt (by omega)) (tgt := 145) dc_LW_law_32 (by omega) (by omega) (by rw [sw32_1]; rfl) (by decide) ?_
          refine xv_aload_n hX 1 dc_LW_law_145 rfl (rfl : _ = 146) ?_
          refine xv_aload_n hX 0 dc_LW_law_146 rfl (rfl : _ = 147) ?_
          refine xv_iload_n hX 3 dc_LW_law_147 rfl (rfl : _ = 148) ?_
          refine xv_iconst hX (v := nI 1) dc_LW_law_148 (by decide) (rfl : _ = 149) ?_
          refine xv_iadd hX dc_LW_law_149 (nI_add i 1) (rfl : _ = 150) ?_
          refine xl_ld hX hs hb hbA (by omega) (by omega) dc_LW_law_150 (rfl : _ = 151) ?_
          refine xv_aload_n hX 0 dc_LW_law_151 rfl (rfl : _ = 152) ?_
          refine xv_iload_n hX 3 dc_LW_law_152 rfl (rfl : _ = 153) ?_
          refine xv_iconst hX (v := nI 2) dc_LW_law_153 (by decide) (rfl : _ = 154) ?_
          refine xv_iadd hX dc_LW_law_154 (nI_add i 2) (rfl : _ = 155) ?_
          refine xl_ld hX hs hb hbA (by omega) (by omega) dc_LW_law_155 (rfl : _ = 156) ?_
          refine xv_calli hX (As := [.int (xs (i + 1)), .int (xs (i + 2))]) (rest := []) (ct_CP_set _ Y Mk (xs (i + 1)) (xs (i + 2)) hI.2.2.1.2) ml_LW_18 li_CP_set rfl (by decide) rfl rfl rfl (by decide) ⟨by decide, by decide⟩ ⟨by decide, by decide⟩ (Nat.le_of_ble_eq_true rfl) dc_LW_law_156 (rfl : _ = 159) (fun r156 M156 p156 => ?_)
          have hm := hI.m (lc_set hI p156)
          refine xv_aload_n hX 2 dc_LW_law_159 rfl (rfl : _ = 160) ?_
          refine xv_aload_n hX 0 dc_LW_law_160 rfl (rfl : _ = 161) ?_
          refine xv_iload_n hX 3 dc_LW_law_161 rfl (rfl : _ = 162) ?_
          refine xv_iconst hX (v := nI 1) dc_LW_law_162 (by decide) (rfl : _ = 163) ?_
          refine xv_iadd hX dc_LW_law_163 (nI_add i 1) (rfl : _ = 164) ?_
          refine xl_ld hX hs hb hbA (by omega) (by omega) dc_LW_law_164 (rfl : _ = 165) ?_
          refine xv_aload_n hX 0 dc_LW_law_165 rfl (rfl : _ = 166) ?_
          refine xv_iload_n hX 3 dc_LW_law_166 rfl (rfl : _ = 167) ?_
          refine xv_iconst hX (v := nI 2) dc_LW_law_167 (by decide) (rfl : _ = 168) ?_
          refine xv_iadd hX dc_LW_law_168 (nI_add i 2) (rfl : _ = 169) ?_
          refine xl_ld hX hs hb hbA (by omega) (by omega) dc_LW_law_169 (rfl : _ = 170) ?_
          refine xv_calli hX (As := [.int (xs (i + 1)), .int (xs (i + 2))]) (rest := [.int r156]) (ct_MD_set _ Y M156 (xs (i + 1)) (xs (i + 2)) hm.2.1) ml_LW_21 li_MD_set rfl (by decide) rfl rfl rfl (by decide) ⟨by decide, by decide⟩ ⟨by decide, by decide⟩ (Nat.le_of_ble_eq_true rfl) dc_LW_law_170 (rfl : _ = 173) (fun r170 M170 p170 => ?_)
          obtain ⟨hr, As2, hI2⟩ := ls_set hI p156 p170
          refine xv_icmp_eq hX (rfl : (r156).toInt = _) (rfl : (r170).toInt = _) (tgt := 540) (pq := 176) dc_LW_law_173 (by decide) rfl (fun c173 => ?_) (fun c173 => ?_)
          · skip
            refine xv_sub (L' := [(0, .ref b), (1, .ref (Y.2.2.2 0)), (2, .ref (Y.2.2.2 277)), (3, .int (nI i))]) [0, 1, 2, 3] rfl ?_
            exact J540 M170 ⟨As2, hI2⟩
          · skip
            exact absurd (congrArg Int32.toInt hr) c173
        by_cases sw32_2 : k = 2
        · skip
          refine xv_tsIn hX (nI_toInt (by omega)) (tgt := 178) dc_LW_law_32 (by omega) (by omega) (by rw [sw32_2]; rfl) (by decide) ?_
          refine xv_aload_n hX 1 dc_LW_law_178 rfl (rfl : _ = 179) ?_
          refine xv_aload_n hX 0 dc_LW_law_179 rfl (rfl : _ = 180) ?_
          refine xv_iload_n hX 3 dc_LW_law_180 rfl (rfl : _ = 181) ?_
          refine xv_iconst hX (v := nI 1) dc_LW_law_181 (by decide) (rfl : _ = 182) ?_
          refine xv_iadd hX dc_LW_law_182 (nI_add i 1) (rfl : _ = 183) ?_
          refine xl_ld hX hs hb hbA (by omega) (by omega) dc_LW_law_183 (rfl : _ = 184) ?_
          refine xv_calli hX (As := [.int (xs (i + 1))]) (rest := []) (ct_CP_trim _ Y Mk (xs (i + 1)) hI.2.2.1.2) ml_LW_22 li_CP_trim rfl (by decide) rfl rfl rfl (by decide) ⟨by decide, by decide⟩ ⟨by decide, by decide⟩ (Nat.le_of_ble_eq_true rfl) dc_LW_law_184 (rfl : _ = 187) (fun r184 M184 p184 => ?_)
          have hm := hI.m (lc_trim hI p184)
          refine xv_aload_n hX 2 dc_LW_law_187 rfl (rfl : _ = 188) ?_
          refine xv_aload_n hX 0 dc_LW_law_188 rfl (rfl : _ = 189) ?_
          refine xv_iload_n hX 3 dc_LW_law_189 rfl (rfl : _ = 190) ?_
          refine xv_iconst hX (v := nI 1) dc_LW_law_190 (by decide) (rfl : _ = 191) ?_
          refine xv_iadd hX dc_LW_law_191 (nI_add i 1) (rfl : _ = 192) ?_
          refine xl_ld hX hs hb hbA (by omega) (by omega) dc_LW_law_192 (rfl : _ = 193) ?_
          refine xv_calli hX (As := [.int (xs (i + 1))]) (rest := [.int r184]) (ct_MD_trim _ Y M184 (xs (i + 1)) hm.2.1) ml_LW_26 li_MD_trim rfl (by decide) rfl rfl rfl (by decide) ⟨by decide, by decide⟩ ⟨by decide, by decide⟩ (Nat.le_of_ble_eq_true rfl) dc_LW_law_193 (rfl : _ = 196) (fun r193 M193 p193 => ?_)
          obtain ⟨hr, As2, hI2⟩ := ls_trim hI p184 p193
          refine xv_icmp_eq hX (rfl : (r184).toInt = _) (rfl : (r193).toInt = _) (tgt := 540) (pq := 199) dc_LW_law_196 (by decide) rfl (fun c196 => ?_) (fun c196 => ?_)
          · skip
            refine xv_sub (L' := [(0, .ref b), (1, .ref (Y.2.2.2 0)), (2, .ref (Y.2.2.2 277)), (3, .int (nI i))]) [0, 1, 2, 3] rfl ?_
            exact J540 M193 ⟨As2, hI2⟩
          · skip
            exact absurd (congrArg Int32.toInt hr) c196
        by_cases sw32_3 : k = 3
        · skip
          refine xv_tsIn hX (nI_toInt (by omega)) (tgt := 201) dc_LW_law_32 (by omega) (by omega) (by rw [sw32_3]; rfl) (by decide) ?_
          refine xv_aload_n hX 1 dc_LW_law_201 rfl (rfl : _ = 202) ?_
          refine xv_calli hX (As := []) (rest := []) (ct_CP_length _ Y Mk ) ml_LW_27 li_CP_length rfl (by decide) rfl rfl rfl (by decide) ⟨by decide, by decide⟩ ⟨by decide, by decide⟩ (Nat.le_of_ble_eq_true rfl) dc_LW_law_202 (rfl : _ = 205) (fun r202 M202 p202 => ?_)
          have hm := hI.m (lc_length hI p202)
          refine xv_aload_n hX 2 dc_LW_law_205 rfl (rfl : _ = 206) ?_
          refine xv_calli hX (As := []) (rest := [.int r202]) (ct_MD_length _ Y M202 ) ml_LW_31 li_MD_length rfl (by decide) rfl rfl rfl (by decide) ⟨by decide, by decide⟩ ⟨by decide, by decide⟩ (Nat.le_of_ble_eq_true rfl) dc_LW_law_206 (rfl : _ = 209) (fun r206 M206 p206 => ?_)
          obtain ⟨hr, As2, hI2⟩ := ls_length hI p202 p206
          refine xv_icmp_eq hX (rfl : (r202).toInt = _) (rfl : (r206).toInt = _) (tgt := 540) (pq := 212) dc_LW_law_209 (by decide) rfl (fun c209 => ?_) (fun c209 => ?_)
          · skip
            refine xv_sub (L' := [(0, .ref b), (1, .ref (Y.2.2.2 0)), (2, .ref (Y.2.2.2 277)), (3, .int (nI i))]) [0, 1, 2, 3] rfl ?_
            exact J540 M206 ⟨As2, hI2⟩
          · skip
            exact absurd (congrArg Int32.toInt hr) c209
        by_cases sw32_4 : k = 4
        · skip
          refine xv_tsIn hX (nI_toInt (by omega)) (tgt := 214) dc_LW_law_32 (by omega) (by omega) (by rw [sw32_4]; rfl) (by decide) ?_
          refine xv_aload_n hX 1 dc_LW_law_214 rfl (rfl : _ = 215) ?_
          refine xv_aload_n hX 0 dc_LW_law_215 rfl (rfl : _ = 216) ?_
          refine xv_iload_n hX 3 dc_LW_law_216 rfl (rfl : _ = 217) ?_
          refine xv_iconst hX (v := nI 1) dc_LW_law_217 (by decide) (rfl : _ = 218) ?_
          refine xv_iadd hX dc_LW_law_218 (nI_add i 1) (rfl : _ = 219) ?_
          refine xl_ld hX hs hb hbA (by omega) (by omega) dc_LW_law_219 (rfl : _ = 220) ?_
          refine xv_calli hX (As := [.int (xs (i + 1))]) (rest := []) (ct_CP_byteAt _ Y Mk (xs (i + 1)) hI.2.2.1.2) ml_LW_32 li_CP_byteAt rfl (by decide) rfl rfl rfl (by decide) ⟨by decide, by decide⟩ ⟨by decide, by decide⟩ (Nat.le_of_ble_eq_true rfl) dc_LW_law_220 (rfl : _ = 223) (fun r220 M220 p220 => ?_)
          have hm := hI.m (lc_byteAt hI p220)
          refine xv_aload_n hX 2 dc_LW_law_223 rfl (rfl : _ = 224) ?_
          refine xv_aload_n hX 0 dc_LW_law_224 rfl (rfl : _ = 225) ?_
          refine xv_iload_n hX 3 dc_LW_law_225 rfl (rfl : _ = 226) ?_
          refine xv_iconst hX (v := nI 1) dc_LW_law_226 (by decide) (rfl : _ = 227) ?_
          refine xv_iadd hX dc_LW_law_227 (nI_add i 1) (rfl : _ = 228) ?_
          refine xl_ld hX hs hb hbA (by omega) (by omega) dc_LW_law_228 (rfl : _ = 229) ?_
          refine xv_calli hX (As := [.int (xs (i + 1))]) (rest := [.int r220]) (ct_MD_byteAt _ Y M220 (xs (i + 1)) hm.2.1) ml_LW_36 li_MD_byteAt rfl (by decide) rfl rfl rfl (by decide) ⟨by decide, by decide⟩ ⟨by decide, by decide⟩ (Nat.le_of_ble_eq_true rfl) dc_LW_law_229 (rfl : _ = 232) (fun r229 M229 p229 => ?_)
          obtain ⟨hr, As2, hI2⟩ := ls_byteAt hI p220 p229
          refine xv_icmp_eq hX (rfl : (r220).toInt = _) (rfl : (r229).toInt = _) (tgt := 540) (pq := 235) dc_LW_law_232 (by decide) rfl (fun c232 => ?_) (fun c232 => ?_)
          · skip
            refine xv_sub (L' := [(0, .ref b), (1, .ref (Y.2.2.2 0)), (2, .ref (Y.2.2.2 277)), (3, .int (nI i))]) [0, 1, 2, 3] rfl ?_
            exact J540 M229 ⟨As2, hI2⟩
          · skip
            exact absurd (congrArg Int32.toInt hr) c232
        by_cases sw32_5 : k = 5
        · skip
          refine xv_tsIn hX (nI_toInt (by omega)) (tgt := 237) dc_LW_law_32 (by omega) (by omega) (by rw [sw32_5]; rfl) (by decide) ?_
          refine xv_aload_n hX 1 dc_LW_law_237 rfl (rfl : _ = 238) ?_
          refine xv_aload_n hX 0 dc_LW_law_238 rfl (rfl : _ = 239) ?_
          refine xv_iload_n hX 3 dc_LW_law_239 rfl (rfl : _ = 240) ?_
          refine xv_iconst hX (v := nI 1) dc_LW_law_240 (by decide) (rfl : _ = 241) ?_
          refine xv_iadd hX dc_LW_law_241 (nI_add i 1) (rfl : _ = 242) ?_
          refine xl_ld hX hs hb hbA (by omega) (by omega) dc_LW_law_242 (rfl : _ = 243) ?_
          refine xv_aload_n hX 0 dc_LW_law_243 rfl (rfl : _ = 244) ?_
          refine xv_iload_n hX 3 dc_LW_law_244 rfl (rfl : _ = 245) ?_
          refine xv_iconst hX (v := nI 2) dc_LW_law_245 (by decide) (rfl : _ = 246) ?_
          refine xv_iadd hX dc_LW_law_246 (nI_add i 2) (rfl : _ = 247) ?_
          refine xl_ld hX hs hb hbA (by omega) (by omega) dc_LW_law_247 (rfl : _ = 248) ?_
          refine xv_calli hX (As := [.int (xs (i + 1)), .int (xs (i + 2))]) (rest := []) (ct_CP_hash _ Y Mk (xs (i + 1)) (xs (i + 2)) hI.2.2.1.2 hI.2.2.2.1.1) ml_LW_37 li_CP_hash rfl (by decide) rfl rfl rfl (by decide) ⟨by decide, by decide⟩ ⟨by decide, by decide⟩ (Nat.le_of_ble_eq_true rfl) dc_LW_law_248 (rfl : _ = 251) (fun r248 M248 p248 => ?_)
          have hm := hI.m (lc_hash hI p248)
          refine xv_aload_n hX 2 dc_LW_law_251 rfl (rfl : _ = 252) ?_
          refine xv_aload_n hX 0 dc_LW_law_252 rfl (rfl : _ = 253) ?_
          refine xv_iload_n hX 3 dc_LW_law_253 rfl (rfl : _ = 254) ?_
          refine xv_iconst hX (v := nI 1) dc_LW_law_254 (by decide) (rfl : _ = 255) ?_
          refine xv_iadd hX dc_LW_law_255 (nI_add i 1) (rfl : _ = 256) ?_
          refine xl_ld hX hs hb hbA (by omega) (by omega) dc_LW_law_256 (rfl : _ = 257) ?_
          refine xv_aload_n hX 0 dc_LW_law_257 rfl (rfl : _ = 258) ?_
          refine xv_iload_n hX 3 dc_LW_law_258 rfl (rfl : _ = 259) ?_
          refine xv_iconst hX (v := nI 2) dc_LW_law_259 (by decide) (rfl : _ = 260) ?_
          refine xv_iadd hX dc_LW_law_260 (nI_add i 2) (rfl : _ = 261) ?_
          refine xl_ld hX hs hb hbA (by omega) (by omega) dc_LW_law_261 (rfl : _ = 262) ?_
          refine xv_calli hX (As := [.int (xs (i + 1)), .int (xs (i + 2))]) (rest := [.int r248]) (ct_MD_hash _ Y M248 (xs (i + 1)) (xs (i + 2)) hm.2.1 hm.1.2.1) ml_LW_41 li_MD_hash rfl (by decide) rfl rfl rfl (by decide) ⟨by decide, by decide⟩ ⟨by decide, by decide⟩ (Nat.le_of_ble_eq_true rfl) dc_LW_law_262 (rfl : _ = 265) (fun r262 M262 p262 => ?_)
          obtain ⟨hr, As2, hI2⟩ := ls_hash hI p248 p262
          refine xv_icmp_eq hX (rfl : (r248).toInt = _) (rfl : (r262).toInt = _) (tgt := 540) (pq := 268) dc_LW_law_265 (by decide) rfl (fun c265 => ?_) (fun c265 => ?_)
          · skip
            refine xv_sub (L' := [(0, .ref b), (1, .ref (Y.2.2.2 0)), (2, .ref (Y.2.2.2 277)), (3, .int (nI i))]) [0, 1, 2, 3] rfl ?_
            exact J540 M262 ⟨As2, hI2⟩
          · skip
            exact absurd (congrArg Int32.toInt hr) c265
        by_cases sw32_6 : k = 6
        · skip
          refine xv_tsIn hX (nI_toInt (by omega)) (tgt := 270) dc_LW_law_32 (by omega) (by omega) (by rw [sw32_6]; rfl) (by decide) ?_
          refine xv_aload_n hX 1 dc_LW_law_270 rfl (rfl : _ = 271) ?_
          refine xv_calli hX (As := []) (rest := []) (ct_CP_accept _ Y Mk hI.k8 hI.2.2.1.2 hI.2.2.2.1.1) ml_LW_42 li_CP_accept rfl (by decide) rfl rfl rfl (by decide) ⟨by decide, by decide⟩ ⟨by decide, by decide⟩ (Nat.le_of_ble_eq_true rfl) dc_LW_law_271 (rfl : _ = 274) (fun r271 M271 p271 => ?_)
          have hm := hI.m (lc_accept hI p271)
          refine xv_aload_n hX 2 dc_LW_law_274 rfl (rfl : _ = 275) ?_
          refine xv_calli hX (As := []) (rest := [.int r271]) (ct_MD_accept _ Y M271 hm.1.1 hm.2.1 hm.1.2.1) ml_LW_45 li_MD_accept rfl (by decide) rfl rfl rfl (by decide) ⟨by decide, by decide⟩ ⟨by decide, by decide⟩ (Nat.le_of_ble_eq_true rfl) dc_LW_law_275 (rfl : _ = 278) (fun r275 M275 p275 => ?_)
          obtain ⟨hr, As2, hI2⟩ := ls_accept hI p271 p275
          refine xv_icmp_eq hX (rfl : (r271).toInt = _) (rfl : (r275).toInt = _) (tgt := 540) (pq := 281) dc_LW_law_278 (by decide) rfl (fun c278 => ?_) (fun c278 => ?_)
          · skip
            refine xv_sub (L' := [(0, .ref b), (1, .ref (Y.2.2.2 0)), (2, .ref (Y.2.2.2 277)), (3, .int (nI i))]) [0, 1, 2, 3] rfl ?_
            exact J540 M275 ⟨As2, hI2⟩
          · skip
            exact absurd (congrArg Int32.toInt hr) c278
        by_cases sw32_7 : k = 7
        · skip
          refine xv_tsIn hX (nI_toInt (by omega)) (tgt := 283) dc_LW_law_32 (by omega) (by omega) (by rw [sw32_7]; rfl) (by decide) ?_
          refine xv_aload_n hX 1 dc_LW_law_283 rfl (rfl : _ = 284) ?_
          refine xv_calli hX (As := []) (rest := []) (ct_CP_count _ Y Mk ) ml_LW_46 li_CP_count rfl (by decide) rfl rfl rfl (by decide) ⟨by decide, by decide⟩ ⟨by decide, by decide⟩ (Nat.le_of_ble_eq_true rfl) dc_LW_law_284 (rfl : _ = 287) (fun r284 M284 p284 => ?_)
          have hm := hI.m (lc_count hI p284)
          refine xv_aload_n hX 2 dc_LW_law_287 rfl (rfl : _ = 288) ?_
          refine xv_calli hX (As := []) (rest := [.int r284]) (ct_MD_count _ Y M284 ) ml_LW_49 li_MD_count rfl (by decide) rfl rfl rfl (by decide) ⟨by decide, by decide⟩ ⟨by decide, by decide⟩ (Nat.le_of_ble_eq_true rfl) dc_LW_law_288 (rfl : _ = 291) (fun r288 M288 p288 => ?_)
          obtain ⟨hr, As2, hI2⟩ := ls_count hI p284 p288
          refine xv_icmp_eq hX (rfl : (r284).toInt = _) (rfl : (r288).toInt = _) (tgt := 540) (pq := 294) dc_LW_law_291 (by decide) rfl (fun c291 => ?_) (fun c291 => ?_)
          · skip
            refine xv_sub (L' := [(0, .ref b), (1, .ref (Y.2.2.2 0)), (2, .ref (Y.2.2.2 277)), (3, .int (nI i))]) [0, 1, 2, 3] rfl ?_
            exact J540 M288 ⟨As2, hI2⟩
          · skip
            exact absurd (congrArg Int32.toInt hr) c291
        by_cases sw32_8 : k = 8
        · skip
          refine xv_tsIn hX (nI_toInt (by omega)) (tgt := 296) dc_LW_law_32 (by omega) (by omega) (by rw [sw32_8]; rfl) (by decide) ?_
          refine xv_aload_n hX 1 dc_LW_law_296 rfl (rfl : _ = 297) ?_
          refine xv_aload_n hX 0 dc_LW_law_297 rfl (rfl : _ = 298) ?_
          refine xv_iload_n hX 3 dc_LW_law_298 rfl (rfl : _ = 299) ?_
          refine xv_iconst hX (v := nI 1) dc_LW_law_299 (by decide) (rfl : _ = 300) ?_
          refine xv_iadd hX dc_LW_law_300 (nI_add i 1) (rfl : _ = 301) ?_
          refine xl_ld hX hs hb hbA (by omega) (by omega) dc_LW_law_301 (rfl : _ = 302) ?_
          refine xv_aload_n hX 0 dc_LW_law_302 rfl (rfl : _ = 303) ?_
          refine xv_iload_n hX 3 dc_LW_law_303 rfl (rfl : _ = 304) ?_
          refine xv_iconst hX (v := nI 2) dc_LW_law_304 (by decide) (rfl : _ = 305) ?_
          refine xv_iadd hX dc_LW_law_305 (nI_add i 2) (rfl : _ = 306) ?_
          refine xl_ld hX hs hb hbA (by omega) (by omega) dc_LW_law_306 (rfl : _ = 307) ?_
          refine xv_calli hX (As := [.int (xs (i + 1)), .int (xs (i + 2))]) (rest := []) (ct_CP_field _ Y Mk (xs (i + 1)) (xs (i + 2)) hI.k8 (fun a ha => (hI.K a ha).2.2.2.2.2.2.2.1)) ml_LW_50 li_CP_field rfl (by decide) rfl rfl rfl (by decide) ⟨by decide, by decide⟩ ⟨by decide, by decide⟩ (Nat.le_of_ble_eq_true rfl) dc_LW_law_307 (rfl : _ = 310) (fun r307 M307 p307 => ?_)
          have hm := hI.m (lc_field hI p307)
          refine xv_aload_n hX 2 dc_LW_law_310 rfl (rfl : _ = 311) ?_
          refine xv_aload_n hX 0 dc_LW_law_311 rfl (rfl : _ = 312) ?_
          refine xv_iload_n hX 3 dc_LW_law_312 rfl (rfl : _ = 313) ?_
          refine xv_iconst hX (v := nI 1) dc_LW_law_313 (by decide) (rfl : _ = 314) ?_
          refine xv_iadd hX dc_LW_law_314 (nI_add i 1) (rfl : _ = 315) ?_
          refine xl_ld hX hs hb hbA (by omega) (by omega) dc_LW_law_315 (rfl : _ = 316) ?_
          refine xv_aload_n hX 0 dc_LW_law_316 rfl (rfl : _ = 317) ?_
          refine xv_iload_n hX 3 dc_LW_law_317 rfl (rfl : _ = 318) ?_
          refine xv_iconst hX (v := nI 2) dc_LW_law_318 (by decide) (rfl : _ = 319) ?_
          refine xv_iadd hX dc_LW_law_319 (nI_add i 2) (rfl : _ = 320) ?_
          refine xl_ld hX hs hb hbA (by omega) (by omega) dc_LW_law_320 (rfl : _ = 321) ?_
          refine xv_calli hX (As := [.int (xs (i + 1)), .int (xs (i + 2))]) (rest := [.int r307]) (ct_MD_field _ Y M307 (xs (i + 1)) (xs (i + 2)) As hm.1) ml_LW_53 li_MD_field rfl (by decide) rfl rfl rfl (by decide) ⟨by decide, by decide⟩ ⟨by decide, by decide⟩ (Nat.le_of_ble_eq_true rfl) dc_LW_law_321 (rfl : _ = 324) (fun r321 M321 p321 => ?_)
          obtain ⟨hr, As2, hI2⟩ := ls_field hI p307 p321
          refine xv_icmp_eq hX (rfl : (r307).toInt = _) (rfl : (r321).toInt = _) (tgt := 540) (pq := 327) dc_LW_law_324 (by decide) rfl (fun c324 => ?_) (fun c324 => ?_)
          · skip
            refine xv_sub (L' := [(0, .ref b), (1, .ref (Y.2.2.2 0)), (2, .ref (Y.2.2.2 277)), (3, .int (nI i))]) [0, 1, 2, 3] rfl ?_
            exact J540 M321 ⟨As2, hI2⟩
          · skip
            exact absurd (congrArg Int32.toInt hr) c324
        by_cases sw32_9 : k = 9
        · skip
          refine xv_tsIn hX (nI_toInt (by omega)) (tgt := 329) dc_LW_law_32 (by omega) (by omega) (by rw [sw32_9]; rfl) (by decide) ?_
          refine xv_aload_n hX 1 dc_LW_law_329 rfl (rfl : _ = 330) ?_
          refine xv_aload_n hX 0 dc_LW_law_330 rfl (rfl : _ = 331) ?_
          refine xv_iload_n hX 3 dc_LW_law_331 rfl (rfl : _ = 332) ?_
          refine xv_iconst hX (v := nI 1) dc_LW_law_332 (by decide) (rfl : _ = 333) ?_
          refine xv_iadd hX dc_LW_law_333 (nI_add i 1) (rfl : _ = 334) ?_
          refine xl_ld hX hs hb hbA (by omega) (by omega) dc_LW_law_334 (rfl : _ = 335) ?_
          refine xv_aload_n hX 0 dc_LW_law_335 rfl (rfl : _ = 336) ?_
          refine xv_iload_n hX 3 dc_LW_law_336 rfl (rfl : _ = 337) ?_
          refine xv_iconst hX (v := nI 2) dc_LW_law_337 (by decide) (rfl : _ = 338) ?_
          refine xv_iadd hX dc_LW_law_338 (nI_add i 2) (rfl : _ = 339) ?_
          refine xl_ld hX hs hb hbA (by omega) (by omega) dc_LW_law_339 (rfl : _ = 340) ?_
          refine xv_if_eq hX (rfl : (xs (i + 2)).toInt = _) (tgt := 347) (pq := 343) dc_LW_law_340 (by decide) rfl (fun c340 => ?_) (fun c340 => ?_)
          · skip
            refine xv_iconst hX (v := nI 0) dc_LW_law_347 (by decide) (rfl : _ = 348) ?_
            refine xv_aload_n hX 0 dc_LW_law_348 rfl (rfl : _ = 349) ?_
            refine xv_iload_n hX 3 dc_LW_law_349 rfl (rfl : _ = 350) ?_
            refine xv_iconst hX (v := nI 3) dc_LW_law_350 (by decide) (rfl : _ = 351) ?_
            refine xv_iadd hX dc_LW_law_351 (nI_add i 3) (rfl : _ = 352) ?_
            refine xl_ld hX hs hb hbA (by omega) (by omega) dc_LW_law_352 (rfl : _ = 353) ?_
            refine xv_aload_n hX 0 dc_LW_law_353 rfl (rfl : _ = 354) ?_
            refine xv_iload_n hX 3 dc_LW_law_354 rfl (rfl : _ = 355) ?_
            refine xv_iconst hX (v := nI 4) dc_LW_law_355 (by decide) (rfl : _ = 356) ?_
            refine xv_iadd hX dc_LW_law_356 (nI_add i 4) (rfl : _ = 357) ?_
            refine xl_ld hX hs hb hbA (by omega) (by omega) dc_LW_law_357 (rfl : _ = 358) ?_
            refine xv_if_eq hX (rfl : (xs (i + 4)).toInt = _) (tgt := 365) (pq := 361) dc_LW_law_358 (by decide) rfl (fun c358 => ?_) (fun c358 => ?_)
            · skip
              refine xv_iconst hX (v := nI 0) dc_LW_law_365 (by decide) (rfl : _ = 366) ?_
              refine xv_calli hX (As := [.int (xs (i + 1)), .int (nI 0), .int (xs (i + 3)), .int (nI 0)]) (rest := []) (ct_CP_within _ Y Mk (xs (i + 1)) 0 (xs (i + 3)) 0 (by decide) (by decide) hI.k8 hI.n) ml_LW_54 li_CP_within rfl (by decide) rfl rfl rfl (by decide) ⟨by decide, by decide⟩ ⟨by decide, by decide⟩ (Nat.le_of_ble_eq_true rfl) dc_LW_law_366 (rfl : _ = 369) (fun r366 M366 p366 => ?_)
              have hm := hI.m (lc_within hI p366)
              refine xv_aload_n hX 2 dc_LW_law_369 rfl (rfl : _ = 370) ?_
              refine xv_aload_n hX 0 dc_LW_law_370 rfl (rfl : _ = 371) ?_
              refine xv_iload_n hX 3 dc_LW_law_371 rfl (rfl : _ = 372) ?_
              refine xv_iconst hX (v := nI 1) dc_LW_law_372 (by decide) (rfl : _ = 373) ?_
              refine xv_iadd hX dc_LW_law_373 (nI_add i 1) (rfl : _ = 374) ?_
              refine xl_ld hX hs hb hbA (by omega) (by omega) dc_LW_law_374 (rfl : _ = 375) ?_
              refine xv_aload_n hX 0 dc_LW_law_375 rfl (rfl : _ = 376) ?_
              refine xv_iload_n hX 3 dc_LW_law_376 rfl (rfl : _ = 377) ?_
              refine xv_iconst hX (v := nI 2) dc_LW_law_377 (by decide) (rfl : _ = 378) ?_
              refine xv_iadd hX dc_LW_law_378 (nI_add i 2) (rfl : _ = 379) ?_
              refine xl_ld hX hs hb hbA (by omega) (by omega) dc_LW_law_379 (rfl : _ = 380) ?_
              refine xv_if_eq hX (rfl : (xs (i + 2)).toInt = _) (tgt := 387) (pq := 383) dc_LW_law_380 (by decide) rfl (fun c380 => ?_) (fun c380 => ?_)
              · skip
                refine xv_iconst hX (v := nI 0) dc_LW_law_387 (by decide) (rfl : _ = 388) ?_
                refine xv_aload_n hX 0 dc_LW_law_388 rfl (rfl : _ = 389) ?_
                refine xv_iload_n hX 3 dc_LW_law_389 rfl (rfl : _ = 390) ?_
                refine xv_iconst hX (v := nI 3) dc_LW_law_390 (by decide) (rfl : _ = 391) ?_
                refine xv_iadd hX dc_LW_law_391 (nI_add i 3) (rfl : _ = 392) ?_
                refine xl_ld hX hs hb hbA (by omega) (by omega) dc_LW_law_392 (rfl : _ = 393) ?_
                refine xv_aload_n hX 0 dc_LW_law_393 rfl (rfl : _ = 394) ?_
                refine xv_iload_n hX 3 dc_LW_law_394 rfl (rfl : _ = 395) ?_
                refine xv_iconst hX (v := nI 4) dc_LW_law_395 (by decide) (rfl : _ = 396) ?_
                refine xv_iadd hX dc_LW_law_396 (nI_add i 4) (rfl : _ = 397) ?_
                refine xl_ld hX hs hb hbA (by omega) (by omega) dc_LW_law_397 (rfl : _ = 398) ?_
                refine xv_if_eq hX (rfl : (xs (i + 4)).toInt = _) (tgt := 405) (pq := 401) dc_LW_law_398 (by decide) rfl (fun c398 => ?_) (fun c398 => ?_)
                · skip
                  refine xv_iconst hX (v := nI 0) dc_LW_law_405 (by decide) (rfl : _ = 406) ?_
                  refine xv_calli hX (As := [.int (xs (i + 1)), .int (nI 0), .int (xs (i + 3)), .int (nI 0)]) (rest := [.int r366]) (ct_MD_within _ Y M366 (xs (i + 1)) 0 (xs (i + 3)) 0 (by decide) (by decide) As hm.1) ml_LW_58 li_MD_within rfl (by decide) rfl rfl rfl (by decide) ⟨by decide, by decide⟩ ⟨by decide, by decide⟩ (Nat.le_of_ble_eq_true rfl) dc_LW_law_406 (rfl : _ = 409) (fun r406 M406 p406 => ?_)
                  obtain ⟨hr, As2, hI2⟩ := ls_within hI p366 p406
                  refine xv_icmp_eq hX (rfl : (r366).toInt = _) (rfl : (r406).toInt = _) (tgt := 540) (pq := 412) dc_LW_law_409 (by decide) rfl (fun c409 => ?_) (fun c409 => ?_)
                  · skip
                    refine xv_sub (L' := [(0, .ref b), (1, .ref (Y.2.2.2 0)), (2, .ref (Y.2.2.2 277)), (3, .int (nI i))]) [0, 1, 2, 3] rfl ?_
                    exact J540 M406 ⟨As2, hI2⟩
                  · skip
                    exact absurd (congrArg Int32.toInt hr) c409
                · skip
                  exact absurd c358 c398
              · skip
                exact absurd c340 c380
            · skip
              refine xv_iconst hX (v := nI 1) dc_LW_law_361 (by decide) (rfl : _ = 362) ?_
              refine xv_goto hX (pq := 366) dc_LW_law_362 (by decide) ?_
              refine xv_calli hX (As := [.int (xs (i + 1)), .int (nI 0), .int (xs (i + 3)), .int (nI 1)]) (rest := []) (ct_CP_within _ Y Mk (xs (i + 1)) 0 (xs (i + 3)) 1 (by decide) (by decide) hI.k8 hI.n) ml_LW_54 li_CP_within rfl (by decide) rfl rfl rfl (by decide) ⟨by decide, by decide⟩ ⟨by decide, by decide⟩ (Nat.le_of_ble_eq_true rfl) dc_LW_law_366 (rfl : _ = 369) (fun r366 M366 p366 => ?_)
              have hm := hI.m (lc_within hI p366)
              refine xv_aload_n hX 2 dc_LW_law_369 rfl (rfl : _ = 370) ?_
              refine xv_aload_n hX 0 dc_LW_law_370 rfl (rfl : _ = 371) ?_
              refine xv_iload_n hX 3 dc_LW_law_371 rfl (rfl : _ = 372) ?_
              refine xv_iconst hX (v := nI 1) dc_LW_law_372 (by decide) (rfl : _ = 373) ?_
              refine xv_iadd hX dc_LW_law_373 (nI_add i 1) (rfl : _ = 374) ?_
              refine xl_ld hX hs hb hbA (by omega) (by omega) dc_LW_law_374 (rfl : _ = 375) ?_
              refine xv_aload_n hX 0 dc_LW_law_375 rfl (rfl : _ = 376) ?_
              refine xv_iload_n hX 3 dc_LW_law_376 rfl (rfl : _ = 377) ?_
              refine xv_iconst hX (v := nI 2) dc_LW_law_377 (by decide) (rfl : _ = 378) ?_
              refine xv_iadd hX dc_LW_law_378 (nI_add i 2) (rfl : _ = 379) ?_
              refine xl_ld hX hs hb hbA (by omega) (by omega) dc_LW_law_379 (rfl : _ = 380) ?_
              refine xv_if_eq hX (rfl : (xs (i + 2)).toInt = _) (tgt := 387) (pq := 383) dc_LW_law_380 (by decide) rfl (fun c380 => ?_) (fun c380 => ?_)
              · skip
                refine xv_iconst hX (v := nI 0) dc_LW_law_387 (by decide) (rfl : _ = 388) ?_
                refine xv_aload_n hX 0 dc_LW_law_388 rfl (rfl : _ = 389) ?_
                refine xv_iload_n hX 3 dc_LW_law_389 rfl (rfl : _ = 390) ?_
                refine xv_iconst hX (v := nI 3) dc_LW_law_390 (by decide) (rfl : _ = 391) ?_
                refine xv_iadd hX dc_LW_law_391 (nI_add i 3) (rfl : _ = 392) ?_
                refine xl_ld hX hs hb hbA (by omega) (by omega) dc_LW_law_392 (rfl : _ = 393) ?_
                refine xv_aload_n hX 0 dc_LW_law_393 rfl (rfl : _ = 394) ?_
                refine xv_iload_n hX 3 dc_LW_law_394 rfl (rfl : _ = 395) ?_
                refine xv_iconst hX (v := nI 4) dc_LW_law_395 (by decide) (rfl : _ = 396) ?_
                refine xv_iadd hX dc_LW_law_396 (nI_add i 4) (rfl : _ = 397) ?_
                refine xl_ld hX hs hb hbA (by omega) (by omega) dc_LW_law_397 (rfl : _ = 398) ?_
                refine xv_if_eq hX (rfl : (xs (i + 4)).toInt = _) (tgt := 405) (pq := 401) dc_LW_law_398 (by decide) rfl (fun c398 => ?_) (fun c398 => ?_)
                · skip
                  exact absurd c398 c358
                · skip
                  refine xv_iconst hX (v := nI 1) dc_LW_law_401 (by decide) (rfl : _ = 402) ?_
                  refine xv_goto hX (pq := 406) dc_LW_law_402 (by decide) ?_
                  refine xv_calli hX (As := [.int (xs (i + 1)), .int (nI 0), .int (xs (i + 3)), .int (nI 1)]) (rest := [.int r366]) (ct_MD_within _ Y M366 (xs (i + 1)) 0 (xs (i + 3)) 1 (by decide) (by decide) As hm.1) ml_LW_58 li_MD_within rfl (by decide) rfl rfl rfl (by decide) ⟨by decide, by decide⟩ ⟨by decide, by decide⟩ (Nat.le_of_ble_eq_true rfl) dc_LW_law_406 (rfl : _ = 409) (fun r406 M406 p406 => ?_)
                  obtain ⟨hr, As2, hI2⟩ := ls_within hI p366 p406
                  refine xv_icmp_eq hX (rfl : (r366).toInt = _) (rfl : (r406).toInt = _) (tgt := 540) (pq := 412) dc_LW_law_409 (by decide) rfl (fun c409 => ?_) (fun c409 => ?_)
                  · skip
                    refine xv_sub (L' := [(0, .ref b), (1, .ref (Y.2.2.2 0)), (2, .ref (Y.2.2.2 277)), (3, .int (nI i))]) [0, 1, 2, 3] rfl ?_
                    exact J540 M406 ⟨As2, hI2⟩
                  · skip
                    exact absurd (congrArg Int32.toInt hr) c409
              · skip
                exact absurd c340 c380
          · skip
            refine xv_iconst hX (v := nI 1) dc_LW_law_343 (by decide) (rfl : _ = 344) ?_
            refine xv_goto hX (pq := 348) dc_LW_law_344 (by decide) ?_
            refine xv_aload_n hX 0 dc_LW_law_348 rfl (rfl : _ = 349) ?_
            refine xv_iload_n hX 3 dc_LW_law_349 rfl (rfl : _ = 350) ?_
            refine xv_iconst hX (v := nI 3) dc_LW_law_350 (by decide) (rfl : _ = 351) ?_
            refine xv_iadd hX dc_LW_law_351 (nI_add i 3) (rfl : _ = 352) ?_
            refine xl_ld hX hs hb hbA (by omega) (by omega) dc_LW_law_352 (rfl : _ = 353) ?_
            refine xv_aload_n hX 0 dc_LW_law_353 rfl (rfl : _ = 354) ?_
            refine xv_iload_n hX 3 dc_LW_law_354 rfl (rfl : _ = 355) ?_
            refine xv_iconst hX (v := nI 4) dc_LW_law_355 (by decide) (rfl : _ = 356) ?_
            refine xv_iadd hX dc_LW_law_356 (nI_add i 4) (rfl : _ = 357) ?_
            refine xl_ld hX hs hb hbA (by omega) (by omega) dc_LW_law_357 (rfl : _ = 358) ?_
            refine xv_if_eq hX (rfl : (xs (i + 4)).toInt = _) (tgt := 365) (pq := 361) dc_LW_law_358 (by decide) rfl (fun c358 => ?_) (fun c358 => ?_)
            · skip
              refine xv_iconst hX (v := nI 0) dc_LW_law_365 (by decide) (rfl : _ = 366) ?_
              refine xv_calli hX (As := [.int (xs (i + 1)), .int (nI 1), .int (xs (i + 3)), .int (nI 0)]) (rest := []) (ct_CP_within _ Y Mk (xs (i + 1)) 1 (xs (i + 3)) 0 (by decide) (by decide) hI.k8 hI.n) ml_LW_54 li_CP_within rfl (by decide) rfl rfl rfl (by decide) ⟨by decide, by decide⟩ ⟨by decide, by decide⟩ (Nat.le_of_ble_eq_true rfl) dc_LW_law_366 (rfl : _ = 369) (fun r366 M366 p366 => ?_)
              have hm := hI.m (lc_within hI p366)
              refine xv_aload_n hX 2 dc_LW_law_369 rfl (rfl : _ = 370) ?_
              refine xv_aload_n hX 0 dc_LW_law_370 rfl (rfl : _ = 371) ?_
              refine xv_iload_n hX 3 dc_LW_law_371 rfl (rfl : _ = 372) ?_
              refine xv_iconst hX (v := nI 1) dc_LW_law_372 (by decide) (rfl : _ = 373) ?_
              refine xv_iadd hX dc_LW_law_373 (nI_add i 1) (rfl : _ = 374) ?_
              refine xl_ld hX hs hb hbA (by omega) (by omega) dc_LW_law_374 (rfl : _ = 375) ?_
              refine xv_aload_n hX 0 dc_LW_law_375 rfl (rfl : _ = 376) ?_
              refine xv_iload_n hX 3 dc_LW_law_376 rfl (rfl : _ = 377) ?_
              refine xv_iconst hX (v := nI 2) dc_LW_law_377 (by decide) (rfl : _ = 378) ?_
              refine xv_iadd hX dc_LW_law_378 (nI_add i 2) (rfl : _ = 379) ?_
              refine xl_ld hX hs hb hbA (by omega) (by omega) dc_LW_law_379 (rfl : _ = 380) ?_
              refine xv_if_eq hX (rfl : (xs (i + 2)).toInt = _) (tgt := 387) (pq := 383) dc_LW_law_380 (by decide) rfl (fun c380 => ?_) (fun c380 => ?_)
              · skip
                exact absurd c380 c340
              · skip
                refine xv_iconst hX (v := nI 1) dc_LW_law_383 (by decide) (rfl : _ = 384) ?_
                refine xv_goto hX (pq := 388) dc_LW_law_384 (by decide) ?_
                refine xv_aload_n hX 0 dc_LW_law_388 rfl (rfl : _ = 389) ?_
                refine xv_iload_n hX 3 dc_LW_law_389 rfl (rfl : _ = 390) ?_
                refine xv_iconst hX (v := nI 3) dc_LW_law_390 (by decide) (rfl : _ = 391) ?_
                refine xv_iadd hX dc_LW_law_391 (nI_add i 3) (rfl : _ = 392) ?_
                refine xl_ld hX hs hb hbA (by omega) (by omega) dc_LW_law_392 (rfl : _ = 393) ?_
                refine xv_aload_n hX 0 dc_LW_law_393 rfl (rfl : _ = 394) ?_
                refine xv_iload_n hX 3 dc_LW_law_394 rfl (rfl : _ = 395) ?_
                refine xv_iconst hX (v := nI 4) dc_LW_law_395 (by decide) (rfl : _ = 396) ?_
                refine xv_iadd hX dc_LW_law_396 (nI_add i 4) (rfl : _ = 397) ?_
                refine xl_ld hX hs hb hbA (by omega) (by omega) dc_LW_law_397 (rfl : _ = 398) ?_
                refine xv_if_eq hX (rfl : (xs (i + 4)).toInt = _) (tgt := 405) (pq := 401) dc_LW_law_398 (by decide) rfl (fun c398 => ?_) (fun c398 => ?_)
                · skip
                  refine xv_iconst hX (v := nI 0) dc_LW_law_405 (by decide) (rfl : _ = 406) ?_
                  refine xv_calli hX (As := [.int (xs (i + 1)), .int (nI 1), .int (xs (i + 3)), .int (nI 0)]) (rest := [.int r366]) (ct_MD_within _ Y M366 (xs (i + 1)) 1 (xs (i + 3)) 0 (by decide) (by decide) As hm.1) ml_LW_58 li_MD_within rfl (by decide) rfl rfl rfl (by decide) ⟨by decide, by decide⟩ ⟨by decide, by decide⟩ (Nat.le_of_ble_eq_true rfl) dc_LW_law_406 (rfl : _ = 409) (fun r406 M406 p406 => ?_)
                  obtain ⟨hr, As2, hI2⟩ := ls_within hI p366 p406
                  refine xv_icmp_eq hX (rfl : (r366).toInt = _) (rfl : (r406).toInt = _) (tgt := 540) (pq := 412) dc_LW_law_409 (by decide) rfl (fun c409 => ?_) (fun c409 => ?_)
                  · skip
                    refine xv_sub (L' := [(0, .ref b), (1, .ref (Y.2.2.2 0)), (2, .ref (Y.2.2.2 277)), (3, .int (nI i))]) [0, 1, 2, 3] rfl ?_
                    exact J540 M406 ⟨As2, hI2⟩
                  · skip
                    exact absurd (congrArg Int32.toInt hr) c409
                · skip
                  exact absurd c358 c398
            · skip
              refine xv_iconst hX (v := nI 1) dc_LW_law_361 (by decide) (rfl : _ = 362) ?_
              refine xv_goto hX (pq := 366) dc_LW_law_362 (by decide) ?_
              refine xv_calli hX (As := [.int (xs (i + 1)), .int (nI 1), .int (xs (i + 3)), .int (nI 1)]) (rest := []) (ct_CP_within _ Y Mk (xs (i + 1)) 1 (xs (i + 3)) 1 (by decide) (by decide) hI.k8 hI.n) ml_LW_54 li_CP_within rfl (by decide) rfl rfl rfl (by decide) ⟨by decide, by decide⟩ ⟨by decide, by decide⟩ (Nat.le_of_ble_eq_true rfl) dc_LW_law_366 (rfl : _ = 369) (fun r366 M366 p366 => ?_)
              have hm := hI.m (lc_within hI p366)
              refine xv_aload_n hX 2 dc_LW_law_369 rfl (rfl : _ = 370) ?_
              refine xv_aload_n hX 0 dc_LW_law_370 rfl (rfl : _ = 371) ?_
              refine xv_iload_n hX 3 dc_LW_law_371 rfl (rfl : _ = 372) ?_
              refine xv_iconst hX (v := nI 1) dc_LW_law_372 (by decide) (rfl : _ = 373) ?_
              refine xv_iadd hX dc_LW_law_373 (nI_add i 1) (rfl : _ = 374) ?_
              refine xl_ld hX hs hb hbA (by omega) (by omega) dc_LW_law_374 (rfl : _ = 375) ?_
              refine xv_aload_n hX 0 dc_LW_law_375 rfl (rfl : _ = 376) ?_
              refine xv_iload_n hX 3 dc_LW_law_376 rfl (rfl : _ = 377) ?_
              refine xv_iconst hX (v := nI 2) dc_LW_law_377 (by decide) (rfl : _ = 378) ?_
              refine xv_iadd hX dc_LW_law_378 (nI_add i 2) (rfl : _ = 379) ?_
              refine xl_ld hX hs hb hbA (by omega) (by omega) dc_LW_law_379 (rfl : _ = 380) ?_
              refine xv_if_eq hX (rfl : (xs (i + 2)).toInt = _) (tgt := 387) (pq := 383) dc_LW_law_380 (by decide) rfl (fun c380 => ?_) (fun c380 => ?_)
              · skip
                exact absurd c380 c340
              · skip
                refine xv_iconst hX (v := nI 1) dc_LW_law_383 (by decide) (rfl : _ = 384) ?_
                refine xv_goto hX (pq := 388) dc_LW_law_384 (by decide) ?_
                refine xv_aload_n hX 0 dc_LW_law_388 rfl (rfl : _ = 389) ?_
                refine xv_iload_n hX 3 dc_LW_law_389 rfl (rfl : _ = 390) ?_
                refine xv_iconst hX (v := nI 3) dc_LW_law_390 (by decide) (rfl : _ = 391) ?_
                refine xv_iadd hX dc_LW_law_391 (nI_add i 3) (rfl : _ = 392) ?_
                refine xl_ld hX hs hb hbA (by omega) (by omega) dc_LW_law_392 (rfl : _ = 393) ?_
                refine xv_aload_n hX 0 dc_LW_law_393 rfl (rfl : _ = 394) ?_
                refine xv_iload_n hX 3 dc_LW_law_394 rfl (rfl : _ = 395) ?_
                refine xv_iconst hX (v := nI 4) dc_LW_law_395 (by decide) (rfl : _ = 396) ?_
                refine xv_iadd hX dc_LW_law_396 (nI_add i 4) (rfl : _ = 397) ?_
                refine xl_ld hX hs hb hbA (by omega) (by omega) dc_LW_law_397 (rfl : _ = 398) ?_
                refine xv_if_eq hX (rfl : (xs (i + 4)).toInt = _) (tgt := 405) (pq := 401) dc_LW_law_398 (by decide) rfl (fun c398 => ?_) (fun c398 => ?_)
                · skip
                  exact absurd c398 c358
                · skip
                  refine xv_iconst hX (v := nI 1) dc_LW_law_401 (by decide) (rfl : _ = 402) ?_
                  refine xv_goto hX (pq := 406) dc_LW_law_402 (by decide) ?_
                  refine xv_calli hX (As := [.int (xs (i + 1)), .int (nI 1), .int (xs (i + 3)), .int (nI 1)]) (rest := [.int r366]) (ct_MD_within _ Y M366 (xs (i + 1)) 1 (xs (i + 3)) 1 (by decide) (by decide) As hm.1) ml_LW_58 li_MD_within rfl (by decide) rfl rfl rfl (by decide) ⟨by decide, by decide⟩ ⟨by decide, by decide⟩ (Nat.le_of_ble_eq_true rfl) dc_LW_law_406 (rfl : _ = 409) (fun r406 M406 p406 => ?_)
                  obtain ⟨hr, As2, hI2⟩ := ls_within hI p366 p406
                  refine xv_icmp_eq hX (rfl : (r366).toInt = _) (rfl : (r406).toInt = _) (tgt := 540) (pq := 412) dc_LW_law_409 (by decide) rfl (fun c409 => ?_) (fun c409 => ?_)
                  · skip
                    refine xv_sub (L' := [(0, .ref b), (1, .ref (Y.2.2.2 0)), (2, .ref (Y.2.2.2 277)), (3, .int (nI i))]) [0, 1, 2, 3] rfl ?_
                    exact J540 M406 ⟨As2, hI2⟩
                  · skip
                    exact absurd (congrArg Int32.toInt hr) c409
        by_cases sw32_10 : k = 10
        · skip
          refine xv_tsIn hX (nI_toInt (by omega)) (tgt := 414) dc_LW_law_32 (by omega) (by omega) (by rw [sw32_10]; rfl) (by decide) ?_
          refine xv_aload_n hX 1 dc_LW_law_414 rfl (rfl : _ = 415) ?_
          refine xv_aload_n hX 0 dc_LW_law_415 rfl (rfl : _ = 416) ?_
          refine xv_iload_n hX 3 dc_LW_law_416 rfl (rfl : _ = 417) ?_
          refine xv_iconst hX (v := nI 1) dc_LW_law_417 (by decide) (rfl : _ = 418) ?_
          refine xv_iadd hX dc_LW_law_418 (nI_add i 1) (rfl : _ = 419) ?_
          refine xl_ld hX hs hb hbA (by omega) (by omega) dc_LW_law_419 (rfl : _ = 420) ?_
          refine xv_calli hX (As := [.int (xs (i + 1))]) (rest := []) (ct_CP_recode _ Y Mk (xs (i + 1)) hI.k8 hI.2.2.1.2 (lw_Cs As) hI.r) ml_LW_59 li_CP_recode rfl (by decide) rfl rfl rfl (by decide) ⟨by decide, by decide⟩ ⟨by decide, by decide⟩ (Nat.le_of_ble_eq_true rfl) dc_LW_law_420 (rfl : _ = 423) (fun r420 M420 p420 => ?_)
          have hm := hI.m (lc_recode hI p420)
          refine xv_aload_n hX 2 dc_LW_law_423 rfl (rfl : _ = 424) ?_
          refine xv_aload_n hX 0 dc_LW_law_424 rfl (rfl : _ = 425) ?_
          refine xv_iload_n hX 3 dc_LW_law_425 rfl (rfl : _ = 426) ?_
          refine xv_iconst hX (v := nI 1) dc_LW_law_426 (by decide) (rfl : _ = 427) ?_
          refine xv_iadd hX dc_LW_law_427 (nI_add i 1) (rfl : _ = 428) ?_
          refine xl_ld hX hs hb hbA (by omega) (by omega) dc_LW_law_428 (rfl : _ = 429) ?_
          refine xv_calli hX (As := [.int (xs (i + 1))]) (rest := [.int r420]) (ct_MD_recode _ Y M420 (xs (i + 1)) hm.1.1 (fun a ha => (hm.1.2.2 a ha).1)) ml_LW_62 li_MD_recode rfl (by decide) rfl rfl rfl (by decide) ⟨by decide, by decide⟩ ⟨by decide, by decide⟩ (Nat.le_of_ble_eq_true rfl) dc_LW_law_429 (rfl : _ = 432) (fun r429 M429 p429 => ?_)
          obtain ⟨hr, As2, hI2⟩ := ls_recode hI p420 p429
          refine xv_icmp_eq hX (rfl : (r420).toInt = _) (rfl : (r429).toInt = _) (tgt := 540) (pq := 435) dc_LW_law_432 (by decide) rfl (fun c432 => ?_) (fun c432 => ?_)
          · skip
            refine xv_sub (L' := [(0, .ref b), (1, .ref (Y.2.2.2 0)), (2, .ref (Y.2.2.2 277)), (3, .int (nI i))]) [0, 1, 2, 3] rfl ?_
            exact J540 M429 ⟨As2, hI2⟩
          · skip
            exact absurd (congrArg Int32.toInt hr) c432
        by_cases sw32_11 : k = 11
        · skip
          refine xv_tsIn hX (nI_toInt (by omega)) (tgt := 437) dc_LW_law_32 (by omega) (by omega) (by rw [sw32_11]; rfl) (by decide) ?_
          refine xv_aload_n hX 1 dc_LW_law_437 rfl (rfl : _ = 438) ?_
          refine xv_aload_n hX 0 dc_LW_law_438 rfl (rfl : _ = 439) ?_
          refine xv_iload_n hX 3 dc_LW_law_439 rfl (rfl : _ = 440) ?_
          refine xv_iconst hX (v := nI 1) dc_LW_law_440 (by decide) (rfl : _ = 441) ?_
          refine xv_iadd hX dc_LW_law_441 (nI_add i 1) (rfl : _ = 442) ?_
          refine xl_ld hX hs hb hbA (by omega) (by omega) dc_LW_law_442 (rfl : _ = 443) ?_
          refine xv_calli hX (As := [.int (xs (i + 1))]) (rest := []) (ct_CP_link _ Y Mk (xs (i + 1)) hI.k8 hI.2.2.2.2.2.2.1) ml_LW_63 li_CP_link rfl (by decide) rfl rfl rfl (by decide) ⟨by decide, by decide⟩ ⟨by decide, by decide⟩ (Nat.le_of_ble_eq_true rfl) dc_LW_law_443 (rfl : _ = 446) (fun r443 M443 p443 => ?_)
          have hm := hI.m (lc_link hI p443)
          refine xv_aload_n hX 2 dc_LW_law_446 rfl (rfl : _ = 447) ?_
          refine xv_aload_n hX 0 dc_LW_law_447 rfl (rfl : _ = 448) ?_
          refine xv_iload_n hX 3 dc_LW_law_448 rfl (rfl : _ = 449) ?_
          refine xv_iconst hX (v := nI 1) dc_LW_law_449 (by decide) (rfl : _ = 450) ?_
          refine xv_iadd hX dc_LW_law_450 (nI_add i 1) (rfl : _ = 451) ?_
          refine xl_ld hX hs hb hbA (by omega) (by omega) dc_LW_law_451 (rfl : _ = 452) ?_
          refine xv_calli hX (As := [.int (xs (i + 1))]) (rest := [.int r443]) (ct_MD_link _ Y M443 (xs (i + 1)) hm.1.1 hm.2.2.1) ml_LW_66 li_MD_link rfl (by decide) rfl rfl rfl (by decide) ⟨by decide, by decide⟩ ⟨by decide, by decide⟩ (Nat.le_of_ble_eq_true rfl) dc_LW_law_452 (rfl : _ = 455) (fun r452 M452 p452 => ?_)
          obtain ⟨hr, As2, hI2⟩ := ls_link hI p443 p452
          refine xv_icmp_eq hX (rfl : (r443).toInt = _) (rfl : (r452).toInt = _) (tgt := 540) (pq := 458) dc_LW_law_455 (by decide) rfl (fun c455 => ?_) (fun c455 => ?_)
          · skip
            refine xv_sub (L' := [(0, .ref b), (1, .ref (Y.2.2.2 0)), (2, .ref (Y.2.2.2 277)), (3, .int (nI i))]) [0, 1, 2, 3] rfl ?_
            exact J540 M452 ⟨As2, hI2⟩
          · skip
            exact absurd (congrArg Int32.toInt hr) c455
        by_cases sw32_12 : k = 12
        · skip
          refine xv_tsIn hX (nI_toInt (by omega)) (tgt := 460) dc_LW_law_32 (by omega) (by omega) (by rw [sw32_12]; rfl) (by decide) ?_
          refine xv_aload_n hX 1 dc_LW_law_460 rfl (rfl : _ = 461) ?_
          refine xv_calli hX (As := []) (rest := []) (ct_CP_unlink _ Y Mk hI.2.2.2.2.2.2.1) ml_LW_67 li_CP_unlink rfl (by decide) rfl rfl rfl (by decide) ⟨by decide, by decide⟩ ⟨by decide, by decide⟩ (Nat.le_of_ble_eq_true rfl) dc_LW_law_461 (rfl : _ = 464) (fun r461 M461 p461 => ?_)
          have hm := hI.m (lc_unlink hI p461)
          refine xv_aload_n hX 2 dc_LW_law_464 rfl (rfl : _ = 465) ?_
          refine xv_calli hX (As := []) (rest := [.int r461]) (ct_MD_unlink _ Y M461 hm.2.2.1) ml_LW_71 li_MD_unlink rfl (by decide) rfl rfl rfl (by decide) ⟨by decide, by decide⟩ ⟨by decide, by decide⟩ (Nat.le_of_ble_eq_true rfl) dc_LW_law_465 (rfl : _ = 468) (fun r465 M465 p465 => ?_)
          obtain ⟨hr, As2, hI2⟩ := ls_unlink hI p461 p465
          refine xv_icmp_eq hX (rfl : (r461).toInt = _) (rfl : (r465).toInt = _) (tgt := 540) (pq := 471) dc_LW_law_468 (by decide) rfl (fun c468 => ?_) (fun c468 => ?_)
          · skip
            refine xv_sub (L' := [(0, .ref b), (1, .ref (Y.2.2.2 0)), (2, .ref (Y.2.2.2 277)), (3, .int (nI i))]) [0, 1, 2, 3] rfl ?_
            exact J540 M465 ⟨As2, hI2⟩
          · skip
            exact absurd (congrArg Int32.toInt hr) c468
        by_cases sw32_13 : k = 13
        · skip
          refine xv_tsIn hX (nI_toInt (by omega)) (tgt := 473) dc_LW_law_32 (by omega) (by omega) (by rw [sw32_13]; rfl) (by decide) ?_
          refine xv_aload_n hX 1 dc_LW_law_473 rfl (rfl : _ = 474) ?_
          refine xv_calli hX (As := []) (rest := []) (ct_CP_links _ Y Mk ) ml_LW_72 li_CP_links rfl (by decide) rfl rfl rfl (by decide) ⟨by decide, by decide⟩ ⟨by decide, by decide⟩ (Nat.le_of_ble_eq_true rfl) dc_LW_law_474 (rfl : _ = 477) (fun r474 M474 p474 => ?_)
          have hm := hI.m (lc_links hI p474)
          refine xv_aload_n hX 2 dc_LW_law_477 rfl (rfl : _ = 478) ?_
          refine xv_calli hX (As := []) (rest := [.int r474]) (ct_MD_links _ Y M474 ) ml_LW_75 li_MD_links rfl (by decide) rfl rfl rfl (by decide) ⟨by decide, by decide⟩ ⟨by decide, by decide⟩ (Nat.le_of_ble_eq_true rfl) dc_LW_law_478 (rfl : _ = 481) (fun r478 M478 p478 => ?_)
          obtain ⟨hr, As2, hI2⟩ := ls_links hI p474 p478
          refine xv_icmp_eq hX (rfl : (r474).toInt = _) (rfl : (r478).toInt = _) (tgt := 540) (pq := 484) dc_LW_law_481 (by decide) rfl (fun c481 => ?_) (fun c481 => ?_)
          · skip
            refine xv_sub (L' := [(0, .ref b), (1, .ref (Y.2.2.2 0)), (2, .ref (Y.2.2.2 277)), (3, .int (nI i))]) [0, 1, 2, 3] rfl ?_
            exact J540 M478 ⟨As2, hI2⟩
          · skip
            exact absurd (congrArg Int32.toInt hr) c481
        by_cases sw32_14 : k = 14
        · skip
          refine xv_tsIn hX (nI_toInt (by omega)) (tgt := 486) dc_LW_law_32 (by omega) (by omega) (by rw [sw32_14]; rfl) (by decide) ?_
          refine xv_aload_n hX 1 dc_LW_law_486 rfl (rfl : _ = 487) ?_
          refine xv_aload_n hX 0 dc_LW_law_487 rfl (rfl : _ = 488) ?_
          refine xv_iload_n hX 3 dc_LW_law_488 rfl (rfl : _ = 489) ?_
          refine xv_iconst hX (v := nI 1) dc_LW_law_489 (by decide) (rfl : _ = 490) ?_
          refine xv_iadd hX dc_LW_law_490 (nI_add i 1) (rfl : _ = 491) ?_
          refine xl_ld hX hs hb hbA (by omega) (by omega) dc_LW_law_491 (rfl : _ = 492) ?_
          refine xv_aload_n hX 0 dc_LW_law_492 rfl (rfl : _ = 493) ?_
          refine xv_iload_n hX 3 dc_LW_law_493 rfl (rfl : _ = 494) ?_
          refine xv_iconst hX (v := nI 2) dc_LW_law_494 (by decide) (rfl : _ = 495) ?_
          refine xv_iadd hX dc_LW_law_495 (nI_add i 2) (rfl : _ = 496) ?_
          refine xl_ld hX hs hb hbA (by omega) (by omega) dc_LW_law_496 (rfl : _ = 497) ?_
          refine xv_aload_n hX 0 dc_LW_law_497 rfl (rfl : _ = 498) ?_
          refine xv_iload_n hX 3 dc_LW_law_498 rfl (rfl : _ = 499) ?_
          refine xv_iconst hX (v := nI 3) dc_LW_law_499 (by decide) (rfl : _ = 500) ?_
          refine xv_iadd hX dc_LW_law_500 (nI_add i 3) (rfl : _ = 501) ?_
          refine xl_ld hX hs hb hbA (by omega) (by omega) dc_LW_law_501 (rfl : _ = 502) ?_
          refine xv_calli hX (As := [.int (xs (i + 1)), .int (xs (i + 2)), .int (xs (i + 3))]) (rest := []) (ct_CP_check _ Y Mk (xs (i + 1)) (xs (i + 2)) (xs (i + 3)) hI.k8 hI.2.2.2.2.2.2.1 (fun j hj => (hI.2.2.2.2.2.2.2 j hj).2) hI.K) ml_LW_76 li_CP_check rfl (by decide) rfl rfl rfl (by decide) ⟨by decide, by decide⟩ ⟨by decide, by decide⟩ (Nat.le_of_ble_eq_true rfl) dc_LW_law_502 (rfl : _ = 505) (fun r502 M502 p502 => ?_)
          have hm := hI.m (lc_check hI p502)
          refine xv_aload_n hX 2 dc_LW_law_505 rfl (rfl : _ = 506) ?_
          refine xv_aload_n hX 0 dc_LW_law_506 rfl (rfl : _ = 507) ?_
          refine xv_iload_n hX 3 dc_LW_law_507 rfl (rfl : _ = 508) ?_
          refine xv_iconst hX (v := nI 1) dc_LW_law_508 (by decide) (rfl : _ = 509) ?_
          refine xv_iadd hX dc_LW_law_509 (nI_add i 1) (rfl : _ = 510) ?_
          refine xl_ld hX hs hb hbA (by omega) (by omega) dc_LW_law_510 (rfl : _ = 511) ?_
          refine xv_aload_n hX 0 dc_LW_law_511 rfl (rfl : _ = 512) ?_
          refine xv_iload_n hX 3 dc_LW_law_512 rfl (rfl : _ = 513) ?_
          refine xv_iconst hX (v := nI 2) dc_LW_law_513 (by decide) (rfl : _ = 514) ?_
          refine xv_iadd hX dc_LW_law_514 (nI_add i 2) (rfl : _ = 515) ?_
          refine xl_ld hX hs hb hbA (by omega) (by omega) dc_LW_law_515 (rfl : _ = 516) ?_
          refine xv_aload_n hX 0 dc_LW_law_516 rfl (rfl : _ = 517) ?_
          refine xv_iload_n hX 3 dc_LW_law_517 rfl (rfl : _ = 518) ?_
          refine xv_iconst hX (v := nI 3) dc_LW_law_518 (by decide) (rfl : _ = 519) ?_
          refine xv_iadd hX dc_LW_law_519 (nI_add i 3) (rfl : _ = 520) ?_
          refine xl_ld hX hs hb hbA (by omega) (by omega) dc_LW_law_520 (rfl : _ = 521) ?_
          refine xv_calli hX (As := [.int (xs (i + 1)), .int (xs (i + 2)), .int (xs (i + 3))]) (rest := [.int r502]) (ct_MD_check _ Y M502 (xs (i + 1)) (xs (i + 2)) (xs (i + 3)) As hm.1 hm.2.2.1 hm.2.2.2) ml_LW_80 li_MD_check rfl (by decide) rfl rfl rfl (by decide) ⟨by decide, by decide⟩ ⟨by decide, by decide⟩ (Nat.le_of_ble_eq_true rfl) dc_LW_law_521 (rfl : _ = 524) (fun r521 M521 p521 => ?_)
          obtain ⟨hr, As2, hI2⟩ := ls_check hI p502 p521
          refine xv_icmp_eq hX (rfl : (r502).toInt = _) (rfl : (r521).toInt = _) (tgt := 540) (pq := 527) dc_LW_law_524 (by decide) rfl (fun c524 => ?_) (fun c524 => ?_)
          · skip
            refine xv_sub (L' := [(0, .ref b), (1, .ref (Y.2.2.2 0)), (2, .ref (Y.2.2.2 277)), (3, .int (nI i))]) [0, 1, 2, 3] rfl ?_
            exact J540 M521 ⟨As2, hI2⟩
          · skip
            exact absurd (congrArg Int32.toInt hr) c524
        by_cases sw32_15 : k = 15
        · skip
          refine xv_tsIn hX (nI_toInt (by omega)) (tgt := 529) dc_LW_law_32 (by omega) (by omega) (by rw [sw32_15]; rfl) (by decide) ?_
          refine xv_aload_n hX 1 dc_LW_law_529 rfl (rfl : _ = 530) ?_
          refine xv_callv hX (As := []) (rest := []) (ct_CP_reset _ Y Mk) ml_LW_81 li_CP_reset rfl (by decide) rfl rfl rfl (by decide) ⟨by decide, by decide⟩ ⟨by decide, by decide⟩ (Nat.le_of_ble_eq_true rfl) dc_LW_law_530 (rfl : _ = 533) (fun M530 p530 => ?_)
          refine xv_aload_n hX 2 dc_LW_law_533 rfl (rfl : _ = 534) ?_
          refine xv_callv hX (As := []) (rest := []) (ct_MD_reset _ Y M530) ml_LW_84 li_MD_reset rfl (by decide) rfl rfl rfl (by decide) ⟨by decide, by decide⟩ ⟨by decide, by decide⟩ (Nat.le_of_ble_eq_true rfl) dc_LW_law_534 (rfl : _ = 537) (fun M534 p534 => ?_)
          refine xv_goto hX (pq := 540) dc_LW_law_537 (by decide) ?_
          refine xv_sub (L' := [(0, .ref b), (1, .ref (Y.2.2.2 0)), (2, .ref (Y.2.2.2 277)), (3, .int (nI i))]) [0, 1, 2, 3] rfl ?_
          exact J540 M534 ⟨As, by rw [p534, p530]; exact ls_reset hI⟩
        refine xv_tsOut hX (nI_toInt (by omega)) (tgt := 540) dc_LW_law_32 (by omega) (by decide) ?_
        refine xv_sub (L' := [(0, .ref b), (1, .ref (Y.2.2.2 0)), (2, .ref (Y.2.2.2 277)), (3, .int (nI i))]) [0, 1, 2, 3] rfl ?_
        exact J540 Mk ⟨As, hI⟩
  refine xv_sub (L' := [(0, .ref b), (1, .ref (Y.2.2.2 0)), (2, .ref (Y.2.2.2 277)), (3, .int (nI i))]) [0, 1, 2, 3] rfl ?_
  exact lp18 _ Mk i hI0 hi (Nat.lt_succ_self _)
