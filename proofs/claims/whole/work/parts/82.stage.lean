/-! stages of a constructor -/
def xn_g (lk : xl_L) (b : Nat) (row : Nat → Option Nat) (a j : Nat) : xl_L := fun z => if z = b then row else if z = a then (fun k => if k < j then xn_lk a k else none) else if b ≤ z then xn_lk z else lk z
theorem xn_g_b {lk : xl_L} {b a j : Nat} {row : Nat → Option Nat} : xn_g lk b row a j b = row := if_pos rfl
theorem xn_g_a {lk : xl_L} {b a j : Nat} {row : Nat → Option Nat} (h : a ≠ b) : xn_g lk b row a j a = fun k => if k < j then xn_lk a k else none := (if_neg h).trans (if_pos rfl)
theorem xn_g_ge {lk : xl_L} {b a j z : Nat} {row : Nat → Option Nat} (h : z ≠ b) (h2 : z ≠ a) (h3 : b ≤ z) : xn_g lk b row a j z = xn_lk z := (if_neg h).trans ((if_neg h2).trans (if_pos h3))
theorem xn_g_lt {lk : xl_L} {b a j z : Nat} {row : Nat → Option Nat} (h : z < b) (h2 : z ≠ a) : xn_g lk b row a j z = lk z := (if_neg (by omega)).trans ((if_neg h2).trans (if_neg (by omega)))
theorem xn_g_call {lk : xl_L} {b a j N z : Nat} {row : Nat → Option Nat} (ha : a < N) (hb : b < N) : xn_fl (xn_l (xn_g lk b row a j) N) N z = xn_g lk b row a j z := by
  by_cases h : z < N
  · rw [xn_fl_lt h, xn_l_ne (by omega)]
  · rw [xn_fl_ge (by omega), xn_g_ge (by omega) (by omega) (by omega)]
theorem xn_g_put {lk : xl_L} {b a j k v z : Nat} {row : Nat → Option Nat} : xl_set (xn_g lk b row a j) b k (some v) z = xn_g lk b (fun i => if i = k then some v else row i) a j z := by
  by_cases h : z = b
  · subst h
    rw [xl_row, xn_g_b, xn_g_b]
  · rw [xl_oth h]
    unfold xn_g
    rw [if_neg h, if_neg h]
theorem xn_g_step {lk : xl_L} {b a j N v z : Nat} {row : Nat → Option Nat} (hab : a ≠ b) (ha : a < N) (hb : b < N) (hv : xn_lk a j = some v) : xl_set (xn_fl (xn_l (xn_g lk b row a j) N) N) a j (some v) z = xn_g lk b row a (j + 1) z := by
  by_cases h : z = a
  · subst h
    rw [xl_row, xn_g_call ha hb, xn_g_a hab, xn_g_a hab]
    funext k
    by_cases hk : k = j
    · subst hk
      rw [if_pos rfl, if_pos (by omega), hv]
    · rw [if_neg hk]
      dsimp only
      by_cases h2 : k < j
      · rw [if_pos h2, if_pos (by omega)]
      · rw [if_neg h2, if_neg (by omega)]
  · rw [xl_oth h, xn_g_call ha hb]
    unfold xn_g
    rw [if_neg h, if_neg h]
theorem xn_g_cl {lk : xl_L} {b a j N : Nat} {row : Nat → Option Nat} (hcl : xn_cl lk b) (hbN : b ≤ N) (hab : b ≤ a) (hr : ∀ k t, row k = some t → t < N) (ha : ∀ k t, k < j → xn_lk a k = some t → t < N) (ho : ∀ z, b < z → z < N → z ≠ a → ∀ k t, xn_lk z k = some t → t < N) : xn_cl (xn_g lk b row a j) N := by
  intro z hz k t ht
  by_cases h : z = b
  · rw [h, xn_g_b] at ht
    exact hr k t ht
  · by_cases h2 : z = a
    · subst h2
      rw [xn_g_a h] at ht
      dsimp only at ht
      split at ht
      · rename_i hk
        exact ha k t hk ht
      · cases ht
    · by_cases h3 : b ≤ z
      · rw [xn_g_ge h h2 h3] at ht
        exact ho z (by omega) hz h2 k t ht
      · rw [xn_g_lt (by omega) h2] at ht
        exact Nat.lt_of_lt_of_le (hcl z (by omega) k t ht) hbN
theorem xn_fm_call {M : xm_M} {b N z : Nat} (hb : b ≤ N) : xn_fm (xn_m (xn_fm M b) N) N z = xn_fm M b z := by
  by_cases h : z < N
  · rw [xn_fm_lt h, xn_m_ne (by omega)]
  · rw [xn_fm_ge (by omega), xn_fm_ge (by omega)]
theorem xn_mc_call {M : xm_M} {b N z : Nat} (hb : b < N) : xn_fm (xn_m (xn_m (xn_fm M b) b) N) N z = xn_m (xn_fm M b) b z := by
  by_cases h : z < N
  · rw [xn_fm_lt h, xn_m_ne (by omega)]
  · rw [xn_fm_ge (by omega), xn_m_ne (by omega), xn_fm_ge (by omega)]
/-! a method over any world -/
def xg_v (l : Launch) (q : xc_q) (d : Nat) (Y : xw_Y) (lk : xl_L) (N : Nat) (av : List Value) (M : xm_M) (post : xm_M → Prop) : Prop := Met l q.1 (xc_ws q) (xc_rm d) (va_Pc av (fun U => xw_B Y lk N M U ∧ xw_nest U)) (va_Qv post (xw_B Y lk N) Y.2.2.1) 0 0 Y.2.2.1
def xg_r (X : xv_X) (Y : xw_Y) (lk : xl_L) (N : Nat) (post : xm_M → Prop) : Prop := xv_Q X = MQ (xv_below X) (va_Qv post (xw_B Y lk N) Y.2.2.1) (xv_args X) (xv_s X) 0 0 Y.2.2.1 ∧ (xv_meth X).sig.returnType = none
theorem xg_v.mk {l : Launch} {q : xc_q} {d : Nat} {Y : xw_Y} {lk : xl_L} {N : Nat} {av : List Value} {M : xm_M} {post : xm_M → Prop} (hty : q.2.2.2 = none) (hq : plainName q.1.cls = true) (hL : (lg_sl av).length ≤ q.2.2.1)
    (body : ∀ X : xv_X, xv_l X = l → xv_ok X Y q.2.1 q.1.cls q.2.2.1 (xc_rm d) → xg_r X Y lk N post → xv_V X Y q.2.2.1 0 0 lk N M 0 (lv_args 0 av) []) : xg_v l q d Y lk N av M post := by
  refine Met.ofW (cc := q.2.1) (maxL := q.2.2.1) (ret := q.2.2.2) hq rfl ?_
  intro p e s m args below meth c s₁ B hml hv
  obtain ⟨rfl, ⟨hP, hK, hD⟩, hN⟩ := hv
  have hts := atoms_spec (ws := xc_ws q) B.pre
  have hr := B.returns
  rw [hty] at hr
  have hl := lv_entry av (n := q.2.2.1) hL
  rw [lg_entry_eq]
  exact body (p, l, e, (headSpec (xc_ws q) (xc_rm d)).room, s, m, _, below, meth, c, _) rfl ⟨B.exec, B.bytes, hml, findClass_of_methodNamed B.named, fun w hw => hts w (List.mem_cons_of_mem _ hw), hK, B.notSynchronized, rfl, hN⟩ ⟨rfl, hr⟩ s.heap [] _ hP hD va_S.rf hl
section XG
variable {X : xv_X} {Y : xw_Y} {cc : ByteArray} {own : String} {nL cells slots : Nat} {rm : Room} {lk : xl_L} {N : Nat} {M : xm_M} {pc pq : Nat} {L : List (Nat × Value)}
theorem xg_ret {post : xm_M → Prop} (hX : xv_ok X Y cc own nL rm) (hR : xg_r X Y lk N post) (d : decode cc pc = .ok (.return_, 1)) (hp : post M) : xv_V X Y nL 0 0 lk N M pc L [] := by
  intro H locs ls hP hD hS hl
  rw [hR.1]
  exact W.vret hX.1 hX.2.1 hR.2 (fun t ht hW => ⟨⟨M, rfl, hp, by rw [ht]; exact hP, va_K.moved hW.alike hX.2.2.2.2.2.1, hD⟩, hS.F ht⟩) hS.2.2 d hX.2.2.2.2.2.2.1
theorem xg_blind (Y : xw_Y) (lk : xl_L) (N : Nat) (av : List Value) (M : xm_M) : FrameBlind (va_Pc av (fun U => xw_B Y lk N M U ∧ xw_nest U)) := by
  intro a U g mk h
  obtain ⟨q0, ⟨qP, qK, qD⟩, qN⟩ := h
  exact ⟨q0, ⟨qP, va_K.moved (u := U) (U := U.calling g mk a) (Vm.Alike.refl U.vm) qK, qD⟩, xw_nest_same (u := U) (U := U.calling g mk a) rfl qN⟩
theorem xg_callv (hX : xv_ok X Y cc own nL rm) {q : xc_q} {dz : Nat} {av As rest st0 : List Value} {post : xm_M → Prop} (hM : xg_v (xv_l X) q dz Y lk N av M post) {idx b ci n : Nat} {T : u_T} (hl : xc_L own idx q As.length) (hv : xc_LV q) (hb : xw_K b = (0, ci, n)) (hbN : b < N) (hc : xw_Cl[ci]? = some (q.1.cls, T, n)) (hav : av = .ref (Y.2.2.2 b) :: As) (hst : st0 = As.reverse ++ .ref (Y.2.2.2 b) :: rest)
    (hz : q.2.2.1 ≤ 21) (hR : dz + 1 ≤ rm.frames ∧ 40 * dz + 40 ≤ rm.locals) (hf : cells ≤ rm.cells ∧ slots ≤ rm.slots) (hW : (rest.map fun v => v.category).sum ≤ 8) (d : decode cc pc = .ok (.invokevirtual idx, 3)) (e : pc + 3 = pq)
    (h : ∀ (M' : xm_M), post M' → xv_V X Y nL cells slots lk N M' pq L rest) : xv_V X Y nL cells slots lk N M pc L st0 := by
  subst e
  obtain ⟨hx, hcc, hml, hown, hts, hK, hlk, hrm, hN⟩ := hX
  obtain ⟨hli, hini, hcode, hmh, hpar⟩ := hl
  have hG := xc_good q hcode
  have hR' : (xc_rm dz).frames + 1 ≤ (xv_R X).frames ∧ 8 + (q.2.2.1 + 11) + (xc_rm dz).locals ≤ (xv_R X).locals := by
    rw [hrm]
    refine ⟨hR.1, ?_⟩
    have := hR.2
    show 8 + (q.2.2.1 + 11) + 40 * dz ≤ rm.locals
    omega
  have hcells : cells + 0 ≤ (xv_R X).cells ∧ slots + 0 ≤ (xv_R X).slots := by
    rw [hrm]
    exact hf
  intro H locs ls hP hD hS hs
  have he : (xw_ws Y lk M N)[b]? = some (Y.2.2.2 b, .inr (ci, xw_fs Y.2.2.2 (xw_rk ci) (lk b) (M b) n)) := by
    rw [xw_at hbN]; unfold xw_cell; rw [hb]; rfl
  have hrecv := va_recv hK hP hc he
  have hp : PreV (xv_s X) H q.1.cls (Y.2.2.2 b) (va_Pc av (fun U => xw_B Y lk N M U ∧ xw_nest U)) As :=
    ⟨xg_blind Y lk N av M, hrecv, fun U hU hWm => ⟨by rw [hav], ⟨by rw [hU]; exact hP, va_K.moved hWm.alike hK, hD⟩, xw_nest_warm hWm hN⟩⟩
  have hrun : va_Run (xv_p X) (xv_l X) (xv_e X) (xv_R X) (xv_s X) (xv_m X) (xv_args X) (xv_below X) (xv_meth X) (xv_c X) H locs cells slots 0 0 (F0 (xv_m X) pc ls st0) rest (va_Qv post (xw_B Y lk N) Y.2.2.1 (Value.ref (Y.2.2.2 b) :: As).toArray) Y.2.2.1 := by
    rcases hli with hli | ⟨host, hli⟩
    · exact va_runV (Ts := xw_W) ⟨hx, hcc, hml, hown, hts⟩ hM ⟨callB_of (Ts := xw_W) As.length hts hG rfl rfl rfl (hts _ hini) (hts _ hli) ⟨hmh.1, hmh.2, hpar⟩ hR', hts _ hv.1, hts _ hv.2⟩ hp rfl rfl hs.1 hst (lv_room hW) d hcells
    · exact va_runVN (Ts := xw_W) ⟨hx, hcc, hml, hown, hts⟩ hM ⟨va_cnB (Ts := xw_W) As.length hts hG rfl rfl rfl (hN _ hli) (hts _ hini) ⟨hmh.1, hmh.2, hpar⟩ hR', hts _ hv.1, hts _ hv.2⟩ hp rfl rfl hs.1 hst (lv_room hW) d hcells
  refine va_callv hrun hS (fun q _ h => h) (fun q h => h) (fun u t H1 locs1 ht hvm hp hB hz1 hk1 hS1 => ?_)
  obtain ⟨hP1, -, hD1⟩ := hB
  rw [ht] at hP1
  exact h u hp H1 locs1 ls hP1 hD1 hS1 hs
end XG
