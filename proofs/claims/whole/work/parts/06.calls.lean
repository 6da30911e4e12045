/-! contracts over the memory: no cell is made -/
abbrev xc_rm (d : Nat) : Room := { frames := d, cells := 0, slots := 0, locals := 40 * d }
abbrev xc_ws (q : xc_q) : List Cond := Cond.code q.1 q.2.1 q.2.2.1 q.2.2.2 :: xw_W
/-- a method with an int (or boolean) answer -/
def xc_i (l : Launch) (q : xc_q) (d : Nat) (Y : xw_Y) (av : List Value) (M : xm_M) (post : Int32 → xm_M → Prop) : Prop := Met l q.1 (xc_ws q) (xc_rm d) (va_Pc av (xw_P Y M)) (va_Qi post (xw_B Y xw_lk xw_N) Y.2.2.1) 0 0 Y.2.2.1
/-- a method without an answer -/
def xc_v (l : Launch) (q : xc_q) (d : Nat) (Y : xw_Y) (av : List Value) (M : xm_M) (post : xm_M → Prop) : Prop := Met l q.1 (xc_ws q) (xc_rm d) (va_Pc av (xw_P Y M)) (va_Qv post (xw_B Y xw_lk xw_N) Y.2.2.1) 0 0 Y.2.2.1
/-- a method that answers a place -/
def xc_r (l : Launch) (q : xc_q) (d : Nat) (Y : xw_Y) (av : List Value) (M : xm_M) (post : xm_M × Nat → Prop) : Prop := Met l q.1 (xc_ws q) (xc_rm d) (va_Pc av (xw_P Y M)) (va_Qr post (fun u a t => a = Y.2.2.2 u.2 ∧ xw_B Y xw_lk xw_N u.1 t) Y.2.2.1) 0 0 Y.2.2.1
def xr_i (X : xv_X) (Y : xw_Y) (post : Int32 → xm_M → Prop) (ty : FieldType) : Prop := xv_Q X = MQ (xv_below X) (va_Qi post (xw_B Y xw_lk xw_N) Y.2.2.1) (xv_args X) (xv_s X) 0 0 Y.2.2.1 ∧ (xv_meth X).sig.returnType = some ty
def xr_v (X : xv_X) (Y : xw_Y) (post : xm_M → Prop) : Prop := xv_Q X = MQ (xv_below X) (va_Qv post (xw_B Y xw_lk xw_N) Y.2.2.1) (xv_args X) (xv_s X) 0 0 Y.2.2.1 ∧ (xv_meth X).sig.returnType = none
def xr_r (X : xv_X) (Y : xw_Y) (post : xm_M × Nat → Prop) (C : String) : Prop := xv_Q X = MQ (xv_below X) (va_Qr post (fun u a t => a = Y.2.2.2 u.2 ∧ xw_B Y xw_lk xw_N u.1 t) Y.2.2.1) (xv_args X) (xv_s X) 0 0 Y.2.2.1 ∧ (xv_meth X).sig.returnType = some (.object C)
theorem xc_i.mk {l : Launch} {q : xc_q} {d : Nat} {Y : xw_Y} {av : List Value} {M : xm_M} {post : Int32 → xm_M → Prop} (ty : FieldType) (hty : q.2.2.2 = some ty) (hq : plainName q.1.cls = true) (hL : (lg_sl av).length ≤ q.2.2.1)
    (body : ∀ X : xv_X, xv_l X = l → xv_ok X Y q.2.1 q.1.cls q.2.2.1 (xc_rm d) → xr_i X Y post ty → xv_V X Y q.2.2.1 0 0 xw_lk xw_N M 0 (lv_args 0 av) []) : xc_i l q d Y av M post := by
  refine Met.ofW (cc := q.2.1) (maxL := q.2.2.1) (ret := q.2.2.2) hq rfl ?_
  intro p e s m args below meth c s₁ B hml hv
  obtain ⟨rfl, ⟨hP, hK, hD⟩, hN⟩ := hv
  have hts := atoms_spec (ws := xc_ws q) B.pre
  have hr := B.returns
  rw [hty] at hr
  have hl := lv_entry av (n := q.2.2.1) hL
  rw [lg_entry_eq]
  exact body (p, l, e, (headSpec (xc_ws q) (xc_rm d)).room, s, m, _, below, meth, c, _) rfl ⟨B.exec, B.bytes, hml, findClass_of_methodNamed B.named, fun w hw => hts w (List.mem_cons_of_mem _ hw), hK, B.notSynchronized, rfl, hN⟩ ⟨rfl, hr⟩ s.heap [] _ hP hD va_S.rf hl
theorem xc_v.mk {l : Launch} {q : xc_q} {d : Nat} {Y : xw_Y} {av : List Value} {M : xm_M} {post : xm_M → Prop} (hty : q.2.2.2 = none) (hq : plainName q.1.cls = true) (hL : (lg_sl av).length ≤ q.2.2.1)
    (body : ∀ X : xv_X, xv_l X = l → xv_ok X Y q.2.1 q.1.cls q.2.2.1 (xc_rm d) → xr_v X Y post → xv_V X Y q.2.2.1 0 0 xw_lk xw_N M 0 (lv_args 0 av) []) : xc_v l q d Y av M post := by
  refine Met.ofW (cc := q.2.1) (maxL := q.2.2.1) (ret := q.2.2.2) hq rfl ?_
  intro p e s m args below meth c s₁ B hml hv
  obtain ⟨rfl, ⟨hP, hK, hD⟩, hN⟩ := hv
  have hts := atoms_spec (ws := xc_ws q) B.pre
  have hr := B.returns
  rw [hty] at hr
  have hl := lv_entry av (n := q.2.2.1) hL
  rw [lg_entry_eq]
  exact body (p, l, e, (headSpec (xc_ws q) (xc_rm d)).room, s, m, _, below, meth, c, _) rfl ⟨B.exec, B.bytes, hml, findClass_of_methodNamed B.named, fun w hw => hts w (List.mem_cons_of_mem _ hw), hK, B.notSynchronized, rfl, hN⟩ ⟨rfl, hr⟩ s.heap [] _ hP hD va_S.rf hl
theorem xc_r.mk {l : Launch} {q : xc_q} {d : Nat} {Y : xw_Y} {av : List Value} {M : xm_M} {post : xm_M × Nat → Prop} (C : String) (hty : q.2.2.2 = some (.object C)) (hq : plainName q.1.cls = true) (hL : (lg_sl av).length ≤ q.2.2.1)
    (body : ∀ X : xv_X, xv_l X = l → xv_ok X Y q.2.1 q.1.cls q.2.2.1 (xc_rm d) → xr_r X Y post C → xv_V X Y q.2.2.1 0 0 xw_lk xw_N M 0 (lv_args 0 av) []) : xc_r l q d Y av M post := by
  refine Met.ofW (cc := q.2.1) (maxL := q.2.2.1) (ret := q.2.2.2) hq rfl ?_
  intro p e s m args below meth c s₁ B hml hv
  obtain ⟨rfl, ⟨hP, hK, hD⟩, hN⟩ := hv
  have hts := atoms_spec (ws := xc_ws q) B.pre
  have hr := B.returns
  rw [hty] at hr
  have hl := lv_entry av (n := q.2.2.1) hL
  rw [lg_entry_eq]
  exact body (p, l, e, (headSpec (xc_ws q) (xc_rm d)).room, s, m, _, below, meth, c, _) rfl ⟨B.exec, B.bytes, hml, findClass_of_methodNamed B.named, fun w hw => hts w (List.mem_cons_of_mem _ hw), hK, B.notSynchronized, rfl, hN⟩ ⟨rfl, hr⟩ s.heap [] _ hP hD va_S.rf hl
section XR
variable {X : xv_X} {Y : xw_Y} {cc : ByteArray} {own : String} {nL : Nat} {rm : Room} {M : xm_M} {pc : Nat} {L : List (Nat × Value)}
theorem xv_reti {post : Int32 → xm_M → Prop} {ty : FieldType} {v : Int32} (hX : xv_ok X Y cc own nL rm) (hR : xr_i X Y post ty) (hn : narrow ty (.int v) = .int v) (d : decode cc pc = .ok (.ireturn, 1)) (hp : post v M) : xv_V X Y nL 0 0 xw_lk xw_N M pc L [.int v] := by
  intro H locs ls hP hD hS hl
  rw [hR.1]
  exact W.zret hX.1 hX.2.1 hR.2 hn (fun t ht hW => ⟨⟨v, M, rfl, hp, by rw [ht]; exact hP, va_K.moved hW.alike hX.2.2.2.2.2.1, hD⟩, hS.F ht⟩) hS.2.2 d hX.2.2.2.2.2.2.1
theorem xv_retv {post : xm_M → Prop} (hX : xv_ok X Y cc own nL rm) (hR : xr_v X Y post) (d : decode cc pc = .ok (.return_, 1)) (hp : post M) : xv_V X Y nL 0 0 xw_lk xw_N M pc L [] := by
  intro H locs ls hP hD hS hl
  rw [hR.1]
  exact W.vret hX.1 hX.2.1 hR.2 (fun t ht hW => ⟨⟨M, rfl, hp, by rw [ht]; exact hP, va_K.moved hW.alike hX.2.2.2.2.2.1, hD⟩, hS.F ht⟩) hS.2.2 d hX.2.2.2.2.2.2.1
theorem xv_retr {post : xm_M × Nat → Prop} {C : String} {q : Nat} (hX : xv_ok X Y cc own nL rm) (hR : xr_r X Y post C) (d : decode cc pc = .ok (.areturn, 1)) (hp : post (M, q)) : xv_V X Y nL 0 0 xw_lk xw_N M pc L [.ref (Y.2.2.2 q)] := by
  intro H locs ls hP hD hS hl
  rw [hR.1]
  exact W.aret hX.1 hX.2.1 hR.2 (Or.inl ⟨_, rfl⟩) (Or.inr ⟨_, rfl⟩) (fun t ht hW => ⟨⟨(M, q), _, rfl, hp, rfl, by rw [ht]; exact hP, va_K.moved hW.alike hX.2.2.2.2.2.1, hD⟩, hS.F ht⟩) hS.2.2 d hX.2.2.2.2.2.2.1
end XR
theorem xc_good (q : xc_q) (h : Cond.code q.1 q.2.1 q.2.2.1 q.2.2.2 ∈ xw_W) : GoodIn xw_W (xc_ws q) := by
  intro w hw
  rcases List.mem_cons.mp hw with rfl | hw
  · exact ⟨h, Or.inl rfl⟩
  · exact xw_good w hw
theorem xw_blind (Y : xw_Y) (av : List Value) (M : xm_M) : FrameBlind (va_Pc av (xw_P Y M)) := by
  intro a U g mk h
  obtain ⟨q0, ⟨qP, qK, qD⟩, qN⟩ := h
  exact ⟨q0, ⟨qP, va_K.moved (u := U) (U := U.calling g mk a) (Vm.Alike.refl U.vm) qK, qD⟩, xw_nest_same (u := U) (U := U.calling g mk a) rfl qN⟩
section XK
variable {X : xv_X} {Y : xw_Y} {cc : ByteArray} {own : String} {nL cells slots : Nat} {rm : Room} {M : xm_M} {pc pq : Nat} {L : List (Nat × Value)}
theorem xv_runV (hX : xv_ok X Y cc own nL rm) {q : xc_q} {dz : Nat} {av As rest st0 : List Value} {Qc : Array Value → State → Outcome → State → Prop} {free : Addr → Prop} (hM : Met (xv_l X) q.1 (xc_ws q) (xc_rm dz) (va_Pc av (xw_P Y M)) Qc 0 0 free) {idx b ci n : Nat} {T : u_T} (hl : xc_L own idx q As.length) (hv : xc_LV q) (hb : xw_K b = (0, ci, n)) (hbN : b < xw_N) (hc : xw_Cl[ci]? = some (q.1.cls, T, n)) (hav : av = .ref (Y.2.2.2 b) :: As) (hst : st0 = As.reverse ++ .ref (Y.2.2.2 b) :: rest)
    (hz : q.2.2.1 ≤ 21) (hR : dz + 1 ≤ rm.frames ∧ 40 * dz + 40 ≤ rm.locals) (hf : cells ≤ rm.cells ∧ slots ≤ rm.slots) (hW : (rest.map fun v => v.category).sum ≤ 8) (d : decode cc pc = .ok (.invokevirtual idx, 3)) {H : Heap} {locs : List Loc} {ls : Array Slot} (hP : va_P Y.1 xw_Cl (xw_ws Y xw_lk M xw_N) H) (hD : va_D Y.2.2.1 (xw_ws Y xw_lk M xw_N)) (hs : lv_has ls nL L) :
    va_Run (xv_p X) (xv_l X) (xv_e X) (xv_R X) (xv_s X) (xv_m X) (xv_args X) (xv_below X) (xv_meth X) (xv_c X) H locs cells slots 0 0 (F0 (xv_m X) pc ls st0) rest (Qc (Value.ref (Y.2.2.2 b) :: As).toArray) free := by
  obtain ⟨hx, hcc, hml, hown, hts, hK, hlk, hrm, hN⟩ := hX
  obtain ⟨hli, hini, hcode, hmh, hpar⟩ := hl
  have hG := xc_good q hcode
  have hR' : (xc_rm dz).frames + 1 ≤ (xv_R X).frames ∧ 8 + (q.2.2.1 + 11) + (xc_rm dz).locals ≤ (xv_R X).locals := by
    rw [hrm]
    refine ⟨hR.1, ?_⟩
    have := hR.2
    show 8 + (q.2.2.1 + 11) + 40 * dz ≤ rm.locals
    omega
  have hcells : cells + 0 ≤ (xv_R X).cells ∧ slots + 0 ≤ (xv_R X).slots := by
    rw [hrm]
    exact hf
  have he : (xw_ws Y xw_lk M xw_N)[b]? = some (Y.2.2.2 b, .inr (ci, xw_fs Y.2.2.2 (xw_rk ci) (xw_lk b) (M b) n)) := by
    rw [xw_at hbN]; unfold xw_cell; rw [hb]; rfl
  have hrecv := va_recv hK hP hc he
  have hp : PreV (xv_s X) H q.1.cls (Y.2.2.2 b) (va_Pc av (xw_P Y M)) As :=
    ⟨xw_blind Y av M, hrecv, fun U hU hWm => ⟨by rw [hav], ⟨by rw [hU]; exact hP, va_K.moved hWm.alike hK, hD⟩, xw_nest_warm hWm hN⟩⟩
  rcases hli with hli | ⟨host, hli⟩
  · exact va_runV (Ts := xw_W) ⟨hx, hcc, hml, hown, hts⟩ hM ⟨callB_of (Ts := xw_W) As.length hts hG rfl rfl rfl (hts _ hini) (hts _ hli) ⟨hmh.1, hmh.2, hpar⟩ hR', hts _ hv.1, hts _ hv.2⟩ hp rfl rfl hs.1 hst (lv_room hW) d hcells
  · exact va_runVN (Ts := xw_W) ⟨hx, hcc, hml, hown, hts⟩ hM ⟨va_cnB (Ts := xw_W) As.length hts hG rfl rfl rfl (hN _ hli) (hts _ hini) ⟨hmh.1, hmh.2, hpar⟩ hR', hts _ hv.1, hts _ hv.2⟩ hp rfl rfl hs.1 hst (lv_room hW) d hcells
theorem xv_runS (hX : xv_ok X Y cc own nL rm) {q : xc_q} {dz : Nat} {As rest st0 : List Value} {Qc : Array Value → State → Outcome → State → Prop} {free : Addr → Prop} (hM : Met (xv_l X) q.1 (xc_ws q) (xc_rm dz) (va_Pc As (xw_P Y M)) Qc 0 0 free) {idx : Nat} (hl : xc_L own idx q As.length) (hv : xc_LS q) (hst : st0 = As.reverse ++ rest)
    (hz : q.2.2.1 ≤ 21) (hR : dz + 1 ≤ rm.frames ∧ 40 * dz + 40 ≤ rm.locals) (hf : cells ≤ rm.cells ∧ slots ≤ rm.slots) (hW : (rest.map fun v => v.category).sum ≤ 8) (d : decode cc pc = .ok (.invokestatic idx, 3)) {H : Heap} {locs : List Loc} {ls : Array Slot} (hP : va_P Y.1 xw_Cl (xw_ws Y xw_lk M xw_N) H) (hD : va_D Y.2.2.1 (xw_ws Y xw_lk M xw_N)) (hs : lv_has ls nL L) :
    va_Run (xv_p X) (xv_l X) (xv_e X) (xv_R X) (xv_s X) (xv_m X) (xv_args X) (xv_below X) (xv_meth X) (xv_c X) H locs cells slots 0 0 (F0 (xv_m X) pc ls st0) rest (Qc As.toArray) free := by
  obtain ⟨hx, hcc, hml, hown, hts, hK, hlk, hrm, hN⟩ := hX
  obtain ⟨hli, hini, hcode, hmh, hpar⟩ := hl
  have hG := xc_good q hcode
  have hR' : (xc_rm dz).frames + 1 ≤ (xv_R X).frames ∧ 8 + (q.2.2.1 + 11) + (xc_rm dz).locals ≤ (xv_R X).locals := by
    rw [hrm]
    refine ⟨hR.1, ?_⟩
    have := hR.2
    show 8 + (q.2.2.1 + 11) + 40 * dz ≤ rm.locals
    omega
  have hcells : cells + 0 ≤ (xv_R X).cells ∧ slots + 0 ≤ (xv_R X).slots := by
    rw [hrm]
    exact hf
  have hp : PreS (xv_s X) H (va_Pc As (xw_P Y M)) As :=
    ⟨xw_blind Y As M, fun U hU hWm => ⟨rfl, ⟨by rw [hU]; exact hP, va_K.moved hWm.alike hK, hD⟩, xw_nest_warm hWm hN⟩⟩
  rcases hli with hli | ⟨host, hli⟩
  · exact va_runS (Ts := xw_W) ⟨hx, hcc, hml, hown, hts⟩ hM ⟨callB_of (Ts := xw_W) As.length hts hG rfl rfl rfl (hts _ hini) (hts _ hli) ⟨hmh.1, hmh.2, hpar⟩ hR', hts _ hv⟩ hp rfl rfl hs.1 hst (lv_room hW) d hcells
  · exact va_runSN (Ts := xw_W) ⟨hx, hcc, hml, hown, hts⟩ hM ⟨va_cnB (Ts := xw_W) As.length hts hG rfl rfl rfl (hN _ hli) (hts _ hini) ⟨hmh.1, hmh.2, hpar⟩ hR', hts _ hv, trivial⟩ hp rfl rfl hs.1 hst (lv_room hW) d hcells
/-- a call with an int answer -/
theorem xv_calli (hX : xv_ok X Y cc own nL rm) {q : xc_q} {dz : Nat} {av As rest st0 : List Value} {post : Int32 → xm_M → Prop} (hM : xc_i (xv_l X) q dz Y av M post) {idx b ci n : Nat} {T : u_T} (hl : xc_L own idx q As.length) (hv : xc_LV q) (hb : xw_K b = (0, ci, n)) (hbN : b < xw_N) (hc : xw_Cl[ci]? = some (q.1.cls, T, n)) (hav : av = .ref (Y.2.2.2 b) :: As) (hst : st0 = As.reverse ++ .ref (Y.2.2.2 b) :: rest)
    (hz : q.2.2.1 ≤ 21) (hR : dz + 1 ≤ rm.frames ∧ 40 * dz + 40 ≤ rm.locals) (hf : cells ≤ rm.cells ∧ slots ≤ rm.slots) (hW : (rest.map fun v => v.category).sum ≤ 8) (d : decode cc pc = .ok (.invokevirtual idx, 3)) (e : pc + 3 = pq)
    (h : ∀ (r : Int32) (M' : xm_M), post r M' → xv_V X Y nL cells slots xw_lk xw_N M' pq L (.int r :: rest)) : xv_V X Y nL cells slots xw_lk xw_N M pc L st0 := by
  subst e
  intro H locs ls hP hD hS hs
  refine va_calli (xv_runV hX hM hl hv hb hbN hc hav hst hz hR hf hW d hP hD hs) hS (fun q _ h => h) (fun q h => h) (fun r u t H1 locs1 ht hvm hp hB hz1 hk1 hS1 => ?_)
  obtain ⟨hP1, -, hD1⟩ := hB
  rw [ht] at hP1
  exact h r u hp H1 locs1 ls hP1 hD1 hS1 hs
/-- a call without an answer -/
theorem xv_callv (hX : xv_ok X Y cc own nL rm) {q : xc_q} {dz : Nat} {av As rest st0 : List Value} {post : xm_M → Prop} (hM : xc_v (xv_l X) q dz Y av M post) {idx b ci n : Nat} {T : u_T} (hl : xc_L own idx q As.length) (hv : xc_LV q) (hb : xw_K b = (0, ci, n)) (hbN : b < xw_N) (hc : xw_Cl[ci]? = some (q.1.cls, T, n)) (hav : av = .ref (Y.2.2.2 b) :: As) (hst : st0 = As.reverse ++ .ref (Y.2.2.2 b) :: rest)
    (hz : q.2.2.1 ≤ 21) (hR : dz + 1 ≤ rm.frames ∧ 40 * dz + 40 ≤ rm.locals) (hf : cells ≤ rm.cells ∧ slots ≤ rm.slots) (hW : (rest.map fun v => v.category).sum ≤ 8) (d : decode cc pc = .ok (.invokevirtual idx, 3)) (e : pc + 3 = pq)
    (h : ∀ (M' : xm_M), post M' → xv_V X Y nL cells slots xw_lk xw_N M' pq L rest) : xv_V X Y nL cells slots xw_lk xw_N M pc L st0 := by
  subst e
  intro H locs ls hP hD hS hs
  refine va_callv (xv_runV hX hM hl hv hb hbN hc hav hst hz hR hf hW d hP hD hs) hS (fun q _ h => h) (fun q h => h) (fun u t H1 locs1 ht hvm hp hB hz1 hk1 hS1 => ?_)
  obtain ⟨hP1, -, hD1⟩ := hB
  rw [ht] at hP1
  exact h u hp H1 locs1 ls hP1 hD1 hS1 hs
/-- a call that answers a place -/
theorem xv_callr (hX : xv_ok X Y cc own nL rm) {q : xc_q} {dz : Nat} {av As rest st0 : List Value} {post : xm_M × Nat → Prop} (hM : xc_r (xv_l X) q dz Y av M post) {idx b ci n : Nat} {T : u_T} (hl : xc_L own idx q As.length) (hv : xc_LV q) (hb : xw_K b = (0, ci, n)) (hbN : b < xw_N) (hc : xw_Cl[ci]? = some (q.1.cls, T, n)) (hav : av = .ref (Y.2.2.2 b) :: As) (hst : st0 = As.reverse ++ .ref (Y.2.2.2 b) :: rest)
    (hz : q.2.2.1 ≤ 21) (hR : dz + 1 ≤ rm.frames ∧ 40 * dz + 40 ≤ rm.locals) (hf : cells ≤ rm.cells ∧ slots ≤ rm.slots) (hW : (rest.map fun v => v.category).sum ≤ 8) (d : decode cc pc = .ok (.invokevirtual idx, 3)) (e : pc + 3 = pq)
    (h : ∀ (M' : xm_M) (z : Nat), post (M', z) → xv_V X Y nL cells slots xw_lk xw_N M' pq L (.ref (Y.2.2.2 z) :: rest)) : xv_V X Y nL cells slots xw_lk xw_N M pc L st0 := by
  subst e
  intro H locs ls hP hD hS hs
  refine va_callr (xv_runV hX hM hl hv hb hbN hc hav hst hz hR hf hW d hP hD hs) hS (fun q _ h => h) (fun q h => h) (fun u ra t H1 locs1 ht hvm hp hB hz1 hk1 hS1 => ?_)
  obtain ⟨ha, hP1, -, hD1⟩ := hB
  subst ha
  rw [ht] at hP1
  exact h u.1 u.2 hp H1 locs1 ls hP1 hD1 hS1 hs
/-- a static call with an int answer -/
theorem xv_callsi (hX : xv_ok X Y cc own nL rm) {q : xc_q} {dz : Nat} {As rest st0 : List Value} {post : Int32 → xm_M → Prop} (hM : xc_i (xv_l X) q dz Y As M post) {idx : Nat} (hl : xc_L own idx q As.length) (hv : xc_LS q) (hst : st0 = As.reverse ++ rest)
    (hz : q.2.2.1 ≤ 21) (hR : dz + 1 ≤ rm.frames ∧ 40 * dz + 40 ≤ rm.locals) (hf : cells ≤ rm.cells ∧ slots ≤ rm.slots) (hW : (rest.map fun v => v.category).sum ≤ 8) (d : decode cc pc = .ok (.invokestatic idx, 3)) (e : pc + 3 = pq)
    (h : ∀ (r : Int32) (M' : xm_M), post r M' → xv_V X Y nL cells slots xw_lk xw_N M' pq L (.int r :: rest)) : xv_V X Y nL cells slots xw_lk xw_N M pc L st0 := by
  subst e
  intro H locs ls hP hD hS hs
  refine va_calli (xv_runS hX hM hl hv hst hz hR hf hW d hP hD hs) hS (fun q _ h => h) (fun q h => h) (fun r u t H1 locs1 ht hvm hp hB hz1 hk1 hS1 => ?_)
  obtain ⟨hP1, -, hD1⟩ := hB
  rw [ht] at hP1
  exact h r u hp H1 locs1 ls hP1 hD1 hS1 hs
end XK
