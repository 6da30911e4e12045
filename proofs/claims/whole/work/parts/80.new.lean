/-! objects are made: the world grows by a place -/
abbrev xn_Y (Y : xw_Y) (ad : Nat → Nat) : xw_Y := (Y.1, Y.2.1, Y.2.2.1, ad)
def xn_cl (lk : xl_L) (N : Nat) : Prop := ∀ q, q < N → ∀ k z, lk q k = some z → z < N
def xn_l (lk : xl_L) (N : Nat) : xl_L := fun q => if q = N then (fun _ => none) else lk q
def xn_m (M : xm_M) (N : Nat) : xm_M := fun q => if q = N then (fun _ => 0) else M q
def xn_a (ad : Nat → Nat) (N a : Nat) : Nat → Nat := fun q => if q = N then a else ad q
/-- the memory at the start: 0, but for reach and usage of a certificate -/
def xn_d : xm_M := fun q k => if xw_K q = (0, 6, 16) ∧ (k = 12 ∨ k = 13) then 4294967295 else 0
/-- the links, of objects and arrays of references alone -/
def xn_lk : xl_L := fun q => if (xw_K q).1 = 0 ∨ (xw_K q).1 = 3 then xw_lk q else fun _ => none
def xn_fl (lk : xl_L) (b : Nat) : xl_L := fun q => if b ≤ q then xn_lk q else lk q
def xn_fm (M : xm_M) (b : Nat) : xm_M := fun q => if b ≤ q then xn_d q else M q
theorem xn_l_eq {lk : xl_L} {N : Nat} : xn_l lk N N = fun _ => none := if_pos rfl
theorem xn_l_ne {lk : xl_L} {N z : Nat} (h : z ≠ N) : xn_l lk N z = lk z := if_neg h
theorem xn_m_eq {M : xm_M} {N : Nat} : xn_m M N N = fun _ => 0 := if_pos rfl
theorem xn_m_ne {M : xm_M} {N z : Nat} (h : z ≠ N) : xn_m M N z = M z := if_neg h
theorem xn_a_eq {ad : Nat → Nat} {N a : Nat} : xn_a ad N a N = a := if_pos rfl
theorem xn_a_lt {ad : Nat → Nat} {N a z : Nat} (h : z < N) : xn_a ad N a z = ad z := if_neg (Nat.ne_of_lt h)
theorem xn_fl_lt {lk : xl_L} {b z : Nat} (h : z < b) : xn_fl lk b z = lk z := if_neg (Nat.not_le.mpr h)
theorem xn_fl_ge {lk : xl_L} {b z : Nat} (h : b ≤ z) : xn_fl lk b z = xn_lk z := if_pos h
theorem xn_fm_lt {M : xm_M} {b z : Nat} (h : z < b) : xn_fm M b z = M z := if_neg (Nat.not_le.mpr h)
theorem xn_fm_ge {M : xm_M} {b z : Nat} (h : b ≤ z) : xn_fm M b z = xn_d z := if_pos h
theorem xn_d0 {q : Nat} (h : xw_K q ≠ (0, 6, 16)) : xn_d q = fun _ => 0 := by
  funext k
  exact if_neg (fun z => h z.1)
theorem xn_cg {Y : xw_Y} {lk lk' : xl_L} {M M' : xm_M} {N : Nat} (h : ∀ q, q < N → lk' q = lk q ∧ M' q = M q) : xw_ws Y lk' M' N = xw_ws Y lk M N := by
  unfold xw_ws
  apply List.map_congr_left
  intro q hq
  obtain ⟨a, b⟩ := h q (List.mem_range.mp hq)
  unfold xw_cell
  rw [a, b]
theorem xn_of {Y : xw_Y} {ad ad1 : Nat → Nat} {r : Nat → Option Nat} (hm : ∀ k, (r k).map ad1 = (r k).map ad) (f : Nat → Nat) (K : Nat × Nat × Nat) : xw_of (xn_Y Y ad1) r f K = xw_of (xn_Y Y ad) r f K := by
  have e2 : (fun j => (r j).map ad1) = fun j => (r j).map ad := funext hm
  obtain ⟨t, c, n⟩ := K
  rcases t with _ | _ | _ | t
  · show (Sum.inr (c, xw_fs ad1 (xw_rk c) r f n) : va_E) = Sum.inr (c, xw_fs ad (xw_rk c) r f n)
    have e : xw_fs ad1 (xw_rk c) r f n = xw_fs ad (xw_rk c) r f n := by
      unfold xw_fs
      apply List.map_congr_left
      intro k _
      unfold xw_slot
      rw [hm]
    rw [e]
  · rfl
  · rfl
  · show (Sum.inl (Y.2.1 c, n, .inr (.inr (.inr (.inr (fun j => (r j).map ad1))))) : va_E) = Sum.inl (Y.2.1 c, n, .inr (.inr (.inr (.inr (fun j => (r j).map ad)))))
    rw [e2]
theorem xn_ad {Y : xw_Y} {ad ad1 : Nat → Nat} {lk : xl_L} {M : xm_M} {N : Nat} (hc : xn_cl lk N) (h : ∀ q, q < N → ad1 q = ad q) : xw_ws (xn_Y Y ad1) lk M N = xw_ws (xn_Y Y ad) lk M N := by
  unfold xw_ws
  apply List.map_congr_left
  intro q hq
  have hq := List.mem_range.mp hq
  have hm : ∀ k, (lk q k).map ad1 = (lk q k).map ad := by
    intro k
    cases hz : lk q k with
    | none => rfl
    | some z => simp only [Option.map_some, h z (hc q hq k z hz)]
  show (ad1 q, xw_of (xn_Y Y ad1) (lk q) (M q) (xw_K q)) = (ad q, xw_of (xn_Y Y ad) (lk q) (M q) (xw_K q))
  rw [h q hq, xn_of hm]
theorem xn_s1 {Y : xw_Y} {lk : xl_L} {M : xm_M} {N : Nat} : xw_ws Y lk M (N + 1) = xw_ws Y lk M N ++ [(Y.2.2.2 N, xw_cell Y lk M N)] := by
  unfold xw_ws
  rw [List.range_succ, List.map_append]
  rfl
theorem xn_grow {Y : xw_Y} {ad : Nat → Nat} {lk : xl_L} {M : xm_M} {N a : Nat} {e : va_E} (hc : xn_cl lk N) (he : xw_of (xn_Y Y (xn_a ad N a)) (fun _ => none) (fun _ => 0) (xw_K N) = e) : xw_ws (xn_Y Y ad) lk M N ++ [(a, e)] = xw_ws (xn_Y Y (xn_a ad N a)) (xn_l lk N) (xn_m M N) (N + 1) := by
  rw [xn_s1]
  have h1 : xw_ws (xn_Y Y (xn_a ad N a)) (xn_l lk N) (xn_m M N) N = xw_ws (xn_Y Y ad) lk M N := by
    rw [xn_cg (lk := lk) (M := M) (fun q hq => ⟨xn_l_ne (by omega), xn_m_ne (by omega)⟩)]
    exact xn_ad hc (fun q hq => xn_a_lt hq)
  have h2 : (xn_Y Y (xn_a ad N a)).2.2.2 N = a := xn_a_eq
  have h3 : xw_cell (xn_Y Y (xn_a ad N a)) (xn_l lk N) (xn_m M N) N = e := by
    unfold xw_cell
    rw [xn_l_eq, xn_m_eq]
    exact he
  rw [h1, h2, h3]
theorem xn_nlt {n : Nat} (h : n < 2 ^ 31) : ¬ nI n < 0 := by
  intro z
  have z := Int32.lt_iff_toInt_lt.mp z
  have e : (nI n).toInt = (n : Int) := nI_toInt h
  rw [e] at z
  have : (0 : Int32).toInt = 0 := rfl
  omega
def xn_ov (U : State) : Prop := va_AO xw_A2 U ∧ va_AO xw_A3 U ∧ va_AO xw_A4 U
section XN
variable {X : xv_X} {Y : xw_Y} {ad : Nat → Nat} {cc : ByteArray} {own : String} {nL cells slots : Nat} {rm : Room} {lk : xl_L} {N : Nat} {M : xm_M} {pc pq : Nat} {L : List (Nat × Value)} {st : List Value}
theorem xn_wd {k n : Nat} (h1 : cells ≤ k) (h2 : slots ≤ n) (h : xv_V X Y nL k n lk N M pc L st) : xv_V X Y nL cells slots lk N M pc L st := fun H locs ls hP hD hS hl => W.widen h1 h2 (h H locs ls hP hD hS hl)
theorem xn_sw {lk' : xl_L} {M' : xm_M} (hw : ∀ z, z < N → lk' z = lk z ∧ M' z = M z) (h : xv_V X Y nL cells slots lk' N M' pc L st) : xv_V X Y nL cells slots lk N M pc L st := by
  intro H locs ls hP hD hS hl
  rw [← xn_cg hw] at hP hD
  exact h H locs ls hP hD hS hl
theorem xn_new (hX : xv_ok X (xn_Y Y ad) cc own nL rm) (hA : ∀ q, (xv_s X).heap.size ≤ q → Y.2.2.1 q) {ci n idx : Nat} {C : String} {T : u_T} {tf : Nat → FieldType} (hk : xw_K N = (0, ci, n)) (hc : xw_Cl[ci]? = some (C, T, n)) (hw : ∀ w ∈ u_ws C T n, w ∈ xw_W) (hty : ∀ k, k < n → parseFieldDescriptor (T k).2.2.1 = some (tf k)) (hdv : ∀ j, j < n → defaultValue (tf j) = xw_slot (fun _ => 0) (xw_rk ci j) none 0)
    (hl : Cond.classLink own idx C ∈ xw_W) (hi : Cond.instantiable C n ∈ xw_W) (hini : Cond.initialized C ∈ xw_W) (hcl : xn_cl lk N) (hf : cells + 1 ≤ rm.cells ∧ slots + n ≤ rm.slots) (d : decode cc pc = .ok (.new idx, 3)) (e : pc + 3 = pq)
    (h : ∀ ad1 : Nat → Nat, (∀ q, q < N → ad1 q = ad q) → xv_V X (xn_Y Y ad1) nL (cells + 1) (slots + n) (xn_l lk N) (N + 1) (xn_m M N) pq L (.ref (ad1 N) :: st)) : xv_V X (xn_Y Y ad) nL cells slots lk N M pc L st := by
  subst e
  obtain ⟨hx, hcc, hml, hown, hts, hK, hlk, hrm, hN⟩ := hX
  intro H locs ls hP hD hS hls
  refine va_new (Ts := xw_W) (fs := xw_fs (fun _ => 0) (xw_rk ci) (fun _ => none) (fun _ => 0) n) hx hcc hts hw tf hty hown (hts _ hl) (hts _ hi) (hts _ hini) hK hP hD hS hA hc (fun j hj => ?_) (by rw [hrm]; exact hf.1) (by rw [hrm]; exact hf.2) d (fun q H1 hP1 hD1 hS1 => ?_)
  · rw [hdv j hj]
    unfold vp_V
    rw [List.getD_eq_getElem?_getD, xw_fs_get hj]
    rfl
  · have eg : xw_ws (xn_Y Y ad) lk M N ++ [(q, (Sum.inr (ci, xw_fs (fun _ => 0) (xw_rk ci) (fun _ => none) (fun _ => 0) n) : va_E))] = xw_ws (xn_Y Y (xn_a ad N q)) (xn_l lk N) (xn_m M N) (N + 1) := by
      refine xn_grow hcl ?_
      rw [hk]
      exact xn_of (Y := Y) (ad := fun _ => 0) (ad1 := xn_a ad N q) (r := fun _ => none) (fun k => rfl) (fun _ => 0) (0, ci, n)
    rw [eg] at hP1 hD1
    have := h (xn_a ad N q) (fun z hz => xn_a_lt hz) H1 locs ls hP1 hD1 hS1 hls
    rw [xn_a_eq] at this
    exact this
theorem xn_newi (hX : xv_ok X (xn_Y Y ad) cc own nL rm) (hA : ∀ q, (xv_s X).heap.size ≤ q → Y.2.2.1 q) {n : Nat} (hk : xw_K N = (1, 0, n)) (hn : n < 100000) (hw : Cond.arrayClass .int ∈ xw_W) (hcl : xn_cl lk N) (hf : cells + 1 ≤ rm.cells ∧ slots + n ≤ rm.slots) (d : decode cc pc = .ok (.newarray .int, 2)) (e : pc + 2 = pq)
    (h : ∀ ad1 : Nat → Nat, (∀ q, q < N → ad1 q = ad q) → xv_V X (xn_Y Y ad1) nL (cells + 1) (slots + n) (xn_l lk N) (N + 1) (xn_m M N) pq L (.ref (ad1 N) :: st)) : xv_V X (xn_Y Y ad) nL cells slots lk N M pc L (.int (nI n) :: st) := by
  subst e
  obtain ⟨hx, hcc, hml, hown, hts, hK, hlk, hrm, hN⟩ := hX
  intro H locs ls hP hD hS hls
  refine va_newa (atype := .int) (a0 := (n, .inl (fun _ => nI 0))) (ty := .int) hx hcc (hts _ hw) rfl hK hP hD hS hA (fun cA => rfl) (xn_nlt (by omega)) (nI_clamp (by omega)) (by show n * 4 ≤ 536870912; omega) (by rw [hrm]; exact hf.1) (by rw [hrm]; exact hf.2) d (fun q cA H1 hK1 hP1 hD1 hS1 => ?_)
  have hcA : cA = Y.2.1 0 := Option.some.inj ((hK1.2 5 _ rfl).2.symm.trans (hK.2 0 _ rfl).2)
  subst hcA
  rw [xn_grow hcl (by rw [hk]; rfl)] at hP1 hD1
  have := h (xn_a ad N q) (fun z hz => xn_a_lt hz) H1 locs ls hP1 hD1 hS1 hls
  rw [xn_a_eq] at this
  exact this
theorem xn_newl (hX : xv_ok X (xn_Y Y ad) cc own nL rm) (hA : ∀ q, (xv_s X).heap.size ≤ q → Y.2.2.1 q) {n : Nat} (hk : xw_K N = (2, 1, n)) (hn : n < 100000) (hw : Cond.arrayClass .long ∈ xw_W) (hcl : xn_cl lk N) (hf : cells + 1 ≤ rm.cells ∧ slots + n ≤ rm.slots) (d : decode cc pc = .ok (.newarray .long, 2)) (e : pc + 2 = pq)
    (h : ∀ ad1 : Nat → Nat, (∀ q, q < N → ad1 q = ad q) → xv_V X (xn_Y Y ad1) nL (cells + 1) (slots + n) (xn_l lk N) (N + 1) (xn_m M N) pq L (.ref (ad1 N) :: st)) : xv_V X (xn_Y Y ad) nL cells slots lk N M pc L (.int (nI n) :: st) := by
  subst e
  obtain ⟨hx, hcc, hml, hown, hts, hK, hlk, hrm, hN⟩ := hX
  intro H locs ls hP hD hS hls
  refine va_newa (atype := .long) (a0 := (n, .inr (.inl (fun _ => lN 0)))) (ty := .long) hx hcc (hts _ hw) rfl hK hP hD hS hA (fun cA => rfl) (xn_nlt (by omega)) (nI_clamp (by omega)) (by show n * 8 ≤ 536870912; omega) (by rw [hrm]; exact hf.1) (by rw [hrm]; exact hf.2) d (fun q cA H1 hK1 hP1 hD1 hS1 => ?_)
  have hcA : cA = Y.2.1 1 := Option.some.inj ((hK1.2 5 _ rfl).2.symm.trans (hK.2 1 _ rfl).2)
  subst hcA
  rw [xn_grow hcl (by rw [hk]; rfl)] at hP1 hD1
  have := h (xn_a ad N q) (fun z hz => xn_a_lt hz) H1 locs ls hP1 hD1 hS1 hls
  rw [xn_a_eq] at this
  exact this
theorem xn_newq (hX : xv_ok X (xn_Y Y ad) cc own nL rm) (hA : ∀ q, (xv_s X).heap.size ≤ q → Y.2.2.1 q) {t n idx : Nat} {C : String} (hk : xw_K N = (3, t, n)) (ht : (xw_tys Y)[t]? = some (Y.2.1 t, .object C)) (hn : n < 100000) (hl : Cond.classLink own idx C ∈ xw_W) (hO : va_AO C (xv_s X)) (hcl : xn_cl lk N) (hf : cells + 1 ≤ rm.cells ∧ slots + n ≤ rm.slots) (d : decode cc pc = .ok (.anewarray idx, 3)) (e : pc + 3 = pq)
    (h : ∀ ad1 : Nat → Nat, (∀ q, q < N → ad1 q = ad q) → xv_V X (xn_Y Y ad1) nL (cells + 1) (slots + n) (xn_l lk N) (N + 1) (xn_m M N) pq L (.ref (ad1 N) :: st)) : xv_V X (xn_Y Y ad) nL cells slots lk N M pc L (.int (nI n) :: st) := by
  subst e
  obtain ⟨hx, hcc, hml, hown, hts, hK, hlk, hrm, hN⟩ := hX
  intro H locs ls hP hD hS hls
  refine va_newq hx hcc hown (hts _ hl) hO hK hP hD hS hA (xn_nlt (by omega)) (nI_clamp (by omega)) (by omega) (by rw [hrm]; exact hf.1) (by rw [hrm]; exact hf.2) d (fun q cA H1 hK1 hP1 hD1 hS1 => ?_)
  have hcA : cA = Y.2.1 t := by
    obtain ⟨_, _, -, -, -, h1⟩ := (hK1.2 5 _ rfl).2
    obtain ⟨_, _, -, -, -, h2⟩ := (hK.2 t _ ht).2
    exact Option.some.inj (h1.symm.trans h2)
  subst hcA
  rw [xn_grow hcl (by rw [hk]; rfl)] at hP1 hD1
  have := h (xn_a ad N q) (fun z hz => xn_a_lt hz) H1 locs ls hP1 hD1 hS1 hls
  rw [xn_a_eq] at this
  exact this
theorem xn_putr (hX : xv_ok X Y cc own nL rm) (hin : (xv_meth X).name = "<init>") {q ci n k idx v : Nat} {ty : FieldType} {T : u_T} {tf : Nat → FieldType} (hc : xw_Cl[ci]? = some (own, T, n)) (hkn : k < n) (hw : ∀ w ∈ u_ws own T n, w ∈ xw_W) (hty : ∀ k, k < n → parseFieldDescriptor (T k).2.2.1 = some (tf k)) (hnm : ∀ a, a < n → ∀ b, b < n → a ≠ b → (T a).2.1 ≠ (T b).2.1) (hl : Cond.fieldLink own idx (T k).1 (T k).2.1 (T k).2.2.1 ∈ xw_W) (hfin : (T k).2.2.2 = true) (hdecl : (T k).1 = own) (hd : parseFieldDescriptor (T k).2.2.1 = some ty) (hr : xw_rk ci k = true) (hk : xw_K q = (0, ci, n)) (hq : q < N) (hn : ∀ a, narrow ty (.ref a) = .ref a) (hfit : ∀ a, fits ty (.ref a) = true) (d : decode cc pc = .ok (.putfield idx, 3)) (e : pc + 3 = pq)
    (h : xv_V X Y nL cells slots (xl_set lk q k (some v)) N M pq L st) : xv_V X Y nL cells slots lk N M pc L (.ref (Y.2.2.2 v) :: .ref (Y.2.2.2 q) :: st) := by
  subst e
  obtain ⟨hx, hcc, hml, hown, hts, hK, hlk, hrm, hN⟩ := hX
  intro H locs ls hP hD hS hls
  have he : (xw_ws Y lk M N)[q]? = some (Y.2.2.2 q, .inr (ci, xw_fs Y.2.2.2 (xw_rk ci) (lk q) (M q) n)) := by
    rw [xw_at hq]; unfold xw_cell; rw [hk]; rfl
  have h0 : (xw_fs Y.2.2.2 (xw_rk ci) (lk q) (M q) n).set k (.ref (Y.2.2.2 v)) = xw_fs Y.2.2.2 (xw_rk ci) (xl_set lk q k (some v) q) (M q) n := by
    refine xw_fs_set ?_ (fun j hj => ⟨?_, rfl⟩)
    · rw [hr, xl_row]
      show xw_slot Y.2.2.2 true (if k = k then some v else lk q k) (M q k) = _
      rw [if_pos rfl]
      rfl
    · rw [xl_row]
      exact if_neg hj
  have hset : (xw_ws Y lk M N).set q (Y.2.2.2 q, .inr (ci, (xw_fs Y.2.2.2 (xw_rk ci) (lk q) (M q) n).set k (.ref (Y.2.2.2 v)))) = xw_ws Y (xl_set lk q k (some v)) M N :=
    xw_set (by unfold xw_cell; rw [hk, h0]; rfl) (fun z hz => ⟨xl_oth hz, rfl⟩)
  refine va_putF hx hcc hts hw tf hty hnm hown hK hP hD hS q he hc k hkn (hts _ hl) (fun _ h9 => h9) hfin hin hdecl hd (hn _) (hfit _) (by rw [xw_fs_len]; exact hkn) d (fun H1 locs1 hP1 hD1 hS1 => ?_)
  rw [hset] at hP1 hD1
  exact h H1 locs1 ls hP1 hD1 hS1 hls
theorem xn_aast (hX : xv_ok X Y cc own nL rm) {q t n i v ci m : Nat} {C : String} {T : u_T} (hk : xw_K q = (3, t, n)) (ht : (xw_tys Y)[t]? = some (Y.2.1 t, .object C)) (hq : q < N) (hi : i < n) (hn : n < 2 ^ 31) (hkv : xw_K v = (0, ci, m)) (hv : v < N) (hc : xw_Cl[ci]? = some (C, T, m)) (d : decode cc pc = .ok (.aastore, 1)) (e : pc + 1 = pq)
    (h : xv_V X Y nL cells slots (xl_set lk q i (some v)) N M pq L st) : xv_V X Y nL cells slots lk N M pc L (.ref (Y.2.2.2 v) :: .int (nI i) :: .ref (Y.2.2.2 q) :: st) := by
  subst e
  intro H locs ls hP hD hS hls
  refine va_astq hX.1 hX.2.1 hX.2.2.2.2.2.1 hP hD hS q t v ci (cA := Y.2.1 t) (n := n) (r := (C, T, m)) (f := fun j => (lk q j).map Y.2.2.2) (vs := xw_fs Y.2.2.2 (xw_rk ci) (lk v) (M v) m) (by rw [xw_at hq]; unfold xw_cell; rw [hk]; rfl) ht (by rw [xw_at hv]; unfold xw_cell; rw [hkv]; rfl) hc (vp_in_nI hi hn) d (fun H1 locs1 hP1 hD1 hS1 => ?_)
  have hset : (xw_ws Y lk M N).set q (Y.2.2.2 q, .inl (Y.2.1 t, n, .inr (.inr (.inr (.inr (va_up (fun j => (lk q j).map Y.2.2.2) (nI i).toNatClampNeg (some (Y.2.2.2 v)))))))) = xw_ws Y (xl_set lk q i (some v)) M N := by
    refine xw_set ?_ (fun z hz => ⟨xl_oth hz, rfl⟩)
    unfold xw_cell
    rw [hk, nI_clamp (by omega), xl_row]
    show (Sum.inl (Y.2.1 t, n, .inr (.inr (.inr (.inr (fun j => (if j = i then some v else lk q j).map Y.2.2.2))))) : va_E) = _
    congr 7
    funext j
    by_cases hj : j = i
    · subst hj
      simp [va_up]
    · simp [va_up, hj]
  rw [hset] at hP1 hD1
  exact h H1 locs1 ls hP1 hD1 hS1 hls
theorem xn_obj (hX : xv_ok X Y cc own nL rm) {idx a : Nat} (hl : Cond.methodLink own idx Lib.objectInit ∈ xw_W) (hf : 1 ≤ rm.frames ∧ 20 ≤ rm.locals) (hW : (st.map fun v => v.category).sum ≤ 8) (d : decode cc pc = .ok (.invokespecial idx, 3)) (e : pc + 3 = pq) (hi : Cond.instanceMethod Lib.objectInit ∈ xw_W) (hco : Cond.code Lib.objectInit ⟨#[0xb1]⟩ 1 none ∈ xw_W)
    (h : xv_V X Y nL cells slots lk N M pq L st) : xv_V X Y nL cells slots lk N M pc L (.ref a :: st) := by
  subst e
  obtain ⟨hx, hcc, hml, hown, hts, hK, hlk, hrm, hN⟩ := hX
  intro H locs ls hP hD hS hls
  refine W.objInit hx hcc hown (hts _ hl) (hts _ hi) (hts _ hco) rfl (by rw [hml]; exact hls.1) rfl d (by rw [hrm]; exact hf.1) (by rw [hrm]; show 2 * 0 + _ + 12 ≤ _; omega) ?_
  exact h H locs ls hP hD hS hls
end XN
/-! contracts of makers -/
abbrev xn_rm (d mc ms : Nat) : Room := { frames := d, cells := mc, slots := ms, locals := 40 * d }
def xn_P (Y : xw_Y) (ad : Nat → Nat) (lk : xl_L) (N : Nat) (M : xm_M) (U : State) : Prop := (∀ a, U.heap.size ≤ a → Y.2.2.1 a) ∧ xw_B (xn_Y Y ad) lk N M U ∧ xw_nest U ∧ xn_ov U
abbrev xn_Q (Y : xw_Y) (ad : Nat → Nat) (lk : xl_L) (b N : Nat) (M : xm_M) : Array Value → State → Outcome → State → Prop := va_Qv (fun ad1 : Nat → Nat => ∀ z, z ≤ b → ad1 z = ad z) (fun ad1 t => xw_B (xn_Y Y ad1) lk N M t) Y.2.2.1
/-- a constructor at place b: places b to N are made and linked -/
def xn_c (l : Launch) (q : xc_q) (d mc ms : Nat) (Y : xw_Y) (ad : Nat → Nat) (lk lk' : xl_L) (b N : Nat) (M M' : xm_M) : Prop := Met l q.1 (xc_ws q) (xn_rm d mc ms) (va_Pc [.ref (ad b)] (xn_P Y ad lk (b + 1) M)) (xn_Q Y ad lk' b N M') mc ms Y.2.2.1
def xn_R (X : xv_X) (Y : xw_Y) (ad : Nat → Nat) (lk : xl_L) (b N : Nat) (M : xm_M) (mc ms : Nat) : Prop := xv_Q X = MQ (xv_below X) (xn_Q Y ad lk b N M) (xv_args X) (xv_s X) mc ms Y.2.2.1 ∧ (xv_meth X).sig.returnType = none
theorem xn_c.mk {l : Launch} {q : xc_q} {d mc ms : Nat} {Y : xw_Y} {ad : Nat → Nat} {lk lk' : xl_L} {b N : Nat} {M M' : xm_M} (hty : q.2.2.2 = none) (hq : plainName q.1.cls = true) (hq1 : q.1.name = "<init>") (hL : 1 ≤ q.2.2.1)
    (body : ∀ X : xv_X, xv_l X = l → xv_ok X (xn_Y Y ad) q.2.1 q.1.cls q.2.2.1 (xn_rm d mc ms) → (xv_meth X).name = "<init>" → (∀ a, (xv_s X).heap.size ≤ a → Y.2.2.1 a) → xn_ov (xv_s X) → xn_R X Y ad lk' b N M' mc ms → xv_V X (xn_Y Y ad) q.2.2.1 0 0 lk (b + 1) M 0 [(0, .ref (ad b))] []) : xn_c l q d mc ms Y ad lk lk' b N M M' := by
  refine Met.ofW (cc := q.2.1) (maxL := q.2.2.1) (ret := q.2.2.2) hq rfl ?_
  intro p e s m args below meth c s₁ B hml hv
  obtain ⟨rfl, hA, ⟨hP, hK, hD⟩, hN, hO⟩ := hv
  have hts := atoms_spec (ws := xc_ws q) B.pre
  have hr := B.returns
  rw [hty] at hr
  have hl := lv_entry [Value.ref (ad b)] (n := q.2.2.1) hL
  have hin : meth.name = "<init>" := (name_of_methodNamed B.named B.method).1.trans hq1
  rw [lg_entry_eq]
  exact body (p, l, e, (headSpec (xc_ws q) (xn_rm d mc ms)).room, s, m, _, below, meth, c, _) rfl ⟨B.exec, B.bytes, hml, findClass_of_methodNamed B.named, fun w hw => hts w (List.mem_cons_of_mem _ hw), hK, B.notSynchronized, rfl, hN⟩ hin hA hO ⟨rfl, hr⟩ s.heap [] _ hP hD va_S.rf hl
theorem xn_ret {X : xv_X} {Y : xw_Y} {ad ad1 : Nat → Nat} {cc : ByteArray} {own : String} {nL cells slots : Nat} {rm : Room} {lk lk' : xl_L} {b N mc ms : Nat} {M M' : xm_M} {pc : Nat} {L : List (Nat × Value)} (hX : xv_ok X (xn_Y Y ad1) cc own nL rm) (hR : xn_R X Y ad lk' b N M' mc ms) (d : decode cc pc = .ok (.return_, 1)) (hq : ∀ z, z ≤ b → ad1 z = ad z) (hc : cells ≤ mc) (hs : slots ≤ ms) (hw : ∀ z, z < N → lk' z = lk z ∧ M' z = M z) : xv_V X (xn_Y Y ad1) nL cells slots lk N M pc L [] := by
  intro H locs ls hP hD hS hl
  rw [hR.1]
  refine W.widen hc hs ?_
  rw [← xn_cg hw] at hP hD
  exact W.vret hX.1 hX.2.1 hR.2 (fun t ht hW => ⟨⟨ad1, rfl, hq, by rw [ht]; exact hP, va_K.moved hW.alike hX.2.2.2.2.2.1, hD⟩, hS.F ht⟩) hS.2.2 d hX.2.2.2.2.2.2.1
theorem xn_blind (Y : xw_Y) (ad : Nat → Nat) (av : List Value) (lk : xl_L) (N : Nat) (M : xm_M) : FrameBlind (va_Pc av (xn_P Y ad lk N M)) := by
  intro a U g mk h
  obtain ⟨q0, hA, ⟨qP, qK, qD⟩, qN, o2, o3, o4⟩ := h
  exact ⟨q0, hA, ⟨qP, va_K.moved (u := U) (U := U.calling g mk a) (Vm.Alike.refl U.vm) qK, qD⟩, xw_nest_same (u := U) (U := U.calling g mk a) rfl qN, va_AO.moved (u := U) (U := U.calling g mk a) (Vm.Alike.refl U.vm) o2, va_AO.moved (u := U) (U := U.calling g mk a) (Vm.Alike.refl U.vm) o3, va_AO.moved (u := U) (U := U.calling g mk a) (Vm.Alike.refl U.vm) o4⟩
theorem xn_call {X : xv_X} {Y : xw_Y} {ad : Nat → Nat} {cc : ByteArray} {own : String} {nL cells slots : Nat} {rm : Room} {lk lk' : xl_L} {b N mc ms dz : Nat} {M M' : xm_M} {pc pq idx : Nat} {L : List (Nat × Value)} {q : xc_q} {rest : List Value} (hX : xv_ok X (xn_Y Y ad) cc own nL rm) (hA : ∀ a, (xv_s X).heap.size ≤ a → Y.2.2.1 a) (hO : xn_ov (xv_s X)) (hM : xn_c (xv_l X) q dz mc ms Y ad lk lk' b N M M') (hl : xc_L own idx q 0) (hty : q.2.2.2 = none) (hq1 : q.1.name = "<init>") (hin : Cond.instanceMethod q.1 ∈ xw_W) (hz : q.2.2.1 ≤ 21) (hR : dz + 1 ≤ rm.frames ∧ 40 * dz + 40 ≤ rm.locals) (hf : cells + mc ≤ rm.cells ∧ slots + ms ≤ rm.slots) (hW : (rest.map fun v => v.category).sum ≤ 8) (d : decode cc pc = .ok (.invokespecial idx, 3)) (e : pc + 3 = pq)
    (h : ∀ ad1 : Nat → Nat, (∀ z, z ≤ b → ad1 z = ad z) → xv_V X (xn_Y Y ad1) nL (cells + mc) (slots + ms) lk' N M' pq L rest) : xv_V X (xn_Y Y ad) nL cells slots lk (b + 1) M pc L (.ref (ad b) :: rest) := by
  subst e
  obtain ⟨hx, hcc, hml, hown, hts, hK, hlk, hrm, hN⟩ := hX
  obtain ⟨hli, hini, hcode, hmh, hpar⟩ := hl
  obtain ⟨⟨y, bytes, maxL, ret⟩, hq⟩ : ∃ q0 : xc_q, q0 = q := ⟨q, rfl⟩
  subst hq
  have hty : ret = none := hty
  subst hty
  have hG := xc_good (y, bytes, maxL, none) hcode
  have hR' : (xn_rm dz mc ms).frames + 1 ≤ (xv_R X).frames ∧ 8 + (maxL + 11) + (xn_rm dz mc ms).locals ≤ (xv_R X).locals := by
    rw [hrm]
    refine ⟨hR.1, ?_⟩
    have := hR.2
    have hz : maxL ≤ 21 := hz
    show 8 + (maxL + 11) + 40 * dz ≤ rm.locals
    omega
  have hcells : cells + mc ≤ (xv_R X).cells ∧ slots + ms ≤ (xv_R X).slots := by
    rw [hrm]
    exact hf
  intro H locs ls hP hD hS hs
  have hp : PreS (xv_s X) H (va_Pc [.ref (ad b)] (xn_P Y ad lk (b + 1) M)) (.ref (ad b) :: []) :=
    ⟨xn_blind Y ad _ lk _ M, fun U hU hWm => ⟨rfl, by rw [hU]; exact fun a ha => hA a (Nat.le_trans hS.1 ha), ⟨by rw [hU]; exact hP, va_K.moved hWm.alike hK, hD⟩, xw_nest_warm hWm hN, hO.1.moved hWm.alike, hO.2.1.moved hWm.alike, hO.2.2.moved hWm.alike⟩⟩
  have hrun : va_Run (xv_p X) (xv_l X) (xv_e X) (xv_R X) (xv_s X) (xv_m X) (xv_args X) (xv_below X) (xv_meth X) (xv_c X) H locs cells slots mc ms (F0 (xv_m X) pc ls (.ref (ad b) :: rest)) rest (xn_Q Y ad lk' b N M' (Value.ref (ad b) :: []).toArray) Y.2.2.1 := by
    rcases hli with hli | ⟨host, hli⟩
    · exact va_runI (Ts := xw_W) ⟨hx, hcc, hml, hown, hts⟩ hM ⟨callB_of (Ts := xw_W) 0 hts hG rfl rfl rfl (hts _ hini) (hts _ hli) ⟨hmh.1, hmh.2, hpar⟩ hR', hq1, hts _ hin⟩ hp rfl rfl hs.1 rfl (lv_room hW) d hcells
    · exact va_runIN (Ts := xw_W) ⟨hx, hcc, hml, hown, hts⟩ hM ⟨va_cnB (Ts := xw_W) 0 hts hG rfl rfl rfl (hN _ hli) (hts _ hini) ⟨hmh.1, hmh.2, hpar⟩ hR', hq1, hts _ hin⟩ hp rfl rfl hs.1 rfl (lv_room hW) d hcells
  refine va_callv hrun hS (fun q _ h => h) (fun q h => h) (fun u t H1 locs1 ht hvm hp hB hz1 hk1 hS1 => ?_)
  obtain ⟨hP1, -, hD1⟩ := hB
  rw [ht] at hP1
  exact h u hp H1 locs1 ls hP1 hD1 hS1 hs
