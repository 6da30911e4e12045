/-! The memory view: the cells of the whole run are places 0, 1, ..; a place's ints (and longs) are numbers M place slot; references are a fixed table. One world for everything: no cutting out, no putting back. -/
theorem xm_eq {M : xm_M} {p k v : Nat} : xm_set M p k v p k = v := by simp [xm_set]
theorem xm_np {M : xm_M} {p k v q j : Nat} (h : q ≠ p) : xm_set M p k v q j = M q j := by simp [xm_set, h]
theorem xm_nk {M : xm_M} {p k v q j : Nat} (h : j ≠ k) : xm_set M p k v q j = M q j := by
  unfold xm_set
  split
  · simp [h]
  · rfl
theorem xm_row {M : xm_M} {p k v : Nat} : xm_set M p k v p = fun j => if j = k then v else M p j := by
  funext j
  simp [xm_set]
theorem xm_oth {M : xm_M} {p k v q : Nat} (h : q ≠ p) : xm_set M p k v q = M q := by
  funext j
  simp [xm_set, h]
theorem xl_row {l : xl_L} {p k : Nat} {v : Option Nat} : xl_set l p k v p = fun j => if j = k then v else l p j := by
  funext j
  simp [xl_set]
theorem xl_oth {l : xl_L} {p k q : Nat} {v : Option Nat} (h : q ≠ p) : xl_set l p k v q = l q := by
  funext j
  simp [xl_set, h]
def xw_slot (ad : Nat → Nat) (b : Bool) (r : Option Nat) (n : Nat) : Value := if b then va_rf (r.map ad) else .int (nI n)
def xw_fs (ad : Nat → Nat) (rk : Nat → Bool) (r : Nat → Option Nat) (f : Nat → Nat) (n : Nat) : List Value := (List.range n).map (fun k => xw_slot ad (rk k) (r k) (f k))
/-- D, the arrays' classes, what may change, the addresses -/
abbrev xw_Y : Type := va_G × (Nat → ClassId) × (Nat → Prop) × (Nat → Nat)
def xw_of (Y : xw_Y) (r : Nat → Option Nat) (f : Nat → Nat) : Nat × Nat × Nat → va_E
  | (0, ci, n) => .inr (ci, xw_fs Y.2.2.2 (xw_rk ci) r f n)
  | (1, t, n) => .inl (Y.2.1 t, n, .inl (fun j => nI (f j)))
  | (2, t, n) => .inl (Y.2.1 t, n, .inr (.inl (fun j => lN (f j))))
  | (_, t, n) => .inl (Y.2.1 t, n, .inr (.inr (.inr (.inr (fun j => (r j).map Y.2.2.2)))))
def xw_cell (Y : xw_Y) (lk : xl_L) (M : xm_M) (q : Nat) : va_E := xw_of Y (lk q) (M q) (xw_K q)
def xw_ws (Y : xw_Y) (lk : xl_L) (M : xm_M) (N : Nat) : va_W := (List.range N).map (fun q => (Y.2.2.2 q, xw_cell Y lk M q))
def xw_tys (Y : xw_Y) : List (ClassId × FieldType) := [(Y.2.1 0, .int), (Y.2.1 1, .long), (Y.2.1 2, .object xw_A2), (Y.2.1 3, .object xw_A3), (Y.2.1 4, .object xw_A4)]
theorem xw_at {Y : xw_Y} {lk : xl_L} {M : xm_M} {N q : Nat} (h : q < N) : (xw_ws Y lk M N)[q]? = some (Y.2.2.2 q, xw_cell Y lk M q) := by
  simp [xw_ws, h]
theorem xw_set {Y : xw_Y} {lk lk' : xl_L} {M M' : xm_M} {N q : Nat} {e : va_E} (h0 : xw_cell Y lk' M' q = e) (h : ∀ z, z ≠ q → lk' z = lk z ∧ M' z = M z) : (xw_ws Y lk M N).set q (Y.2.2.2 q, e) = xw_ws Y lk' M' N := by
  apply List.ext_getElem?
  intro i
  by_cases hi : i = q
  · subst hi
    by_cases hN : i < N
    · rw [xw_at hN, h0, List.getElem?_set_self (by simpa [xw_ws] using hN)]
    · rw [List.getElem?_eq_none (by simp [xw_ws]; omega), List.getElem?_eq_none (by simp [xw_ws]; omega)]
  · rw [List.getElem?_set_ne (fun e => hi e.symm)]
    obtain ⟨a, b⟩ := h i hi
    by_cases hN : i < N
    · rw [xw_at hN, xw_at hN]
      unfold xw_cell
      rw [a, b]
    · rw [List.getElem?_eq_none (by simp [xw_ws]; omega), List.getElem?_eq_none (by simp [xw_ws]; omega)]
theorem xw_fs_get {ad : Nat → Nat} {rk : Nat → Bool} {r : Nat → Option Nat} {f : Nat → Nat} {n k : Nat} (h : k < n) : (xw_fs ad rk r f n)[k]? = some (xw_slot ad (rk k) (r k) (f k)) := by
  simp [xw_fs, h]
theorem xw_fs_len {ad : Nat → Nat} {rk : Nat → Bool} {r : Nat → Option Nat} {f : Nat → Nat} {n : Nat} : (xw_fs ad rk r f n).length = n := by
  simp [xw_fs]
theorem xw_fs_set {ad : Nat → Nat} {rk : Nat → Bool} {r r' : Nat → Option Nat} {f f' : Nat → Nat} {n k : Nat} {v : Value} (hv : xw_slot ad (rk k) (r' k) (f' k) = v) (h : ∀ j, j ≠ k → r' j = r j ∧ f' j = f j) : (xw_fs ad rk r f n).set k v = xw_fs ad rk r' f' n := by
  apply List.ext_getElem?
  intro i
  by_cases hi : i = k
  · subst hi
    by_cases hN : i < n
    · rw [xw_fs_get hN, hv, List.getElem?_set_self (by rw [xw_fs_len]; exact hN)]
    · rw [List.getElem?_eq_none (by simp [xw_fs]; omega), List.getElem?_eq_none (by simp [xw_fs]; omega)]
  · rw [List.getElem?_set_ne (fun e => hi e.symm)]
    obtain ⟨a, b⟩ := h i hi
    by_cases hN : i < n
    · rw [xw_fs_get hN, xw_fs_get hN, a, b]
    · rw [List.getElem?_eq_none (by simp [xw_fs]; omega), List.getElem?_eq_none (by simp [xw_fs]; omega)]
/-- the heap holds the memory -/
def xw_B (Y : xw_Y) (lk : xl_L) (N : Nat) (M : xm_M) (t : State) : Prop := va_P Y.1 xw_Cl (xw_ws Y lk M N) t.heap ∧ va_K Y.1 xw_Cl (xw_tys Y) t ∧ va_D Y.2.2.1 (xw_ws Y lk M N)
/-- the words between nest mates -/
def xw_nest (U : State) : Prop := ∀ w ∈ xw_NW, va_Nw w U
theorem xw_nest_same {u U : State} (h : u.vm = U.vm) (hN : xw_nest u) : xw_nest U := fun w hw => va_Nw.same (xw_NWt w hw) h (hN w hw)
theorem xw_nest_warm {s U : State} (hW : s.WarmedH U.vm) (hN : xw_nest s) : xw_nest U := by
  intro w hw
  rcases xw_NWf w hw with ⟨a, i, b, n, d, h, rfl⟩ | ⟨a, i, x, h, rfl⟩
  · exact va_Nw.warmF hW (hN _ hw)
  · exact va_Nw.warmM hW (hN _ hw)
def xw_P (Y : xw_Y) (M : xm_M) (U : State) : Prop := xw_B Y xw_lk xw_N M U ∧ xw_nest U
/-- the fixed things of a walk: program, launch, environment, room, start, method, arguments, below, method, code, what is aimed at -/
abbrev xv_X : Type := Program × Launch × Env × Room × State × MethodId × Array Value × List Frame × Method × Code × (State → Prop)
abbrev xv_p (X : xv_X) : Program := X.1
abbrev xv_l (X : xv_X) : Launch := X.2.1
abbrev xv_e (X : xv_X) : Env := X.2.2.1
abbrev xv_R (X : xv_X) : Room := X.2.2.2.1
abbrev xv_s (X : xv_X) : State := X.2.2.2.2.1
abbrev xv_m (X : xv_X) : MethodId := X.2.2.2.2.2.1
abbrev xv_args (X : xv_X) : Array Value := X.2.2.2.2.2.2.1
abbrev xv_below (X : xv_X) : List Frame := X.2.2.2.2.2.2.2.1
abbrev xv_meth (X : xv_X) : Method := X.2.2.2.2.2.2.2.2.1
abbrev xv_c (X : xv_X) : Code := X.2.2.2.2.2.2.2.2.2.1
abbrev xv_Q (X : xv_X) : State → Prop := X.2.2.2.2.2.2.2.2.2.2
/-- the walk stands at pc with locals L, operands st and memory M, and comes to what is aimed at -/
def xv_V (X : xv_X) (Y : xw_Y) (nL cells slots : Nat) (lk : xl_L) (N : Nat) (M : xm_M) (pc : Nat) (L : List (Nat × Value)) (st : List Value) : Prop :=
  ∀ (H : Heap) (locs : List Loc) (ls : Array Slot), va_P Y.1 xw_Cl (xw_ws Y lk M N) H → va_D Y.2.2.1 (xw_ws Y lk M N) → va_S Y.2.2.1 (xv_s X).heap H locs → lv_has ls nL L →
    W (xv_p X) (xv_l X) (xv_e X) (xv_R X) (xv_s X) (xv_m X) (xv_args X) (xv_below X) (xv_meth X) (xv_c X) H locs cells slots (xv_Q X) (F0 (xv_m X) pc ls st)
def xv_ok (X : xv_X) (Y : xw_Y) (cc : ByteArray) (own : String) (nL : Nat) (rm : Room) : Prop :=
  (xv_p X).tables.exec = Jvm.exec ∧ (xv_c X).code = cc ∧ (xv_c X).maxLocals = nL ∧ (xv_s X).vm.findClass own = some (xv_m X).cls ∧ (∀ w ∈ xw_W, w.before (xv_args X) (xv_s X) = true) ∧ va_K Y.1 xw_Cl (xw_tys Y) (xv_s X) ∧ (xv_meth X).locks = false ∧ xv_R X = rm ∧ xw_nest (xv_s X)
