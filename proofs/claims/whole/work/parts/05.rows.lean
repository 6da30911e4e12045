section XV
variable {X : xv_X} {Y : xw_Y} {cc : ByteArray} {own : String} {nL cells slots : Nat} {rm : Room} {lk : xl_L} {N : Nat} {M : xm_M} {pc pq : Nat} {L : List (Nat × Value)} {st : List Value}

theorem xv_iadd (hX : xv_ok X Y cc own nL rm) {a b v : Int32} (d : decode cc pc = .ok (.iadd, 1)) (hv : a + b = v) (e : pc + 1 = pq) (h : xv_V X Y nL cells slots lk N M pq L (.int v :: st)) : xv_V X Y nL cells slots lk N M pc L (.int b :: .int a :: st) := by
  subst e
  subst hv
  exact fun H locs ls hP hD hS hl => lv_iadd hX.1 hX.2.1 d (h H locs ls hP hD hS hl)
theorem xv_isub (hX : xv_ok X Y cc own nL rm) {a b v : Int32} (d : decode cc pc = .ok (.isub, 1)) (hv : a - b = v) (e : pc + 1 = pq) (h : xv_V X Y nL cells slots lk N M pq L (.int v :: st)) : xv_V X Y nL cells slots lk N M pc L (.int b :: .int a :: st) := by
  subst e
  subst hv
  exact fun H locs ls hP hD hS hl => lv_isub hX.1 hX.2.1 d (h H locs ls hP hD hS hl)
theorem xv_imul (hX : xv_ok X Y cc own nL rm) {a b v : Int32} (d : decode cc pc = .ok (.imul, 1)) (hv : a * b = v) (e : pc + 1 = pq) (h : xv_V X Y nL cells slots lk N M pq L (.int v :: st)) : xv_V X Y nL cells slots lk N M pc L (.int b :: .int a :: st) := by
  subst e
  subst hv
  exact fun H locs ls hP hD hS hl => lv_imul hX.1 hX.2.1 d (h H locs ls hP hD hS hl)
theorem xv_iand (hX : xv_ok X Y cc own nL rm) {a b v : Int32} (d : decode cc pc = .ok (.iand, 1)) (hv : a &&& b = v) (e : pc + 1 = pq) (h : xv_V X Y nL cells slots lk N M pq L (.int v :: st)) : xv_V X Y nL cells slots lk N M pc L (.int b :: .int a :: st) := by
  subst e
  subst hv
  exact fun H locs ls hP hD hS hl => lv_iand hX.1 hX.2.1 d (h H locs ls hP hD hS hl)
theorem xv_ior (hX : xv_ok X Y cc own nL rm) {a b v : Int32} (d : decode cc pc = .ok (.ior, 1)) (hv : a ||| b = v) (e : pc + 1 = pq) (h : xv_V X Y nL cells slots lk N M pq L (.int v :: st)) : xv_V X Y nL cells slots lk N M pc L (.int b :: .int a :: st) := by
  subst e
  subst hv
  exact fun H locs ls hP hD hS hl => lv_ior hX.1 hX.2.1 d (h H locs ls hP hD hS hl)
theorem xv_ishl (hX : xv_ok X Y cc own nL rm) {a b v : Int32} (d : decode cc pc = .ok (.ishl, 1)) (hv : a <<< (b &&& 31) = v) (e : pc + 1 = pq) (h : xv_V X Y nL cells slots lk N M pq L (.int v :: st)) : xv_V X Y nL cells slots lk N M pc L (.int b :: .int a :: st) := by
  subst e
  subst hv
  exact fun H locs ls hP hD hS hl => lv_ishl hX.1 hX.2.1 d (h H locs ls hP hD hS hl)
theorem xv_ishr (hX : xv_ok X Y cc own nL rm) {a b v : Int32} (d : decode cc pc = .ok (.ishr, 1)) (hv : a >>> (b &&& 31) = v) (e : pc + 1 = pq) (h : xv_V X Y nL cells slots lk N M pq L (.int v :: st)) : xv_V X Y nL cells slots lk N M pc L (.int b :: .int a :: st) := by
  subst e
  subst hv
  exact fun H locs ls hP hD hS hl => lv_ishr hX.1 hX.2.1 d (h H locs ls hP hD hS hl)
theorem xv_irem (hX : xv_ok X Y cc own nL rm) {a b v : Int32} (d : decode cc pc = .ok (.irem, 1)) (hne : ¬ b = 0) (hv : a - a / b * b = v) (e : pc + 1 = pq) (h : xv_V X Y nL cells slots lk N M pq L (.int v :: st)) : xv_V X Y nL cells slots lk N M pc L (.int b :: .int a :: st) := by
  subst e
  subst hv
  exact fun H locs ls hP hD hS hl => lv_irem hX.1 hX.2.1 d hne (h H locs ls hP hD hS hl)
theorem xv_ladd (hX : xv_ok X Y cc own nL rm) {a b v : Int64} (d : decode cc pc = .ok (.ladd, 1)) (hv : a + b = v) (e : pc + 1 = pq) (h : xv_V X Y nL cells slots lk N M pq L (.long v :: st)) : xv_V X Y nL cells slots lk N M pc L (.long b :: .long a :: st) := by
  subst e
  subst hv
  exact fun H locs ls hP hD hS hl => lv_ladd hX.1 hX.2.1 d (h H locs ls hP hD hS hl)
theorem xv_lmul (hX : xv_ok X Y cc own nL rm) {a b v : Int64} (d : decode cc pc = .ok (.lmul, 1)) (hv : a * b = v) (e : pc + 1 = pq) (h : xv_V X Y nL cells slots lk N M pq L (.long v :: st)) : xv_V X Y nL cells slots lk N M pc L (.long b :: .long a :: st) := by
  subst e
  subst hv
  exact fun H locs ls hP hD hS hl => lv_lmul hX.1 hX.2.1 d (h H locs ls hP hD hS hl)
theorem xv_lor (hX : xv_ok X Y cc own nL rm) {a b v : Int64} (d : decode cc pc = .ok (.lor, 1)) (hv : a ||| b = v) (e : pc + 1 = pq) (h : xv_V X Y nL cells slots lk N M pq L (.long v :: st)) : xv_V X Y nL cells slots lk N M pc L (.long b :: .long a :: st) := by
  subst e
  subst hv
  exact fun H locs ls hP hD hS hl => lv_lor hX.1 hX.2.1 d (h H locs ls hP hD hS hl)
theorem xv_lrem (hX : xv_ok X Y cc own nL rm) {a b v : Int64} (d : decode cc pc = .ok (.lrem, 1)) (hne : ¬ b = 0) (hv : a - a / b * b = v) (e : pc + 1 = pq) (h : xv_V X Y nL cells slots lk N M pq L (.long v :: st)) : xv_V X Y nL cells slots lk N M pc L (.long b :: .long a :: st) := by
  subst e
  subst hv
  exact fun H locs ls hP hD hS hl => lv_lrem hX.1 hX.2.1 d hne (h H locs ls hP hD hS hl)
theorem xv_ixor (hX : xv_ok X Y cc own nL rm) {a b v : Int32} (d : decode cc pc = .ok (.ixor, 1)) (hv : a ^^^ b = v) (e : pc + 1 = pq) (h : xv_V X Y nL cells slots lk N M pq L (.int v :: st)) : xv_V X Y nL cells slots lk N M pc L (.int b :: .int a :: st) := by
  subst e
  subst hv
  exact fun H locs ls hP hD hS hl => lv_ixor hX.1 hX.2.1 d (h H locs ls hP hD hS hl)
theorem xv_iushr (hX : xv_ok X Y cc own nL rm) {a b v : Int32} (d : decode cc pc = .ok (.iushr, 1)) (hv : (a.toUInt32 >>> (b.toUInt32 &&& Int32.toUInt32 31)).toInt32 = v) (e : pc + 1 = pq) (h : xv_V X Y nL cells slots lk N M pq L (.int v :: st)) : xv_V X Y nL cells slots lk N M pc L (.int b :: .int a :: st) := by
  subst e
  exact fun H locs ls hP hD hS hl => lv_iushr hX.1 hX.2.1 d hv (h H locs ls hP hD hS hl)
theorem xv_lushr (hX : xv_ok X Y cc own nL rm) {a v : Int64} {b : Int32} (d : decode cc pc = .ok (.lushr, 1)) (hv : (a.toUInt64 >>> (b.toInt64.toUInt64 &&& Int64.toUInt64 63)).toInt64 = v) (e : pc + 1 = pq) (h : xv_V X Y nL cells slots lk N M pq L (.long v :: st)) : xv_V X Y nL cells slots lk N M pc L (.int b :: .long a :: st) := by
  subst e
  exact fun H locs ls hP hD hS hl => lv_lushr hX.1 hX.2.1 d hv (h H locs ls hP hD hS hl)
theorem xv_lshl (hX : xv_ok X Y cc own nL rm) {a v : Int64} {b : Int32} (d : decode cc pc = .ok (.lshl, 1)) (hv : a <<< (b.toInt64 &&& 63) = v) (e : pc + 1 = pq) (h : xv_V X Y nL cells slots lk N M pq L (.long v :: st)) : xv_V X Y nL cells slots lk N M pc L (.int b :: .long a :: st) := by
  subst e
  exact fun H locs ls hP hD hS hl => lv_lshl hX.1 hX.2.1 d hv (h H locs ls hP hD hS hl)
theorem xv_i2l (hX : xv_ok X Y cc own nL rm) {a : Int32} {v : Int64} (d : decode cc pc = .ok (.i2l, 1)) (hv : a.toInt64 = v) (e : pc + 1 = pq) (h : xv_V X Y nL cells slots lk N M pq L (.long v :: st)) : xv_V X Y nL cells slots lk N M pc L (.int a :: st) := by
  subst e
  exact fun H locs ls hP hD hS hl => lv_i2l hX.1 hX.2.1 d hv (h H locs ls hP hD hS hl)
theorem xv_l2i (hX : xv_ok X Y cc own nL rm) {a : Int64} {v : Int32} (d : decode cc pc = .ok (.l2i, 1)) (hv : a.toInt32 = v) (e : pc + 1 = pq) (h : xv_V X Y nL cells slots lk N M pq L (.int v :: st)) : xv_V X Y nL cells slots lk N M pc L (.long a :: st) := by
  subst e
  exact fun H locs ls hP hD hS hl => lv_l2i hX.1 hX.2.1 d hv (h H locs ls hP hD hS hl)
theorem xv_iconst (hX : xv_ok X Y cc own nL rm) {n : Int} {v : Int32} (d : decode cc pc = .ok (.iconst n, 1)) (hv : Int32.ofInt n = v) (e : pc + 1 = pq) (h : xv_V X Y nL cells slots lk N M pq L (.int v :: st)) : xv_V X Y nL cells slots lk N M pc L st := by
  subst e
  exact fun H locs ls hP hD hS hl => lv_iconst hX.1 hX.2.1 d hv (h H locs ls hP hD hS hl)
theorem xv_bipush (hX : xv_ok X Y cc own nL rm) {n : Int} {v : Int32} (d : decode cc pc = .ok (.bipush n, 2)) (hv : (Int8.ofInt n).toInt32 = v) (e : pc + 2 = pq) (h : xv_V X Y nL cells slots lk N M pq L (.int v :: st)) : xv_V X Y nL cells slots lk N M pc L st := by
  subst e
  exact fun H locs ls hP hD hS hl => lv_bipush hX.1 hX.2.1 d hv (h H locs ls hP hD hS hl)
theorem xv_sipush (hX : xv_ok X Y cc own nL rm) {n : Int} {v : Int32} (d : decode cc pc = .ok (.sipush n, 3)) (hv : (Int16.ofInt n).toInt32 = v) (e : pc + 3 = pq) (h : xv_V X Y nL cells slots lk N M pq L (.int v :: st)) : xv_V X Y nL cells slots lk N M pc L st := by
  subst e
  exact fun H locs ls hP hD hS hl => lv_sipush hX.1 hX.2.1 d hv (h H locs ls hP hD hS hl)
theorem xv_lconst (hX : xv_ok X Y cc own nL rm) {n : Fin 2} {v : Int64} (d : decode cc pc = .ok (.lconst n, 1)) (hv : Int64.ofNat (n : Nat) = v) (e : pc + 1 = pq) (h : xv_V X Y nL cells slots lk N M pq L (.long v :: st)) : xv_V X Y nL cells slots lk N M pc L st := by
  subst e
  exact fun H locs ls hP hD hS hl => lv_lconst hX.1 hX.2.1 d hv (h H locs ls hP hD hS hl)
theorem xv_ldc (hX : xv_ok X Y cc own nL rm) {idx : Nat} {v : Int32} (hw : Jvm.Cond.constant own idx v ∈ xw_W) (d : decode cc pc = .ok (.ldc idx, 2)) (e : pc + 2 = pq) (h : xv_V X Y nL cells slots lk N M pq L (.int v :: st)) : xv_V X Y nL cells slots lk N M pc L st := by
  subst e
  exact fun H locs ls hP hD hS hl => lv_ldc hX.1 hX.2.1 hX.2.2.2.1 (hX.2.2.2.2.1 _ hw) d (h H locs ls hP hD hS hl)
theorem xv_ldc2 (hX : xv_ok X Y cc own nL rm) {idx : Nat} {v : Int64} (hw : Jvm.Cond.constantLong own idx v ∈ xw_W) (d : decode cc pc = .ok (.ldc2_w idx, 3)) (e : pc + 3 = pq) (h : xv_V X Y nL cells slots lk N M pq L (.long v :: st)) : xv_V X Y nL cells slots lk N M pc L st := by
  subst e
  exact fun H locs ls hP hD hS hl => lv_ldc2 hX.1 hX.2.1 hX.2.2.2.1 (hX.2.2.2.2.1 _ hw) d (h H locs ls hP hD hS hl)
theorem xv_iload_n (hX : xv_ok X Y cc own nL rm) {k : Fin 4} {x : Int32} (i : Nat) (d : decode cc pc = .ok (.iload_n k, 1)) (hk : L[i]? = some ((k : Nat), .int x)) (e : pc + 1 = pq) (h : xv_V X Y nL cells slots lk N M pq L (.int x :: st)) : xv_V X Y nL cells slots lk N M pc L st := by
  subst e
  exact fun H locs ls hP hD hS hl => lv_iload_n hX.1 hX.2.1 d rfl (lv_at hl i hk) (h H locs ls hP hD hS hl)
theorem xv_iload (hX : xv_ok X Y cc own nL rm) {k : Nat} {x : Int32} (i : Nat) (d : decode cc pc = .ok (.iload k, 2)) (hk : L[i]? = some (k, .int x)) (e : pc + 2 = pq) (h : xv_V X Y nL cells slots lk N M pq L (.int x :: st)) : xv_V X Y nL cells slots lk N M pc L st := by
  subst e
  exact fun H locs ls hP hD hS hl => lv_iload hX.1 hX.2.1 d (lv_at hl i hk) (h H locs ls hP hD hS hl)
theorem xv_lload_n (hX : xv_ok X Y cc own nL rm) {k : Fin 4} {x : Int64} (i : Nat) (d : decode cc pc = .ok (.lload_n k, 1)) (hk : L[i]? = some ((k : Nat), .long x)) (e : pc + 1 = pq) (h : xv_V X Y nL cells slots lk N M pq L (.long x :: st)) : xv_V X Y nL cells slots lk N M pc L st := by
  subst e
  exact fun H locs ls hP hD hS hl => lv_lload_n hX.1 hX.2.1 d rfl (lv_at hl i hk) (h H locs ls hP hD hS hl)
theorem xv_lload (hX : xv_ok X Y cc own nL rm) {k : Nat} {x : Int64} (i : Nat) (d : decode cc pc = .ok (.lload k, 2)) (hk : L[i]? = some (k, .long x)) (e : pc + 2 = pq) (h : xv_V X Y nL cells slots lk N M pq L (.long x :: st)) : xv_V X Y nL cells slots lk N M pc L st := by
  subst e
  exact fun H locs ls hP hD hS hl => lv_lload hX.1 hX.2.1 d (lv_at hl i hk) (h H locs ls hP hD hS hl)
theorem xv_aload_n (hX : xv_ok X Y cc own nL rm) {k : Fin 4} {x : Nat} (i : Nat) (d : decode cc pc = .ok (.aload_n k, 1)) (hk : L[i]? = some ((k : Nat), .ref x)) (e : pc + 1 = pq) (h : xv_V X Y nL cells slots lk N M pq L (.ref x :: st)) : xv_V X Y nL cells slots lk N M pc L st := by
  subst e
  exact fun H locs ls hP hD hS hl => lv_aload_n hX.1 hX.2.1 d rfl (lv_at hl i hk) (h H locs ls hP hD hS hl)
theorem xv_aload (hX : xv_ok X Y cc own nL rm) {k : Nat} {x : Nat} (i : Nat) (d : decode cc pc = .ok (.aload k, 2)) (hk : L[i]? = some (k, .ref x)) (e : pc + 2 = pq) (h : xv_V X Y nL cells slots lk N M pq L (.ref x :: st)) : xv_V X Y nL cells slots lk N M pc L st := by
  subst e
  exact fun H locs ls hP hD hS hl => lv_aload hX.1 hX.2.1 d (lv_at hl i hk) (h H locs ls hP hD hS hl)
theorem xv_istore_n (hX : xv_ok X Y cc own nL rm) {k : Fin 4} {x : Int32} {L' : List (Nat × Value)} (ks : List Nat) (d : decode cc pc = .ok (.istore_n k, 1)) (hn : (k : Nat) < nL) (hL : lv_pick (((k : Nat), Value.int x) :: L.filter (fun q => !(q.1 == (k : Nat)) && !(q.1 + 1 == (k : Nat) && q.2.category == 2))) ks = L') (e : pc + 1 = pq) (h : xv_V X Y nL cells slots lk N M pq L' st) : xv_V X Y nL cells slots lk N M pc L (.int x :: st) := by
  subst e
  exact fun H locs ls hP hD hS hl => lv_istore_n hX.1 hX.2.1 d rfl hl hn rfl (fun ls' hl' => h H locs ls' hP hD hS (lv_sub hl' ks hL))
theorem xv_istore (hX : xv_ok X Y cc own nL rm) {k : Nat} {x : Int32} {L' : List (Nat × Value)} (ks : List Nat) (d : decode cc pc = .ok (.istore k, 2)) (hn : k < nL) (hL : lv_pick ((k, Value.int x) :: L.filter (fun q => !(q.1 == k) && !(q.1 + 1 == k && q.2.category == 2))) ks = L') (e : pc + 2 = pq) (h : xv_V X Y nL cells slots lk N M pq L' st) : xv_V X Y nL cells slots lk N M pc L (.int x :: st) := by
  subst e
  exact fun H locs ls hP hD hS hl => lv_istore hX.1 hX.2.1 d hl hn rfl (fun ls' hl' => h H locs ls' hP hD hS (lv_sub hl' ks hL))
theorem xv_lstore_n (hX : xv_ok X Y cc own nL rm) {k : Fin 4} {x : Int64} {L' : List (Nat × Value)} (ks : List Nat) (d : decode cc pc = .ok (.lstore_n k, 1)) (hn : (k : Nat) + 1 < nL) (hL : lv_pick (((k : Nat), Value.long x) :: L.filter (fun q => !(q.1 == (k : Nat)) && (!(q.1 == (k : Nat) + 1) && !(q.1 + 1 == (k : Nat) && q.2.category == 2)))) ks = L') (e : pc + 1 = pq) (h : xv_V X Y nL cells slots lk N M pq L' st) : xv_V X Y nL cells slots lk N M pc L (.long x :: st) := by
  subst e
  exact fun H locs ls hP hD hS hl => lv_lstore_n hX.1 hX.2.1 d rfl hl hn rfl (fun ls' hl' => h H locs ls' hP hD hS (lv_sub hl' ks hL))
theorem xv_lstore (hX : xv_ok X Y cc own nL rm) {k : Nat} {x : Int64} {L' : List (Nat × Value)} (ks : List Nat) (d : decode cc pc = .ok (.lstore k, 2)) (hn : k + 1 < nL) (hL : lv_pick ((k, Value.long x) :: L.filter (fun q => !(q.1 == k) && (!(q.1 == k + 1) && !(q.1 + 1 == k && q.2.category == 2)))) ks = L') (e : pc + 2 = pq) (h : xv_V X Y nL cells slots lk N M pq L' st) : xv_V X Y nL cells slots lk N M pc L (.long x :: st) := by
  subst e
  exact fun H locs ls hP hD hS hl => lv_lstore hX.1 hX.2.1 d hl hn rfl (fun ls' hl' => h H locs ls' hP hD hS (lv_sub hl' ks hL))
theorem xv_astore_n (hX : xv_ok X Y cc own nL rm) {k : Fin 4} {x : Nat} {L' : List (Nat × Value)} (ks : List Nat) (d : decode cc pc = .ok (.astore_n k, 1)) (hn : (k : Nat) < nL) (hL : lv_pick (((k : Nat), Value.ref x) :: L.filter (fun q => !(q.1 == (k : Nat)) && !(q.1 + 1 == (k : Nat) && q.2.category == 2))) ks = L') (e : pc + 1 = pq) (h : xv_V X Y nL cells slots lk N M pq L' st) : xv_V X Y nL cells slots lk N M pc L (.ref x :: st) := by
  subst e
  exact fun H locs ls hP hD hS hl => lv_astore_n hX.1 hX.2.1 d rfl hl hn rfl (fun ls' hl' => h H locs ls' hP hD hS (lv_sub hl' ks hL))
theorem xv_astore (hX : xv_ok X Y cc own nL rm) {k : Nat} {x : Nat} {L' : List (Nat × Value)} (ks : List Nat) (d : decode cc pc = .ok (.astore k, 2)) (hn : k < nL) (hL : lv_pick ((k, Value.ref x) :: L.filter (fun q => !(q.1 == k) && !(q.1 + 1 == k && q.2.category == 2))) ks = L') (e : pc + 2 = pq) (h : xv_V X Y nL cells slots lk N M pq L' st) : xv_V X Y nL cells slots lk N M pc L (.ref x :: st) := by
  subst e
  exact fun H locs ls hP hD hS hl => lv_astore hX.1 hX.2.1 d hl hn rfl (fun ls' hl' => h H locs ls' hP hD hS (lv_sub hl' ks hL))
theorem xv_iinc (hX : xv_ok X Y cc own nL rm) {k : Nat} {n : Int} {x v : Int32} {L' : List (Nat × Value)} (i : Nat) (ks : List Nat) (d : decode cc pc = .ok (.iinc k n, 3)) (hk : L[i]? = some (k, .int x)) (hv : x + Int32.ofInt n = v) (hn : k < nL) (hL : lv_pick ((k, Value.int v) :: L.filter (fun q => !(q.1 == k) && !(q.1 + 1 == k && q.2.category == 2))) ks = L') (e : pc + 3 = pq) (h : xv_V X Y nL cells slots lk N M pq L' st) : xv_V X Y nL cells slots lk N M pc L st := by
  subst e
  exact fun H locs ls hP hD hS hl => lv_iinc hX.1 hX.2.1 d hl hk hv hn rfl (fun ls' hl' => h H locs ls' hP hD hS (lv_sub hl' ks hL))
theorem xv_sub {L' : List (Nat × Value)} (ks : List Nat) (hL : lv_pick L ks = L') (h : xv_V X Y nL cells slots lk N M pc L' st) : xv_V X Y nL cells slots lk N M pc L st := fun H locs ls hP hD hS hl => h H locs ls hP hD hS (lv_sub hl ks hL)
theorem xv_dup (hX : xv_ok X Y cc own nL rm) {v : Value} (d : decode cc pc = .ok (.dup, 1)) (hc : v.category = 1) (e : pc + 1 = pq) (h : xv_V X Y nL cells slots lk N M pq L (v :: v :: st)) : xv_V X Y nL cells slots lk N M pc L (v :: st) := by
  subst e
  exact fun H locs ls hP hD hS hl => lv_dup hX.1 hX.2.1 d hc (h H locs ls hP hD hS hl)
theorem xv_goto (hX : xv_ok X Y cc own nL rm) {off : Int} (d : decode cc pc = .ok (.goto off, 3)) (e : (pc : Int) + off = (pq : Int)) (h : xv_V X Y nL cells slots lk N M pq L st) : xv_V X Y nL cells slots lk N M pc L st := fun H locs ls hP hD hS hl => lv_goto hX.1 hX.2.1 d e (h H locs ls hP hD hS hl)
theorem xv_icmp_eq (hX : xv_ok X Y cc own nL rm) {x y : Int32} {xi yi : Int} (ha : x.toInt = xi) (hb : y.toInt = yi) {off : Int} {tgt : Nat} (d : decode cc pc = .ok (.if_icmp .eq off, 3)) (et : (pc : Int) + off = (tgt : Int)) (e : pc + 3 = pq) (kt : xi = yi → xv_V X Y nL cells slots lk N M tgt L st) (kf : xi ≠ yi → xv_V X Y nL cells slots lk N M pq L st) : xv_V X Y nL cells slots lk N M pc L (.int y :: .int x :: st) := by
  subst e
  exact fun H locs ls hP hD hS hl => lv_icmp_eq hX.1 hX.2.1 d et (fun q => kt (by rw [← ha, ← hb, q]) H locs ls hP hD hS hl) (fun q => kf (fun z => q (Int32.toInt_inj.mp (by rw [ha, hb, z]))) H locs ls hP hD hS hl)
theorem xv_if_eq (hX : xv_ok X Y cc own nL rm) {x : Int32} {xi : Int} (ha : x.toInt = xi) {off : Int} {tgt : Nat} (d : decode cc pc = .ok (.ifCond .eq off, 3)) (et : (pc : Int) + off = (tgt : Int)) (e : pc + 3 = pq) (kt : xi = 0 → xv_V X Y nL cells slots lk N M tgt L st) (kf : xi ≠ 0 → xv_V X Y nL cells slots lk N M pq L st) : xv_V X Y nL cells slots lk N M pc L (.int x :: st) := by
  subst e
  have hb : (0 : Int32).toInt = 0 := rfl
  exact fun H locs ls hP hD hS hl => lv_if_eq hX.1 hX.2.1 d et (fun q => kt (by rw [← ha, ← hb, q]) H locs ls hP hD hS hl) (fun q => kf (fun z => q (Int32.toInt_inj.mp (by rw [ha, hb, z]))) H locs ls hP hD hS hl)
theorem xv_icmp_ne (hX : xv_ok X Y cc own nL rm) {x y : Int32} {xi yi : Int} (ha : x.toInt = xi) (hb : y.toInt = yi) {off : Int} {tgt : Nat} (d : decode cc pc = .ok (.if_icmp .ne off, 3)) (et : (pc : Int) + off = (tgt : Int)) (e : pc + 3 = pq) (kt : xi ≠ yi → xv_V X Y nL cells slots lk N M tgt L st) (kf : xi = yi → xv_V X Y nL cells slots lk N M pq L st) : xv_V X Y nL cells slots lk N M pc L (.int y :: .int x :: st) := by
  subst e
  exact fun H locs ls hP hD hS hl => lv_icmp_ne hX.1 hX.2.1 d et (fun q => kt (fun z => q (Int32.toInt_inj.mp (by rw [ha, hb, z]))) H locs ls hP hD hS hl) (fun q => kf (by rw [← ha, ← hb]; exact congrArg Int32.toInt q) H locs ls hP hD hS hl)
theorem xv_if_ne (hX : xv_ok X Y cc own nL rm) {x : Int32} {xi : Int} (ha : x.toInt = xi) {off : Int} {tgt : Nat} (d : decode cc pc = .ok (.ifCond .ne off, 3)) (et : (pc : Int) + off = (tgt : Int)) (e : pc + 3 = pq) (kt : xi ≠ 0 → xv_V X Y nL cells slots lk N M tgt L st) (kf : xi = 0 → xv_V X Y nL cells slots lk N M pq L st) : xv_V X Y nL cells slots lk N M pc L (.int x :: st) := by
  subst e
  have hb : (0 : Int32).toInt = 0 := rfl
  exact fun H locs ls hP hD hS hl => lv_if_ne hX.1 hX.2.1 d et (fun q => kt (fun z => q (Int32.toInt_inj.mp (by rw [ha, hb, z]))) H locs ls hP hD hS hl) (fun q => kf (by rw [← ha, ← hb]; exact congrArg Int32.toInt q) H locs ls hP hD hS hl)
theorem xv_icmp_lt (hX : xv_ok X Y cc own nL rm) {x y : Int32} {xi yi : Int} (ha : x.toInt = xi) (hb : y.toInt = yi) {off : Int} {tgt : Nat} (d : decode cc pc = .ok (.if_icmp .lt off, 3)) (et : (pc : Int) + off = (tgt : Int)) (e : pc + 3 = pq) (kt : xi < yi → xv_V X Y nL cells slots lk N M tgt L st) (kf : yi ≤ xi → xv_V X Y nL cells slots lk N M pq L st) : xv_V X Y nL cells slots lk N M pc L (.int y :: .int x :: st) := by
  subst e
  exact fun H locs ls hP hD hS hl => lv_icmp_lt hX.1 hX.2.1 d et (fun q => kt (by have q := Int32.lt_iff_toInt_lt.mp q; rw [ha, hb] at q; exact q) H locs ls hP hD hS hl) (fun q => kf (by have q := mt Int32.lt_iff_toInt_lt.mpr q; rw [ha, hb] at q; omega) H locs ls hP hD hS hl)
theorem xv_if_lt (hX : xv_ok X Y cc own nL rm) {x : Int32} {xi : Int} (ha : x.toInt = xi) {off : Int} {tgt : Nat} (d : decode cc pc = .ok (.ifCond .lt off, 3)) (et : (pc : Int) + off = (tgt : Int)) (e : pc + 3 = pq) (kt : xi < 0 → xv_V X Y nL cells slots lk N M tgt L st) (kf : 0 ≤ xi → xv_V X Y nL cells slots lk N M pq L st) : xv_V X Y nL cells slots lk N M pc L (.int x :: st) := by
  subst e
  have hb : (0 : Int32).toInt = 0 := rfl
  exact fun H locs ls hP hD hS hl => lv_if_lt hX.1 hX.2.1 d et (fun q => kt (by have q := Int32.lt_iff_toInt_lt.mp q; rw [ha, hb] at q; exact q) H locs ls hP hD hS hl) (fun q => kf (by have q := mt Int32.lt_iff_toInt_lt.mpr q; rw [ha, hb] at q; omega) H locs ls hP hD hS hl)
theorem xv_icmp_ge (hX : xv_ok X Y cc own nL rm) {x y : Int32} {xi yi : Int} (ha : x.toInt = xi) (hb : y.toInt = yi) {off : Int} {tgt : Nat} (d : decode cc pc = .ok (.if_icmp .ge off, 3)) (et : (pc : Int) + off = (tgt : Int)) (e : pc + 3 = pq) (kt : yi ≤ xi → xv_V X Y nL cells slots lk N M tgt L st) (kf : xi < yi → xv_V X Y nL cells slots lk N M pq L st) : xv_V X Y nL cells slots lk N M pc L (.int y :: .int x :: st) := by
  subst e
  exact fun H locs ls hP hD hS hl => lv_icmp_ge hX.1 hX.2.1 d et (fun q => kt (by have q := Int32.le_iff_toInt_le.mp q; rw [ha, hb] at q; exact q) H locs ls hP hD hS hl) (fun q => kf (by have q := mt Int32.le_iff_toInt_le.mpr q; rw [ha, hb] at q; omega) H locs ls hP hD hS hl)
theorem xv_if_ge (hX : xv_ok X Y cc own nL rm) {x : Int32} {xi : Int} (ha : x.toInt = xi) {off : Int} {tgt : Nat} (d : decode cc pc = .ok (.ifCond .ge off, 3)) (et : (pc : Int) + off = (tgt : Int)) (e : pc + 3 = pq) (kt : 0 ≤ xi → xv_V X Y nL cells slots lk N M tgt L st) (kf : xi < 0 → xv_V X Y nL cells slots lk N M pq L st) : xv_V X Y nL cells slots lk N M pc L (.int x :: st) := by
  subst e
  have hb : (0 : Int32).toInt = 0 := rfl
  exact fun H locs ls hP hD hS hl => lv_if_ge hX.1 hX.2.1 d et (fun q => kt (by have q := Int32.le_iff_toInt_le.mp q; rw [ha, hb] at q; exact q) H locs ls hP hD hS hl) (fun q => kf (by have q := mt Int32.le_iff_toInt_le.mpr q; rw [ha, hb] at q; omega) H locs ls hP hD hS hl)
theorem xv_icmp_gt (hX : xv_ok X Y cc own nL rm) {x y : Int32} {xi yi : Int} (ha : x.toInt = xi) (hb : y.toInt = yi) {off : Int} {tgt : Nat} (d : decode cc pc = .ok (.if_icmp .gt off, 3)) (et : (pc : Int) + off = (tgt : Int)) (e : pc + 3 = pq) (kt : yi < xi → xv_V X Y nL cells slots lk N M tgt L st) (kf : xi ≤ yi → xv_V X Y nL cells slots lk N M pq L st) : xv_V X Y nL cells slots lk N M pc L (.int y :: .int x :: st) := by
  subst e
  exact fun H locs ls hP hD hS hl => lv_icmp_gt hX.1 hX.2.1 d et (fun q => kt (by have q := Int32.lt_iff_toInt_lt.mp q; rw [ha, hb] at q; exact q) H locs ls hP hD hS hl) (fun q => kf (by have q := mt Int32.lt_iff_toInt_lt.mpr q; rw [ha, hb] at q; omega) H locs ls hP hD hS hl)
theorem xv_if_gt (hX : xv_ok X Y cc own nL rm) {x : Int32} {xi : Int} (ha : x.toInt = xi) {off : Int} {tgt : Nat} (d : decode cc pc = .ok (.ifCond .gt off, 3)) (et : (pc : Int) + off = (tgt : Int)) (e : pc + 3 = pq) (kt : 0 < xi → xv_V X Y nL cells slots lk N M tgt L st) (kf : xi ≤ 0 → xv_V X Y nL cells slots lk N M pq L st) : xv_V X Y nL cells slots lk N M pc L (.int x :: st) := by
  subst e
  have hb : (0 : Int32).toInt = 0 := rfl
  exact fun H locs ls hP hD hS hl => lv_if_gt hX.1 hX.2.1 d et (fun q => kt (by have q := Int32.lt_iff_toInt_lt.mp q; rw [ha, hb] at q; exact q) H locs ls hP hD hS hl) (fun q => kf (by have q := mt Int32.lt_iff_toInt_lt.mpr q; rw [ha, hb] at q; omega) H locs ls hP hD hS hl)
theorem xv_icmp_le (hX : xv_ok X Y cc own nL rm) {x y : Int32} {xi yi : Int} (ha : x.toInt = xi) (hb : y.toInt = yi) {off : Int} {tgt : Nat} (d : decode cc pc = .ok (.if_icmp .le off, 3)) (et : (pc : Int) + off = (tgt : Int)) (e : pc + 3 = pq) (kt : xi ≤ yi → xv_V X Y nL cells slots lk N M tgt L st) (kf : yi < xi → xv_V X Y nL cells slots lk N M pq L st) : xv_V X Y nL cells slots lk N M pc L (.int y :: .int x :: st) := by
  subst e
  exact fun H locs ls hP hD hS hl => lv_icmp_le hX.1 hX.2.1 d et (fun q => kt (by have q := Int32.le_iff_toInt_le.mp q; rw [ha, hb] at q; exact q) H locs ls hP hD hS hl) (fun q => kf (by have q := mt Int32.le_iff_toInt_le.mpr q; rw [ha, hb] at q; omega) H locs ls hP hD hS hl)
theorem xv_if_le (hX : xv_ok X Y cc own nL rm) {x : Int32} {xi : Int} (ha : x.toInt = xi) {off : Int} {tgt : Nat} (d : decode cc pc = .ok (.ifCond .le off, 3)) (et : (pc : Int) + off = (tgt : Int)) (e : pc + 3 = pq) (kt : xi ≤ 0 → xv_V X Y nL cells slots lk N M tgt L st) (kf : 0 < xi → xv_V X Y nL cells slots lk N M pq L st) : xv_V X Y nL cells slots lk N M pc L (.int x :: st) := by
  subst e
  have hb : (0 : Int32).toInt = 0 := rfl
  exact fun H locs ls hP hD hS hl => lv_if_le hX.1 hX.2.1 d et (fun q => kt (by have q := Int32.le_iff_toInt_le.mp q; rw [ha, hb] at q; exact q) H locs ls hP hD hS hl) (fun q => kf (by have q := mt Int32.le_iff_toInt_le.mpr q; rw [ha, hb] at q; omega) H locs ls hP hD hS hl)
theorem xv_lcmp (hX : xv_ok X Y cc own nL rm) {a b : Int64} (d : decode cc pc = .ok (.lcmp, 1)) (e : pc + 1 = pq) (h : xv_V X Y nL cells slots lk N M pq L (.int (lg_cmp a b) :: st)) : xv_V X Y nL cells slots lk N M pc L (.long b :: .long a :: st) := by
  subst e
  exact fun H locs ls hP hD hS hl => W.lcmp hX.1 hX.2.1 d (h H locs ls hP hD hS hl)
theorem xv_getv (hX : xv_ok X Y cc own nL rm) {q ci n k idx : Nat} {fin : Bool} {ty : FieldType} (hf : xf_L own idx ci n k fin ty) (hk : xw_K q = (0, ci, n)) (hq : q < N) {v : Value} (hv : xw_slot Y.2.2.2 (xw_rk ci k) (lk q k) (M q k) = v) (d : decode cc pc = .ok (.getfield idx, 3)) (e : pc + 3 = pq) (h : xv_V X Y nL cells slots lk N M pq L (v :: st)) : xv_V X Y nL cells slots lk N M pc L (.ref (Y.2.2.2 q) :: st) := by
  subst e
  obtain ⟨C, T, tf, hc, hkn, hw, hl, -⟩ := hf
  intro H locs ls hP hD hS hls
  have he : (xw_ws Y lk M N)[q]? = some (Y.2.2.2 q, .inr (ci, xw_fs Y.2.2.2 (xw_rk ci) (lk q) (M q) n)) := by
    rw [xw_at hq]; unfold xw_cell; rw [hk]; rfl
  rcases hl with hl | ⟨host, hl⟩
  · exact va_get hX.1 hX.2.1 hX.2.2.2.2.1 hw hX.2.2.2.1 hX.2.2.2.2.2.1 hP q he hc k hkn (hX.2.2.2.2.1 _ hl) (fun _ h9 => h9) (by rw [xw_fs_get hkn, hv]) d (h H locs ls hP hD hS hls)
  · exact va_getN hX.1 hX.2.1 hX.2.2.2.2.1 hw hX.2.2.2.1 hX.2.2.2.2.2.1 hP q he hc k hkn (va_Nw.use rfl (hX.2.2.2.2.2.2.2.2 _ hl)) (fun _ h9 => h9) (by rw [xw_fs_get hkn, hv]) d (h H locs ls hP hD hS hls)
theorem xv_geti (hX : xv_ok X Y cc own nL rm) {q ci n k idx v : Nat} {fin : Bool} {ty : FieldType} (hf : xf_L own idx ci n k fin ty) (hr : xw_rk ci k = false) (hk : xw_K q = (0, ci, n)) (hq : q < N) (hv : M q k = v) (d : decode cc pc = .ok (.getfield idx, 3)) (e : pc + 3 = pq) (h : xv_V X Y nL cells slots lk N M pq L (.int (nI v) :: st)) : xv_V X Y nL cells slots lk N M pc L (.ref (Y.2.2.2 q) :: st) :=
  xv_getv hX hf hk hq (by rw [hr, hv]; rfl) d e h
theorem xv_getr (hX : xv_ok X Y cc own nL rm) {q ci n k idx v : Nat} {fin : Bool} {ty : FieldType} (hf : xf_L own idx ci n k fin ty) (hr : xw_rk ci k = true) (hk : xw_K q = (0, ci, n)) (hq : q < N) (hv : lk q k = some v) (d : decode cc pc = .ok (.getfield idx, 3)) (e : pc + 3 = pq) (h : xv_V X Y nL cells slots lk N M pq L (.ref (Y.2.2.2 v) :: st)) : xv_V X Y nL cells slots lk N M pc L (.ref (Y.2.2.2 q) :: st) :=
  xv_getv hX hf hk hq (by rw [hr, hv]; rfl) d e h
theorem xv_putv (hX : xv_ok X Y cc own nL rm) {q ci n k idx : Nat} {ty : FieldType} {lk' : xl_L} {M' : xm_M} (hf : xf_L own idx ci n k false ty) (hk : xw_K q = (0, ci, n)) (hq : q < N) {v : Value} (hn : narrow ty v = v) (hfit : fits ty v = true) (h0 : (xw_fs Y.2.2.2 (xw_rk ci) (lk q) (M q) n).set k v = xw_fs Y.2.2.2 (xw_rk ci) (lk' q) (M' q) n) (ho : ∀ z, z ≠ q → lk' z = lk z ∧ M' z = M z) (d : decode cc pc = .ok (.putfield idx, 3)) (e : pc + 3 = pq) (h : xv_V X Y nL cells slots lk' N M' pq L st) : xv_V X Y nL cells slots lk N M pc L (v :: .ref (Y.2.2.2 q) :: st) := by
  subst e
  obtain ⟨C, T, tf, hc, hkn, hw, hl, hfin, hd, hty, hnm⟩ := hf
  intro H locs ls hP hD hS hls
  have he : (xw_ws Y lk M N)[q]? = some (Y.2.2.2 q, .inr (ci, xw_fs Y.2.2.2 (xw_rk ci) (lk q) (M q) n)) := by
    rw [xw_at hq]; unfold xw_cell; rw [hk]; rfl
  have hset : (xw_ws Y lk M N).set q (Y.2.2.2 q, .inr (ci, (xw_fs Y.2.2.2 (xw_rk ci) (lk q) (M q) n).set k v)) = xw_ws Y lk' M' N :=
    xw_set (by unfold xw_cell; rw [hk, h0]; rfl) ho
  rcases hl with hl | ⟨host, hl⟩
  · refine va_put hX.1 hX.2.1 hX.2.2.2.2.1 hw tf hty hnm hX.2.2.2.1 hX.2.2.2.2.2.1 hP hD hS q he hc k hkn (hX.2.2.2.2.1 _ hl) (fun _ h9 => h9) hfin hd hn hfit (by rw [xw_fs_len]; exact hkn) d (fun H1 locs1 hP1 hD1 hS1 => ?_)
    rw [hset] at hP1 hD1
    exact h H1 locs1 ls hP1 hD1 hS1 hls
  · refine va_putN hX.1 hX.2.1 hX.2.2.2.2.1 hw tf hty hnm hX.2.2.2.1 hX.2.2.2.2.2.1 hP hD hS q he hc k hkn (va_Nw.use rfl (hX.2.2.2.2.2.2.2.2 _ hl)) (fun _ h9 => h9) hfin hd hn hfit (by rw [xw_fs_len]; exact hkn) d (fun H1 locs1 hP1 hD1 hS1 => ?_)
    rw [hset] at hP1 hD1
    exact h H1 locs1 ls hP1 hD1 hS1 hls
theorem xw_seti {ad : Nat → Nat} {rk : Nat → Bool} {r : Nat → Option Nat} {M : xm_M} {q n k v : Nat} (hr : rk k = false) : (xw_fs ad rk r (M q) n).set k (.int (nI v)) = xw_fs ad rk r (xm_set M q k v q) n :=
  xw_fs_set (by rw [hr, xm_eq]; rfl) (fun j hj => ⟨rfl, xm_nk hj⟩)
theorem xv_puti (hX : xv_ok X Y cc own nL rm) {q ci n k idx v : Nat} (hf : xf_L own idx ci n k false .int) (hr : xw_rk ci k = false) (hk : xw_K q = (0, ci, n)) (hq : q < N) (d : decode cc pc = .ok (.putfield idx, 3)) (e : pc + 3 = pq) (h : xv_V X Y nL cells slots lk N (xm_set M q k v) pq L st) : xv_V X Y nL cells slots lk N M pc L (.int (nI v) :: .ref (Y.2.2.2 q) :: st) :=
  xv_putv hX hf hk hq rfl rfl (xw_seti hr) (fun z hz => ⟨rfl, xm_oth hz⟩) d e h
theorem xv_putz (hX : xv_ok X Y cc own nL rm) {q ci n k idx v : Nat} (hf : xf_L own idx ci n k false .boolean) (hr : xw_rk ci k = false) (hk : xw_K q = (0, ci, n)) (hq : q < N) (hv : v < 2) (d : decode cc pc = .ok (.putfield idx, 3)) (e : pc + 3 = pq) (h : xv_V X Y nL cells slots lk N (xm_set M q k v) pq L st) : xv_V X Y nL cells slots lk N M pc L (.int (nI v) :: .ref (Y.2.2.2 q) :: st) :=
  xv_putv hX hf hk hq (by rcases (show v = 0 ∨ v = 1 by omega) with rfl | rfl <;> decide) (by rcases (show v = 0 ∨ v = 1 by omega) with rfl | rfl <;> decide) (xw_seti hr) (fun z hz => ⟨rfl, xm_oth hz⟩) d e h
theorem xv_iald (hX : xv_ok X Y cc own nL rm) {q n i v : Nat} (hk : xw_K q = (1, 0, n)) (hq : q < N) (hi : i < n) (hn : n < 2 ^ 31) (hv : M q i = v) (d : decode cc pc = .ok (.iaload, 1)) (e : pc + 1 = pq) (h : xv_V X Y nL cells slots lk N M pq L (.int (nI v) :: st)) : xv_V X Y nL cells slots lk N M pc L (.int (nI i) :: .ref (Y.2.2.2 q) :: st) := by
  subst e
  subst hv
  intro H locs ls hP hD hS hls
  refine va_iald hX.1 hX.2.1 hX.2.2.2.2.2.1 hP q 0 (cA := Y.2.1 0) (n := n) (f := fun j => nI (M q j)) (by rw [xw_at hq]; unfold xw_cell; rw [hk]; rfl) rfl (vp_in_nI hi hn) d ?_
  rw [nI_clamp (by omega)]
  exact h H locs ls hP hD hS hls
theorem xv_lald (hX : xv_ok X Y cc own nL rm) {q n i v : Nat} (hk : xw_K q = (2, 1, n)) (hq : q < N) (hi : i < n) (hn : n < 2 ^ 31) (hv : M q i = v) (d : decode cc pc = .ok (.laload, 1)) (e : pc + 1 = pq) (h : xv_V X Y nL cells slots lk N M pq L (.long (lN v) :: st)) : xv_V X Y nL cells slots lk N M pc L (.int (nI i) :: .ref (Y.2.2.2 q) :: st) := by
  subst e
  subst hv
  intro H locs ls hP hD hS hls
  refine va_lald hX.1 hX.2.1 hX.2.2.2.2.2.1 hP q 1 (cA := Y.2.1 1) (n := n) (f := fun j => lN (M q j)) (by rw [xw_at hq]; unfold xw_cell; rw [hk]; rfl) rfl (vp_in_nI hi hn) d ?_
  rw [nI_clamp (by omega)]
  exact h H locs ls hP hD hS hls
theorem xv_aald (hX : xv_ok X Y cc own nL rm) {q t n i v : Nat} {C : String} (hk : xw_K q = (3, t, n)) (ht : (xw_tys Y)[t]? = some (Y.2.1 t, .object C)) (hq : q < N) (hi : i < n) (hn : n < 2 ^ 31) (hv : lk q i = some v) (d : decode cc pc = .ok (.aaload, 1)) (e : pc + 1 = pq) (h : xv_V X Y nL cells slots lk N M pq L (.ref (Y.2.2.2 v) :: st)) : xv_V X Y nL cells slots lk N M pc L (.int (nI i) :: .ref (Y.2.2.2 q) :: st) := by
  subst e
  intro H locs ls hP hD hS hls
  refine va_aldq hX.1 hX.2.1 hX.2.2.2.2.2.1 hP q t (cA := Y.2.1 t) (n := n) (f := fun j => (lk q j).map Y.2.2.2) (by rw [xw_at hq]; unfold xw_cell; rw [hk]; rfl) ht (vp_in_nI hi hn) d ?_
  rw [nI_clamp (by omega), hv]
  exact h H locs ls hP hD hS hls
theorem xv_iast (hX : xv_ok X Y cc own nL rm) {q n i v : Nat} (hk : xw_K q = (1, 0, n)) (hq : q < N) (hi : i < n) (hn : n < 2 ^ 31) (d : decode cc pc = .ok (.iastore, 1)) (e : pc + 1 = pq) (h : xv_V X Y nL cells slots lk N (xm_set M q i v) pq L st) : xv_V X Y nL cells slots lk N M pc L (.int (nI v) :: .int (nI i) :: .ref (Y.2.2.2 q) :: st) := by
  subst e
  intro H locs ls hP hD hS hls
  refine va_iast hX.1 hX.2.1 hX.2.2.2.2.2.1 hP hD hS q 0 (cA := Y.2.1 0) (n := n) (f := fun j => nI (M q j)) (by rw [xw_at hq]; unfold xw_cell; rw [hk]; rfl) rfl (vp_in_nI hi hn) d (fun H1 locs1 hP1 hD1 hS1 => ?_)
  have hset : (xw_ws Y lk M N).set q (Y.2.2.2 q, .inl (Y.2.1 0, n, .inl (upd (fun j => nI (M q j)) (nI i).toNatClampNeg (nI v)))) = xw_ws Y lk (xm_set M q i v) N := by
    refine xw_set ?_ (fun z hz => ⟨rfl, xm_oth hz⟩)
    unfold xw_cell
    rw [hk, xm_row, nI_clamp (by omega)]
    have hfn : (fun j => nI (if j = i then v else M q j)) = upd (fun j => nI (M q j)) i (nI v) := by
      funext j
      unfold upd
      split <;> rfl
    show Sum.inl (Y.2.1 0, n, Sum.inl (fun j => nI (if j = i then v else M q j))) = _
    rw [hfn]
  rw [hset] at hP1 hD1
  exact h H1 locs1 ls hP1 hD1 hS1 hls
theorem xv_last (hX : xv_ok X Y cc own nL rm) {q n i v : Nat} (hk : xw_K q = (2, 1, n)) (hq : q < N) (hi : i < n) (hn : n < 2 ^ 31) (d : decode cc pc = .ok (.lastore, 1)) (e : pc + 1 = pq) (h : xv_V X Y nL cells slots lk N (xm_set M q i v) pq L st) : xv_V X Y nL cells slots lk N M pc L (.long (lN v) :: .int (nI i) :: .ref (Y.2.2.2 q) :: st) := by
  subst e
  intro H locs ls hP hD hS hls
  refine va_last hX.1 hX.2.1 hX.2.2.2.2.2.1 hP hD hS q 1 (cA := Y.2.1 1) (n := n) (f := fun j => lN (M q j)) (by rw [xw_at hq]; unfold xw_cell; rw [hk]; rfl) rfl (vp_in_nI hi hn) d (fun H1 locs1 hP1 hD1 hS1 => ?_)
  have hset : (xw_ws Y lk M N).set q (Y.2.2.2 q, .inl (Y.2.1 1, n, .inr (.inl (vp_updL (fun j => lN (M q j)) (nI i).toNatClampNeg (lN v))))) = xw_ws Y lk (xm_set M q i v) N := by
    refine xw_set ?_ (fun z hz => ⟨rfl, xm_oth hz⟩)
    unfold xw_cell
    rw [hk, xm_row, nI_clamp (by omega)]
    have hfn : (fun j => lN (if j = i then v else M q j)) = vp_updL (fun j => lN (M q j)) i (lN v) := by
      funext j
      unfold vp_updL
      split <;> rfl
    show Sum.inl (Y.2.1 1, n, Sum.inr (Sum.inl (fun j => lN (if j = i then v else M q j)))) = _
    rw [hfn]
  rw [hset] at hP1 hD1
  exact h H1 locs1 ls hP1 hD1 hS1 hls
theorem xv_alen (hX : xv_ok X Y cc own nL rm) {q t n : Nat} {tg : Nat} (hk : xw_K q = (tg + 1, t, n)) (ht : ∃ ty, (xw_tys Y)[t]? = some (Y.2.1 t, ty)) (hq : q < N) (d : decode cc pc = .ok (.arraylength, 1)) (e : pc + 1 = pq) (h : xv_V X Y nL cells slots lk N M pq L (.int (nI n) :: st)) : xv_V X Y nL cells slots lk N M pc L (.ref (Y.2.2.2 q) :: st) := by
  subst e
  obtain ⟨ty, ht⟩ := ht
  intro H locs ls hP hD hS hls
  have he : ∃ x : vp_A, x.1 = n ∧ (xw_ws Y lk M N)[q]? = some (Y.2.2.2 q, .inl (Y.2.1 t, x)) := by
    rw [xw_at hq]; unfold xw_cell; rw [hk]
    rcases tg with _ | _ | tg
    · exact ⟨_, rfl, rfl⟩
    · exact ⟨_, rfl, rfl⟩
    · exact ⟨(n, .inr (.inr (.inr (.inr (fun j => (lk q j).map Y.2.2.2))))), rfl, rfl⟩
  obtain ⟨x, hx, he⟩ := he
  exact va_alen hX.1 hX.2.1 hX.2.2.2.2.2.1 hP q t he ht (by rw [hx]; rfl) d (h H locs ls hP hD hS hls)
end XV
