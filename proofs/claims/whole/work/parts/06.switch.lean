/-! switches; pop -/
section XS
variable {X : xv_X} {Y : xw_Y} {cc : ByteArray} {own : String} {nL cells slots : Nat} {rm : Room} {lk : xl_L} {N : Nat} {M : xm_M} {pc pq : Nat} {L : List (Nat × Value)} {st : List Value}
theorem xv_tsIn (hX : xv_ok X Y cc own nL rm) {x : Int32} {xi : Int} (hx : x.toInt = xi) {dflt lo hi off : Int} {offs : Array Int} {len tgt : Nat} (d : decode cc pc = .ok (.tableswitch dflt lo hi offs, len)) (h1 : ¬ xi < lo) (h2 : ¬ hi < xi) (ho : offs[(xi - lo).toNat]? = some off) (et : (pc : Int) + off = (tgt : Int)) (h : xv_V X Y nL cells slots lk N M tgt L st) : xv_V X Y nL cells slots lk N M pc L (.int x :: st) := by
  subst hx
  exact fun H locs ls hP hD hS hl => lv_tableIn hX.1 hX.2.1 d h1 h2 ho et (h H locs ls hP hD hS hl)
theorem xv_tsOut (hX : xv_ok X Y cc own nL rm) {x : Int32} {xi : Int} (hx : x.toInt = xi) {dflt lo hi : Int} {offs : Array Int} {len tgt : Nat} (d : decode cc pc = .ok (.tableswitch dflt lo hi offs, len)) (ho : xi < lo ∨ hi < xi) (et : (pc : Int) + dflt = (tgt : Int)) (h : xv_V X Y nL cells slots lk N M tgt L st) : xv_V X Y nL cells slots lk N M pc L (.int x :: st) := by
  subst hx
  exact fun H locs ls hP hD hS hl => lv_tableOut hX.1 hX.2.1 d ho et (h H locs ls hP hD hS hl)
theorem xv_pop (hX : xv_ok X Y cc own nL rm) {v : Value} (d : decode cc pc = .ok (.pop, 1)) (hc : v.category = 1) (e : pc + 1 = pq) (h : xv_V X Y nL cells slots lk N M pq L st) : xv_V X Y nL cells slots lk N M pc L (v :: st) := by
  subst e
  exact fun H locs ls hP hD hS hl => lv_pop hX.1 hX.2.1 d hc (h H locs ls hP hD hS hl)
end XS
