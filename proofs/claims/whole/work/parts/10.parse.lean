/-! What the document calls an encoding, as functions of the bytes b, a place i and a limit: none where the bytes are wrong. -/
abbrev ps_N : Type := List (List Nat)
def ps_sl (b : Nat → Nat) (f g : Nat) : List Nat := (List.range (g - f)).map (fun j => b (f + j))
def ps_hd (b : Nat → Nat) (tag i lim : Nat) : Option (Nat × Nat) :=
  if i + 2 ≤ lim ∧ b i = tag then
    if b (i + 1) ≤ 127 then
      if i + 2 + b (i + 1) ≤ lim then some (i + 2, i + 2 + b (i + 1)) else none
    else if b (i + 1) = 129 ∧ i + 3 ≤ lim ∧ 128 ≤ b (i + 2) then
      if i + 3 + b (i + 2) ≤ lim then some (i + 3, i + 3 + b (i + 2)) else none
    else none
  else none
def ps_be (b : Nat → Nat) (f : Nat) : Nat → Nat
  | 0 => 0
  | n + 1 => 256 * ps_be b f n + b (f + n)
def ps_int (b : Nat → Nat) (i lim : Nat) : Option (Nat × Nat) :=
  match ps_hd b 2 i lim with
  | none => none
  | some (f, e) => if 1 ≤ e - f ∧ e - f ≤ 4 ∧ b f ≤ 127 ∧ ¬ (1 < e - f ∧ b f = 0 ∧ b (f + 1) < 128) then some (ps_be b f (e - f), e) else none
/-- perhaps TRUE -/
def ps_tru (b : Nat → Nat) (i lim : Nat) : Option (Bool × Nat) :=
  if i < lim ∧ b i = 1 then
    match ps_hd b 1 i lim with
    | none => none
    | some (f, e) => if e = f + 1 ∧ b f = 255 then some (true, e) else none
  else some (false, i)
def ps_abc (l : List Nat) : Bool := l.all (fun x => decide (97 ≤ x) && decide (x ≤ 122))
def ps_label (b : Nat → Nat) (i lim : Nat) : Option (List Nat × Nat) :=
  match ps_hd b 19 i lim with
  | none => none
  | some (f, g) => if 1 ≤ g - f ∧ g - f ≤ 8 ∧ ps_abc (ps_sl b f g) = true then some (ps_sl b f g, g) else none
/-- labels up to e, at most so many -/
def ps_labels (b : Nat → Nat) (e : Nat) : Nat → Nat → Option ps_N
  | 0, i => if i = e then some [] else none
  | n + 1, i =>
    if i = e then some [] else
    match ps_label b i e with
    | none => none
    | some (x, j) => match ps_labels b e n j with
      | none => none
      | some l => some (x :: l)
def ps_name (b : Nat → Nat) (i lim : Nat) : Option (ps_N × Nat) :=
  match ps_hd b 48 i lim with
  | none => none
  | some (f, e) => match ps_labels b e 4 f with
    | none => none
    | some l => some (l, e)
/-- names up to e, at most so many -/
def ps_names (b : Nat → Nat) (e : Nat) : Nat → Nat → Option (List ps_N)
  | 0, i => if i = e then some [] else none
  | n + 1, i =>
    if i = e then some [] else
    match ps_name b i e with
    | none => none
    | some (x, j) => match ps_names b e n j with
      | none => none
      | some l => some (x :: l)
/-- perhaps a list of 1 to 3 names -/
def ps_list (b : Nat → Nat) (tag i lim : Nat) : Option (List ps_N × Nat) :=
  if i < lim ∧ b i = tag then
    match ps_hd b tag i lim with
    | none => none
    | some (f, e) => if f = e then none else match ps_names b e 3 f with
      | none => none
      | some l => some (l, e)
  else some ([], i)
/-- how many bits lie behind the lowest one set, of the bits from k on; n bits are looked at -/
def ps_tz (x : Nat) : Nat → Nat → Nat
  | 0, k => k
  | n + 1, k => if x / 2 ^ k % 2 = 0 then ps_tz x n (k + 1) else k
/-- the lowest n bits, read backwards -/
def ps_mir (x : Nat) : Nat → Nat
  | 0 => 0
  | n + 1 => 2 * ps_mir x n + x / 2 ^ n % 2
/-- an element with this tag, its content being just that -/
def pq_in {α : Type} (b : Nat → Nat) (tag : Nat) (P : Nat → Nat → Option (α × Nat)) (i l : Nat) : Option (α × Nat) :=
  match ps_hd b tag i l with
  | none => none
  | some (f, e) => match P f e with
    | none => none
    | some (x, j) => if j = e then some (x, e) else none
/-- one behind the other -/
def pq_and {α β : Type} (P : Nat → Nat → Option (α × Nat)) (Q : Nat → Nat → Option (β × Nat)) (i l : Nat) : Option ((α × β) × Nat) :=
  match P i l with
  | none => none
  | some (x, j) => match Q j l with
    | none => none
    | some (y, k) => some ((x, y), k)
/-- with the places from .. to -/
def pq_pos {α : Type} (P : Nat → Nat → Option (α × Nat)) (i l : Nat) : Option ((α × Nat × Nat) × Nat) :=
  match P i l with
  | none => none
  | some (x, j) => some ((x, i, j), j)
/-- an INTEGER lo .. hi -/
def ps_intr (b : Nat → Nat) (lo hi i l : Nat) : Option (Nat × Nat) :=
  match ps_int b i l with
  | none => none
  | some (v, j) => if lo ≤ v ∧ v ≤ hi then some (v, j) else none
def ps_two (b : Nat → Nat) (lo hi lo' hi' : Nat) : Nat → Nat → Option ((Nat × Nat) × Nat) := pq_in b 48 (pq_and (ps_intr b lo hi) (ps_intr b lo' hi'))
/-- the two lists of bounds -/
def ps_bnd (b : Nat → Nat) (i l : Nat) : Option ((List ps_N × List ps_N) × Nat) :=
  match pq_and (ps_list b 160) (ps_list b 161) i l with
  | none => none
  | some ((p, x), j) => if p = [] ∧ x = [] then none else some ((p, x), j)
def ps_bounds (b : Nat → Nat) : Nat → Nat → Option ((List ps_N × List ps_N) × Nat) := pq_in b 48 (ps_bnd b)
/-- the bytes of BITS -/
def ps_bit (b : Nat → Nat) (i l : Nat) : Option (Nat × Nat) :=
  if i < l then
    if i + 1 < l then
      if b (i + 1) ≠ 0 ∧ b i = ps_tz (b (i + 1)) 8 0 then some (b (i + 1), i + 2) else none
    else if b i = 0 then some (0, i + 1) else none
  else none
def ps_bits (b : Nat → Nat) : Nat → Nat → Option (Nat × Nat) := pq_in b 3 (ps_bit b)
def ps_bas (b : Nat → Nat) (i l : Nat) : Option ((Bool × Option Nat) × Nat) :=
  match ps_tru b i l with
  | none => none
  | some (t, j) => if t = true ∧ j < l then (match ps_intr b 0 2147483647 j l with
      | none => none
      | some (v, k) => some ((t, some v), k))
    else some ((t, none), j)
def ps_basic (b : Nat → Nat) : Nat → Nat → Option ((Bool × Option Nat) × Nat) := pq_in b 48 (ps_bas b)
/-- what the extensions say: number, critical, octets of each; authority, reach, the byte of the usage, names permitted, names excluded -/
abbrev ps_E : Type := List (Nat × Bool × List Nat) × Bool × Option Nat × Option Nat × List ps_N × List ps_N
def ps_E0 : ps_E := ([], false, none, none, [], [])
def ps_or (r s : Option Nat) : Option Nat := match r with
  | some v => some v
  | none => s
/-- the content of the octets of an extension -/
def ps_con (b : Nat → Nat) (num : Nat) (c : Bool) (E : ps_E) (i l : Nat) : Option (ps_E × Nat) :=
  if num = 1 then
    match ps_basic b i l with
    | none => none
    | some ((t, r), k) => some ((E.1 ++ [(num, c, [])], t, ps_or r E.2.2.1, E.2.2.2), k)
  else if num = 2 then
    match ps_bits b i l with
    | none => none
    | some (u, k) => some ((E.1 ++ [(num, c, [])], E.2.1, E.2.2.1, some u, E.2.2.2.2), k)
  else if num = 3 then
    match ps_bounds b i l with
    | none => none
    | some ((p, x), k) => some ((E.1 ++ [(num, c, [])], E.2.1, E.2.2.1, E.2.2.2.1, p, x), k)
  else if l - i ≤ 20 then some ((E.1 ++ [(num, c, ps_sl b i l)], E.2), l) else none
/-- the content of an extension -/
def ps_exc (b : Nat → Nat) (E : ps_E) (i l : Nat) : Option (ps_E × Nat) :=
  match ps_intr b 0 255 i l with
  | none => none
  | some (num, j) =>
    if (E.1.any (fun x => x.1 == num)) = true then none else
    match ps_tru b j l with
    | none => none
    | some (c, k) => pq_in b 4 (ps_con b num c E) k l
def ps_ext (b : Nat → Nat) (E : ps_E) : Nat → Nat → Option (ps_E × Nat) := pq_in b 48 (ps_exc b E)
/-- extensions, one at least, at most n + 1 -/
def ps_exts (b : Nat → Nat) : Nat → ps_E → Nat → Nat → Option (ps_E × Nat)
  | 0, E, i, l => ps_ext b E i l
  | n + 1, E, i, l => match ps_ext b E i l with
    | none => none
    | some (E', j) => if j < l then ps_exts b n E' j l else some (E', j)
/-- perhaps a FOURTH -/
def ps_more (b : Nat → Nat) (i l : Nat) : Option (ps_E × Nat) :=
  if i < l ∧ b i = 163 then pq_in b 163 (pq_in b 48 (ps_exts b 3 ps_E0)) i l else some (ps_E0, i)
/-- serial, issuer, (from, to), subject, (modulus, exponent) -/
abbrev ps_H : Type := Nat × ps_N × (Nat × Nat) × ps_N × (Nat × Nat)
def ps_head (b : Nat → Nat) : Nat → Nat → Option (ps_H × Nat) := pq_and (ps_intr b 0 2147483647) (pq_and (ps_name b) (pq_and (ps_two b 0 2147483647 0 2147483647) (pq_and (ps_name b) (ps_two b 2 2147483647 1 1000))))
/-- ((head, extensions), the body's bytes from .. to), signature -/
abbrev ps_C : Type := ((ps_H × ps_E) × Nat × Nat) × Nat
def ps_crt (b : Nat → Nat) : Nat → Nat → Option (ps_C × Nat) := pq_in b 48 (pq_and (pq_pos (pq_in b 48 (pq_and (ps_head b) (ps_more b)))) (ps_intr b 0 2147483647))
/-- a certificate is all of the bytes i .. l - 1 -/
def ps_cert (b : Nat → Nat) (i l : Nat) : Option ps_C := match ps_crt b i l with
  | none => none
  | some (x, j) => if j = l then some x else none
def ps_hash (b : Nat → Nat) (f : Nat) : Nat → Nat
  | 0 => 0
  | n + 1 => (263 * ps_hash b f n + b (f + n) + 1) % 1000003
theorem ps_hash_lt (b : Nat → Nat) (f n : Nat) : ps_hash b f n < 1000003 := by
  cases n with
  | zero => simp [ps_hash]
  | succ n => exact Nat.mod_lt _ (by decide)
theorem ps_hd_some {b : Nat → Nat} {tag i lim f e : Nat} (h : ps_hd b tag i lim = some (f, e)) : i + 2 ≤ f ∧ f ≤ i + 3 ∧ f ≤ e ∧ e ≤ lim ∧ b i = tag ∧ i < lim := by
  unfold ps_hd at h
  repeat' split at h
  all_goals first
    | (cases h; done)
    | (simp only [Option.some.injEq, Prod.mk.injEq] at h; omega)
