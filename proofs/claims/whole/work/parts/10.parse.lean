/-! What the document calls an encoding, as functions of the bytes b, a place i and a limit: none where the bytes are wrong. -/
abbrev ps_N : Type := List (List Nat)
def ps_sl (b : Nat → Nat) (f g : Nat) : List Nat := (List.range (g - f)).map (fun j => b (f + j))
def ps_hd (b : Nat → Nat) (tag i lim : Nat) : Option (Nat × Nat) :=
  if i + 2 ≤ lim ∧ b i = tag then
    if b (i + 1) ≤ 127 then
      if i + 2 + b (i + 1) ≤ lim then some (i + 2, i + 2 + b (i + 1)) else none
    else if b (i + 1) = 129 ∧ i + 3 ≤ lim ∧ 128 ≤ b (i + 2) then
      if i + 3 + b (i + 2) ≤ lim then some (i + 3, i + 3 + b (i + 2)) else none
    else none
  else none
def ps_be (b : Nat → Nat) (f : Nat) : Nat → Nat
  | 0 => 0
  | n + 1 => 256 * ps_be b f n + b (f + n)
def ps_int (b : Nat → Nat) (i lim : Nat) : Option (Nat × Nat) :=
  match ps_hd b 2 i lim with
  | none => none
  | some (f, e) => if 1 ≤ e - f ∧ e - f ≤ 4 ∧ b f ≤ 127 ∧ ¬ (1 < e - f ∧ b f = 0 ∧ b (f + 1) < 128) then some (ps_be b f (e - f), e) else none
/-- perhaps TRUE -/
def ps_tru (b : Nat → Nat) (i lim : Nat) : Option (Bool × Nat) :=
  if i < lim ∧ b i = 1 then
    match ps_hd b 1 i lim with
    | none => none
    | some (f, e) => if e = f + 1 ∧ b f = 255 then some (true, e) else none
  else some (false, i)
def ps_abc (l : List Nat) : Bool := l.all (fun x => decide (97 ≤ x) && decide (x ≤ 122))
def ps_label (b : Nat → Nat) (i lim : Nat) : Option (List Nat × Nat) :=
  match ps_hd b 19 i lim with
  | none => none
  | some (f, g) => if 1 ≤ g - f ∧ g - f ≤ 8 ∧ ps_abc (ps_sl b f g) = true then some (ps_sl b f g, g) else none
/-- labels up to e, at most so many -/
def ps_labels (b : Nat → Nat) (e : Nat) : Nat → Nat → Option ps_N
  | 0, i => if i = e then some [] else none
  | n + 1, i =>
    if i = e then some [] else
    match ps_label b i e with
    | none => none
    | some (x, j) => match ps_labels b e n j with
      | none => none
      | some l => some (x :: l)
def ps_name (b : Nat → Nat) (i lim : Nat) : Option (ps_N × Nat) :=
  match ps_hd b 48 i lim with
  | none => none
  | some (f, e) => match ps_labels b e 4 f with
    | none => none
    | some l => some (l, e)
/-- names up to e, at most so many -/
def ps_names (b : Nat → Nat) (e : Nat) : Nat → Nat → Option (List ps_N)
  | 0, i => if i = e then some [] else none
  | n + 1, i =>
    if i = e then some [] else
    match ps_name b i e with
    | none => none
    | some (x, j) => match ps_names b e n j with
      | none => none
      | some l => some (x :: l)
/-- perhaps a list of 1 to 3 names -/
def ps_list (b : Nat → Nat) (tag i lim : Nat) : Option (List ps_N × Nat) :=
  if i < lim ∧ b i = tag then
    match ps_hd b tag i lim with
    | none => none
    | some (f, e) => if f = e then none else match ps_names b e 3 f with
      | none => none
      | some l => some (l, e)
  else some ([], i)
def ps_bounds (b : Nat → Nat) (i lim : Nat) : Option ((List ps_N × List ps_N) × Nat) :=
  match ps_hd b 48 i lim with
  | none => none
  | some (f, e) => match ps_list b 160 f e with
    | none => none
    | some (p, j) => match ps_list b 161 j e with
      | none => none
      | some (x, k) => if k = e ∧ ¬ (p = [] ∧ x = []) then some ((p, x), e) else none
/-- how many bits lie behind the lowest one set, of the bits from k on; n bits are looked at -/
def ps_tz (x : Nat) : Nat → Nat → Nat
  | 0, k => k
  | n + 1, k => if x / 2 ^ k % 2 = 0 then ps_tz x n (k + 1) else k
/-- the lowest n bits, read backwards -/
def ps_mir (x : Nat) : Nat → Nat
  | 0 => 0
  | n + 1 => 2 * ps_mir x n + x / 2 ^ n % 2
def ps_bits (b : Nat → Nat) (i lim : Nat) : Option (Nat × Nat) :=
  match ps_hd b 3 i lim with
  | none => none
  | some (f, e) =>
    if e = f + 1 ∧ b f = 0 then some (0, e)
    else if e = f + 2 ∧ b (f + 1) ≠ 0 ∧ b f = ps_tz (b (f + 1)) 8 0 then some (b (f + 1), e)
    else none
def ps_basic (b : Nat → Nat) (i lim : Nat) : Option ((Bool × Option Nat) × Nat) :=
  match ps_hd b 48 i lim with
  | none => none
  | some (f, e) => match ps_tru b f e with
    | none => none
    | some (t, j) =>
      if t = true ∧ j < e then
        match ps_int b j e with
        | none => none
        | some (v, k) => if k = e then some ((true, some v), e) else none
      else if j = e then some ((t, none), e) else none
/-- what the extensions say: number, critical, octets of each; authority, reach, the byte of the usage, names permitted, names excluded -/
abbrev ps_E : Type := List (Nat × Bool × List Nat) × Bool × Option Nat × Option Nat × List ps_N × List ps_N
def ps_E0 : ps_E := ([], false, none, none, [], [])
/-- the content of the octets of an extension -/
def ps_octets (b : Nat → Nat) (num : Nat) (c : Bool) (g h : Nat) (E : ps_E) : Option ps_E :=
  if num = 1 then
    match ps_basic b g h with
    | none => none
    | some ((t, r), k) => if k = h then some (E.1 ++ [(num, c, [])], t, r, E.2.2.2) else none
  else if num = 2 then
    match ps_bits b g h with
    | none => none
    | some (u, k) => if k = h then some (E.1 ++ [(num, c, [])], E.2.1, E.2.2.1, some u, E.2.2.2.2) else none
  else if num = 3 then
    match ps_bounds b g h with
    | none => none
    | some ((p, x), k) => if k = h then some (E.1 ++ [(num, c, [])], E.2.1, E.2.2.1, E.2.2.2.1, p, x) else none
  else if h - g ≤ 20 then some (E.1 ++ [(num, c, ps_sl b g h)], E.2) else none
def ps_ext (b : Nat → Nat) (i lim : Nat) (E : ps_E) : Option (ps_E × Nat) :=
  match ps_hd b 48 i lim with
  | none => none
  | some (f, e) => match ps_int b f e with
    | none => none
    | some (num, j) =>
      if 255 < num ∨ (E.1.any (fun x => x.1 == num)) = true then none else
      match ps_tru b j e with
      | none => none
      | some (c, k) => match ps_hd b 4 k e with
        | none => none
        | some (g, h) => match ps_octets b num c g h E with
          | none => none
          | some E' => if h = e then some (E', e) else none
/-- extensions up to e, at most so many -/
def ps_exts (b : Nat → Nat) (e : Nat) : Nat → Nat → ps_E → Option ps_E
  | 0, i, E => if i = e then some E else none
  | n + 1, i, E =>
    if i = e then some E else
    match ps_ext b i e E with
    | none => none
    | some (E', j) => ps_exts b e n j E'
/-- perhaps a FOURTH -/
def ps_more (b : Nat → Nat) (i lim : Nat) : Option (ps_E × Nat) :=
  if i < lim then
    match ps_hd b 163 i lim with
    | none => none
    | some (f, e) => match ps_hd b 48 f e with
      | none => none
      | some (g, h) => if g = h then none else match ps_exts b h 4 g ps_E0 with
        | none => none
        | some E => if h = e then some (E, e) else none
  else some (ps_E0, i)
/-- two INTEGERs in a SEQUENCE -/
def ps_two (b : Nat → Nat) (i lim : Nat) : Option ((Nat × Nat) × Nat) :=
  match ps_hd b 48 i lim with
  | none => none
  | some (f, e) => match ps_int b f e with
    | none => none
    | some (x, j) => match ps_int b j e with
      | none => none
      | some (y, k) => if k = e then some ((x, y), e) else none
/-- serial, issuer, (from, to), subject, (modulus, exponent) -/
abbrev ps_H : Type := Nat × ps_N × (Nat × Nat) × ps_N × (Nat × Nat)
def ps_head (b : Nat → Nat) (i lim : Nat) : Option (ps_H × Nat) :=
  match ps_int b i lim with
  | none => none
  | some (se, j) => match ps_name b j lim with
    | none => none
    | some (is, k) => match ps_two b k lim with
      | none => none
      | some (ft, m) => match ps_name b m lim with
        | none => none
        | some (su, n) => match ps_two b n lim with
          | none => none
          | some (me, o) => if 2 ≤ me.1 ∧ 1 ≤ me.2 ∧ me.2 ≤ 1000 then some ((se, is, ft, su, me), o) else none
/-- head, extensions, signature, the body's bytes from .. to -/
abbrev ps_C : Type := ps_H × ps_E × Nat × Nat × Nat
def ps_cert (b : Nat → Nat) (i lim : Nat) : Option ps_C :=
  match ps_hd b 48 i lim with
  | none => none
  | some (f, e) => match ps_hd b 48 f e with
    | none => none
    | some (g, h) => match ps_head b g h with
      | none => none
      | some (H, j) => match ps_more b j h with
        | none => none
        | some (E, k) => if k = h then
            match ps_int b h e with
            | none => none
            | some (sg, m) => if m = e ∧ e = lim then some (H, E, sg, f, h) else none
          else none
def ps_hash (b : Nat → Nat) (f : Nat) : Nat → Nat
  | 0 => 0
  | n + 1 => (263 * ps_hash b f n + b (f + n) + 1) % 1000003
theorem ps_hash_lt (b : Nat → Nat) (f n : Nat) : ps_hash b f n < 1000003 := by
  cases n with
  | zero => simp [ps_hash]
  | succ n => exact Nat.mod_lt _ (by decide)
theorem ps_hd_some {b : Nat → Nat} {tag i lim f e : Nat} (h : ps_hd b tag i lim = some (f, e)) : i + 2 ≤ f ∧ f ≤ i + 3 ∧ f ≤ e ∧ e ≤ lim ∧ b i = tag ∧ i < lim := by
  unfold ps_hd at h
  repeat' split at h
  all_goals first
    | (cases h; done)
    | (simp only [Option.some.injEq, Prod.mk.injEq] at h; omega)
