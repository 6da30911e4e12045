/-! names: classes and their fields in the order of the slots; methods; the shape of the whole memory -/
def tk_CP : u_T := fun k => match k with
  | 0 => ("CertificatePath", "reader", "LCertificatePath$Reader;", true)
  | 1 => ("CertificatePath", "buffer", "LCertificatePath$ByteRow;", true)
  | 2 => ("CertificatePath", "certificates", "[LCertificatePath$Certificate;", true)
  | 3 => ("CertificatePath", "kept", "I", false)
  | 4 => ("CertificatePath", "path", "[I", true)
  | _ => ("CertificatePath", "linked", "I", false)
def ty_CP : Nat → FieldType := fun k => match k with
  | 0 => .object "CertificatePath$Reader"
  | 1 => .object "CertificatePath$ByteRow"
  | 2 => .array (.object "CertificatePath$Certificate")
  | 3 => .int
  | 4 => .array .int
  | _ => .int
theorem tn_CP : ∀ a, a < 6 → ∀ b, b < 6 → a ≠ b → (tk_CP a).2.1 ≠ (tk_CP b).2.1 := by decide +kernel
theorem to_CP : ∀ k, k < 6 → parseFieldDescriptor (tk_CP k).2.2.1 = some (ty_CP k) := by decide +kernel
def tk_RD : u_T := fun k => match k with
  | 0 => ("CertificatePath$Reader", "row", "LCertificatePath$ByteRow;", true)
  | 1 => ("CertificatePath$Reader", "ends", "[I", true)
  | 2 => ("CertificatePath$Reader", "depth", "I", false)
  | 3 => ("CertificatePath$Reader", "at", "I", false)
  | _ => ("CertificatePath$Reader", "sound", "Z", false)
def ty_RD : Nat → FieldType := fun k => match k with
  | 0 => .object "CertificatePath$ByteRow"
  | 1 => .array .int
  | 2 => .int
  | 3 => .int
  | _ => .boolean
theorem tn_RD : ∀ a, a < 5 → ∀ b, b < 5 → a ≠ b → (tk_RD a).2.1 ≠ (tk_RD b).2.1 := by decide +kernel
theorem to_RD : ∀ k, k < 5 → parseFieldDescriptor (tk_RD k).2.2.1 = some (ty_RD k) := by decide +kernel
def tk_BR : u_T := fun k => match k with
  | 0 => ("CertificatePath$ByteRow", "bytes", "[I", true)
  | _ => ("CertificatePath$ByteRow", "size", "I", false)
def ty_BR : Nat → FieldType := fun k => match k with
  | 0 => .array .int
  | _ => .int
theorem tn_BR : ∀ a, a < 2 → ∀ b, b < 2 → a ≠ b → (tk_BR a).2.1 ≠ (tk_BR b).2.1 := by decide +kernel
theorem to_BR : ∀ k, k < 2 → parseFieldDescriptor (tk_BR k).2.2.1 = some (ty_BR k) := by decide +kernel
def tk_NM : u_T := fun k => match k with
  | 0 => ("CertificatePath$Name", "labels", "[J", true)
  | _ => ("CertificatePath$Name", "size", "I", false)
def ty_NM : Nat → FieldType := fun k => match k with
  | 0 => .array .long
  | _ => .int
theorem tn_NM : ∀ a, a < 2 → ∀ b, b < 2 → a ≠ b → (tk_NM a).2.1 ≠ (tk_NM b).2.1 := by decide +kernel
theorem to_NM : ∀ k, k < 2 → parseFieldDescriptor (tk_NM k).2.2.1 = some (ty_NM k) := by decide +kernel
def tk_NL : u_T := fun k => match k with
  | 0 => ("CertificatePath$NameList", "names", "[LCertificatePath$Name;", true)
  | _ => ("CertificatePath$NameList", "size", "I", false)
def ty_NL : Nat → FieldType := fun k => match k with
  | 0 => .array (.object "CertificatePath$Name")
  | _ => .int
theorem tn_NL : ∀ a, a < 2 → ∀ b, b < 2 → a ≠ b → (tk_NL a).2.1 ≠ (tk_NL b).2.1 := by decide +kernel
theorem to_NL : ∀ k, k < 2 → parseFieldDescriptor (tk_NL k).2.2.1 = some (ty_NL k) := by decide +kernel
def tk_EX : u_T := fun k => match k with
  | 0 => ("CertificatePath$Extension", "number", "I", false)
  | 1 => ("CertificatePath$Extension", "critical", "Z", false)
  | 2 => ("CertificatePath$Extension", "octets", "[I", true)
  | _ => ("CertificatePath$Extension", "size", "I", false)
def ty_EX : Nat → FieldType := fun k => match k with
  | 0 => .int
  | 1 => .boolean
  | 2 => .array .int
  | _ => .int
theorem tn_EX : ∀ a, a < 4 → ∀ b, b < 4 → a ≠ b → (tk_EX a).2.1 ≠ (tk_EX b).2.1 := by decide +kernel
theorem to_EX : ∀ k, k < 4 → parseFieldDescriptor (tk_EX k).2.2.1 = some (ty_EX k) := by decide +kernel
def tk_CT : u_T := fun k => match k with
  | 0 => ("CertificatePath$Certificate", "serial", "I", false)
  | 1 => ("CertificatePath$Certificate", "issuer", "LCertificatePath$Name;", true)
  | 2 => ("CertificatePath$Certificate", "from", "I", false)
  | 3 => ("CertificatePath$Certificate", "to", "I", false)
  | 4 => ("CertificatePath$Certificate", "subject", "LCertificatePath$Name;", true)
  | 5 => ("CertificatePath$Certificate", "modulus", "I", false)
  | 6 => ("CertificatePath$Certificate", "exponent", "I", false)
  | 7 => ("CertificatePath$Certificate", "signature", "I", false)
  | 8 => ("CertificatePath$Certificate", "bodyHash", "I", false)
  | 9 => ("CertificatePath$Certificate", "extensions", "[LCertificatePath$Extension;", true)
  | 10 => ("CertificatePath$Certificate", "extensionCount", "I", false)
  | 11 => ("CertificatePath$Certificate", "authority", "Z", false)
  | 12 => ("CertificatePath$Certificate", "reach", "I", false)
  | 13 => ("CertificatePath$Certificate", "usage", "I", false)
  | 14 => ("CertificatePath$Certificate", "permitted", "LCertificatePath$NameList;", true)
  | _ => ("CertificatePath$Certificate", "excluded", "LCertificatePath$NameList;", true)
def ty_CT : Nat → FieldType := fun k => match k with
  | 0 => .int
  | 1 => .object "CertificatePath$Name"
  | 2 => .int
  | 3 => .int
  | 4 => .object "CertificatePath$Name"
  | 5 => .int
  | 6 => .int
  | 7 => .int
  | 8 => .int
  | 9 => .array (.object "CertificatePath$Extension")
  | 10 => .int
  | 11 => .boolean
  | 12 => .int
  | 13 => .int
  | 14 => .object "CertificatePath$NameList"
  | _ => .object "CertificatePath$NameList"
theorem tn_CT : ∀ a, a < 16 → ∀ b, b < 16 → a ≠ b → (tk_CT a).2.1 ≠ (tk_CT b).2.1 := by decide +kernel
theorem to_CT : ∀ k, k < 16 → parseFieldDescriptor (tk_CT k).2.2.1 = some (ty_CT k) := by decide +kernel
def tk_MD : u_T := fun k => match k with
  | 0 => ("CertificatePathModel", "data", "[I", false)
  | 1 => ("CertificatePathModel", "size", "I", false)
  | 2 => ("CertificatePathModel", "count", "I", false)
  | 3 => ("CertificatePathModel", "sizes", "[I", false)
  | 4 => ("CertificatePathModel", "path", "[I", false)
  | 5 => ("CertificatePathModel", "links", "I", false)
  | 6 => ("CertificatePathModel", "at", "I", false)
  | 7 => ("CertificatePathModel", "wrong", "Z", false)
  | 8 => ("CertificatePathModel", "serial", "I", false)
  | 9 => ("CertificatePathModel", "since", "I", false)
  | 10 => ("CertificatePathModel", "until", "I", false)
  | 11 => ("CertificatePathModel", "modulus", "I", false)
  | 12 => ("CertificatePathModel", "exponent", "I", false)
  | 13 => ("CertificatePathModel", "signature", "I", false)
  | 14 => ("CertificatePathModel", "bodyFrom", "I", false)
  | 15 => ("CertificatePathModel", "bodyTo", "I", false)
  | 16 => ("CertificatePathModel", "nameFrom", "I", false)
  | 17 => ("CertificatePathModel", "nameTo", "I", false)
  | 18 => ("CertificatePathModel", "labels", "I", false)
  | 19 => ("CertificatePathModel", "issuerFrom", "I", false)
  | 20 => ("CertificatePathModel", "issuerTo", "I", false)
  | 21 => ("CertificatePathModel", "issuerLabels", "I", false)
  | 22 => ("CertificatePathModel", "subjectFrom", "I", false)
  | 23 => ("CertificatePathModel", "subjectTo", "I", false)
  | 24 => ("CertificatePathModel", "subjectLabels", "I", false)
  | 25 => ("CertificatePathModel", "extensions", "I", false)
  | 26 => ("CertificatePathModel", "numbers", "[I", false)
  | 27 => ("CertificatePathModel", "strange", "Z", false)
  | 28 => ("CertificatePathModel", "basic", "Z", false)
  | 29 => ("CertificatePathModel", "authority", "Z", false)
  | 30 => ("CertificatePathModel", "reach", "I", false)
  | 31 => ("CertificatePathModel", "usage", "I", false)
  | 32 => ("CertificatePathModel", "permitted", "I", false)
  | 33 => ("CertificatePathModel", "permittedFrom", "I", false)
  | 34 => ("CertificatePathModel", "permittedTo", "I", false)
  | 35 => ("CertificatePathModel", "excluded", "I", false)
  | 36 => ("CertificatePathModel", "excludedFrom", "I", false)
  | 37 => ("CertificatePathModel", "excludedTo", "I", false)
  | 38 => ("CertificatePathModel", "keyModulus", "I", false)
  | 39 => ("CertificatePathModel", "keyExponent", "I", false)
  | 40 => ("CertificatePathModel", "holderFrom", "I", false)
  | 41 => ("CertificatePathModel", "holderTo", "I", false)
  | _ => ("CertificatePathModel", "rest", "I", false)
def ty_MD : Nat → FieldType := fun k => match k with
  | 0 => .array .int
  | 1 => .int
  | 2 => .int
  | 3 => .array .int
  | 4 => .array .int
  | 5 => .int
  | 6 => .int
  | 7 => .boolean
  | 8 => .int
  | 9 => .int
  | 10 => .int
  | 11 => .int
  | 12 => .int
  | 13 => .int
  | 14 => .int
  | 15 => .int
  | 16 => .int
  | 17 => .int
  | 18 => .int
  | 19 => .int
  | 20 => .int
  | 21 => .int
  | 22 => .int
  | 23 => .int
  | 24 => .int
  | 25 => .int
  | 26 => .array .int
  | 27 => .boolean
  | 28 => .boolean
  | 29 => .boolean
  | 30 => .int
  | 31 => .int
  | 32 => .int
  | 33 => .int
  | 34 => .int
  | 35 => .int
  | 36 => .int
  | 37 => .int
  | 38 => .int
  | 39 => .int
  | 40 => .int
  | 41 => .int
  | _ => .int
theorem tn_MD : ∀ a, a < 43 → ∀ b, b < 43 → a ≠ b → (tk_MD a).2.1 ≠ (tk_MD b).2.1 := by decide +kernel
theorem to_MD : ∀ k, k < 43 → parseFieldDescriptor (tk_MD k).2.2.1 = some (ty_MD k) := by decide +kernel
abbrev xw_Cl : List vw_C := [("CertificatePath", tk_CP, 6), ("CertificatePath$Reader", tk_RD, 5), ("CertificatePath$ByteRow", tk_BR, 2), ("CertificatePath$Name", tk_NM, 2), ("CertificatePath$NameList", tk_NL, 2), ("CertificatePath$Extension", tk_EX, 4), ("CertificatePath$Certificate", tk_CT, 16), ("CertificatePathModel", tk_MD, 43)]
abbrev xm_M : Type := Nat → Nat → Nat
def xm_set (M : xm_M) (p k v : Nat) : xm_M := fun q j => if q = p then (if j = k then v else M q j) else M q j
abbrev xl_L : Type := Nat → Nat → Option Nat
def xl_set (l : xl_L) (p k : Nat) (v : Option Nat) : xl_L := fun q j => if q = p then (if j = k then v else l q j) else l q j
/-- the slots that hold references -/
def xw_rk (c k : Nat) : Bool := match c with
  | 0 => k == 0 || k == 1 || k == 2 || k == 4
  | 1 => k == 0 || k == 1
  | 2 => k == 0
  | 3 => k == 0
  | 4 => k == 0
  | 5 => k == 2
  | 6 => k == 1 || k == 4 || k == 9 || k == 14 || k == 15
  | _ => k == 0 || k == 3 || k == 4 || k == 26
/-- a place within a certificate: its kind -/
def xw_Kc (j : Nat) : Nat × Nat × Nat :=
  if j = 0 then (0, 6, 16) else if j = 5 then (3, 4, 4) else
  if j = 1 ∨ j = 3 then (0, 3, 2) else if j = 2 ∨ j = 4 then (2, 1, 4) else
  if j < 14 then (if j % 2 = 0 then (0, 5, 4) else (1, 0, 20)) else
  if j = 14 ∨ j = 22 then (0, 4, 2) else if j = 15 ∨ j = 23 then (3, 3, 3) else
  if j % 2 = 0 then (0, 3, 2) else (2, 1, 4)
/-- what a place is: (0, class, slots) an object; (1, 0, n), (2, 1, n), (3, t, n) an array of ints, longs, references -/
def xw_K (q : Nat) : Nat × Nat × Nat :=
  if q < 6 then (match q with
    | 0 => (0, 0, 6)
    | 1 => (0, 1, 5)
    | 2 => (0, 2, 2)
    | 3 => (1, 0, 160)
    | 4 => (1, 0, 11)
    | _ => (3, 2, 9))
  else if q < 276 then xw_Kc ((q - 6) % 30)
  else match q with
    | 276 => (1, 0, 6)
    | 277 => (0, 7, 43)
    | 278 => (1, 0, 1440)
    | 279 => (1, 0, 8)
    | 280 => (1, 0, 6)
    | _ => (1, 0, 4)
def xw_N : Nat := 282
def xw_A2 : String := "CertificatePath$Certificate"
def xw_A3 : String := "CertificatePath$Name"
def xw_A4 : String := "CertificatePath$Extension"
/-- where the references lead, within a certificate at place q, offset j -/
def xw_lc (q j k : Nat) : Option Nat :=
  if j = 0 then (match k with
    | 1 => some (q + 1)
    | 4 => some (q + 3)
    | 9 => some (q + 5)
    | 14 => some (q + 14)
    | 15 => some (q + 22)
    | _ => none)
  else if j = 5 then (if k < 4 then some (q + 1 + 2 * k) else none)
  else if j = 15 ∨ j = 23 then (if k < 3 then some (q + 1 + 2 * k) else none)
  else if 6 ≤ j ∧ j < 14 then (if k = 2 then some (q + 1) else none)
  else (if k = 0 then some (q + 1) else none)
def xw_lk : xl_L := fun q k =>
  if q < 6 then (match q with
    | 0 => (match k with
      | 0 => some 1
      | 1 => some 2
      | 2 => some 5
      | 4 => some 276
      | _ => none)
    | 1 => (match k with
      | 0 => some 2
      | 1 => some 4
      | _ => none)
    | 2 => (match k with
      | 0 => some 3
      | _ => none)
    | 5 => if k < 9 then some (6 + 30 * k) else none
    | _ => none)
  else if q < 276 then xw_lc q ((q - 6) % 30) k
  else if q = 277 then (match k with
    | 0 => some 278
    | 3 => some 279
    | 4 => some 280
    | 26 => some 281
    | _ => none)
  else none
def xw_isN : Cond → Bool
  | .fieldLinkNest .. => true
  | .methodLinkNest .. => true
  | _ => false
def xw_W : List Cond := lw_tbl.filter goodWord
def xw_NW : List Cond := lw_tbl.filter xw_isN
theorem xw_good : GoodIn xw_W xw_W := fun w hw => ⟨hw, good_of_word (List.mem_filter.mp hw).2⟩
theorem xw_NWf : ∀ w ∈ xw_NW, (∃ (a : String) (i : Nat) (b n d h : String), w = .fieldLinkNest a i b n d h) ∨ ∃ (a : String) (i : Nat) (x : MethodName) (h : String), w = .methodLinkNest a i x h := by
  intro w hw
  have h := (List.mem_filter.mp hw).2
  cases w <;> first | (simp [xw_isN] at h; done) | exact Or.inl ⟨_, _, _, _, _, _, rfl⟩ | exact Or.inr ⟨_, _, _, _, rfl⟩
theorem xw_NWt : ∀ w ∈ xw_NW, w.onTables = true := by
  intro w hw
  rcases xw_NWf w hw with ⟨a, i, b, n, d, h, rfl⟩ | ⟨a, i, x, h, rfl⟩ <;> rfl
theorem xw_in {w : Cond} (i : Nat) (h : tables_1[i]? = some w) (hg : goodWord w = true) : w ∈ xw_W := List.mem_filter.mpr ⟨List.mem_append_right _ (List.mem_of_getElem? h), hg⟩
theorem xw_inP {w : Cond} (i : Nat) (h : (k2_sels lw_privs)[i]? = some w) (hg : goodWord w = true) : w ∈ xw_W := List.mem_filter.mpr ⟨List.mem_append_left _ (List.mem_of_getElem? h), hg⟩
theorem xw_inN {w : Cond} (i : Nat) (h : tables_1[i]? = some w) (hg : xw_isN w = true) : w ∈ xw_NW := List.mem_filter.mpr ⟨List.mem_append_right _ (List.mem_of_getElem? h), hg⟩
abbrev xc_q : Type := MethodName × ByteArray × Nat × Option FieldType
abbrev qm_CP_init : xc_q := (⟨"CertificatePath", "<init>", "()V"⟩, prog_1_method_1_code, 2, none)
abbrev qm_RD_init : xc_q := (⟨"CertificatePath$Reader", "<init>", "()V"⟩, prog_7_method_1_code, 1, none)
abbrev qm_BR_init : xc_q := (⟨"CertificatePath$ByteRow", "<init>", "()V"⟩, prog_2_method_1_code, 1, none)
abbrev qm_CT_init : xc_q := (⟨"CertificatePath$Certificate", "<init>", "()V"⟩, prog_3_method_1_code, 2, none)
abbrev qm_NM_init : xc_q := (⟨"CertificatePath$Name", "<init>", "()V"⟩, prog_5_method_1_code, 1, none)
abbrev qm_EX_init : xc_q := (⟨"CertificatePath$Extension", "<init>", "()V"⟩, prog_4_method_1_code, 1, none)
abbrev qm_NL_init : xc_q := (⟨"CertificatePath$NameList", "<init>", "()V"⟩, prog_6_method_1_code, 2, none)
abbrev qm_CT_forgetExtensions : xc_q := (⟨"CertificatePath$Certificate", "forgetExtensions", "()V"⟩, prog_3_method_2_code, 1, none)
abbrev qm_CP_feed : xc_q := (⟨"CertificatePath", "feed", "(II)Z"⟩, prog_1_method_2_code, 4, (some .boolean))
abbrev qm_BR_append : xc_q := (⟨"CertificatePath$ByteRow", "append", "(I)I"⟩, prog_2_method_4_code, 2, (some .int))
abbrev qm_CP_set : xc_q := (⟨"CertificatePath", "set", "(II)Z"⟩, prog_1_method_3_code, 3, (some .boolean))
abbrev qm_BR_has : xc_q := (⟨"CertificatePath$ByteRow", "has", "(I)Z"⟩, prog_2_method_2_code, 2, (some .boolean))
abbrev qm_CP_trim : xc_q := (⟨"CertificatePath", "trim", "(I)Z"⟩, prog_1_method_4_code, 2, (some .boolean))
abbrev qm_CP_length : xc_q := (⟨"CertificatePath", "length", "()I"⟩, prog_1_method_5_code, 1, (some .int))
abbrev qm_CP_byteAt : xc_q := (⟨"CertificatePath", "byteAt", "(I)I"⟩, prog_1_method_6_code, 2, (some .int))
abbrev qm_CP_hash : xc_q := (⟨"CertificatePath", "hash", "(II)I"⟩, prog_1_method_7_code, 3, (some .int))
abbrev qm_BR_hashBetween : xc_q := (⟨"CertificatePath$ByteRow", "hashBetween", "(II)I"⟩, prog_2_method_3_code, 5, (some .int))
abbrev qm_CP_accept : xc_q := (⟨"CertificatePath", "accept", "()I"⟩, prog_1_method_8_code, 1, (some .int))
abbrev qm_CT_readFrom : xc_q := (⟨"CertificatePath$Certificate", "readFrom", "(LCertificatePath$Reader;)Z"⟩, prog_3_method_11_code, 3, (some .boolean))
abbrev qm_RD_start : xc_q := (⟨"CertificatePath$Reader", "start", "()V"⟩, prog_7_method_2_code, 1, none)
abbrev qm_RD_open : xc_q := (⟨"CertificatePath$Reader", "open", "(I)V"⟩, prog_7_method_9_code, 5, none)
abbrev qm_CT_readHead : xc_q := (⟨"CertificatePath$Certificate", "readHead", "(LCertificatePath$Reader;)V"⟩, prog_3_method_12_code, 2, none)
abbrev qm_RD_readInteger : xc_q := (⟨"CertificatePath$Reader", "readInteger", "(II)I"⟩, prog_7_method_11_code, 8, (some .int))
abbrev qm_RD_remaining : xc_q := (⟨"CertificatePath$Reader", "remaining", "()I"⟩, prog_7_method_5_code, 1, (some .int))
abbrev qm_RD_refuse : xc_q := (⟨"CertificatePath$Reader", "refuse", "()V"⟩, prog_7_method_3_code, 1, none)
abbrev qm_RD_readByte : xc_q := (⟨"CertificatePath$Reader", "readByte", "()I"⟩, prog_7_method_8_code, 1, (some .int))
abbrev qm_RD_close : xc_q := (⟨"CertificatePath$Reader", "close", "()V"⟩, prog_7_method_10_code, 1, none)
abbrev qm_NM_readFrom : xc_q := (⟨"CertificatePath$Name", "readFrom", "(LCertificatePath$Reader;)V"⟩, prog_5_method_4_code, 6, none)
abbrev qm_RD_nextIs : xc_q := (⟨"CertificatePath$Reader", "nextIs", "(I)Z"⟩, prog_7_method_7_code, 2, (some .boolean))
abbrev qm_CT_readExtension : xc_q := (⟨"CertificatePath$Certificate", "readExtension", "(LCertificatePath$Reader;LCertificatePath$Extension;)V"⟩, prog_3_method_13_code, 4, none)
abbrev qm_CT_hasExtension : xc_q := (⟨"CertificatePath$Certificate", "hasExtension", "(I)Z"⟩, prog_3_method_14_code, 3, (some .boolean))
abbrev qm_RD_readTrueIfThere : xc_q := (⟨"CertificatePath$Reader", "readTrueIfThere", "()Z"⟩, prog_7_method_12_code, 1, (some .boolean))
abbrev qm_CT_readBasic : xc_q := (⟨"CertificatePath$Certificate", "readBasic", "(LCertificatePath$Reader;)V"⟩, prog_3_method_15_code, 2, none)
abbrev qm_CT_readUsage : xc_q := (⟨"CertificatePath$Certificate", "readUsage", "(LCertificatePath$Reader;)V"⟩, prog_3_method_16_code, 4, none)
abbrev qm_CT_zerosBehind : xc_q := (⟨"CertificatePath$Certificate", "zerosBehind", "(I)I"⟩, prog_3_method_25_code, 2, (some .int))
abbrev qm_CT_mirrored : xc_q := (⟨"CertificatePath$Certificate", "mirrored", "(I)I"⟩, prog_3_method_24_code, 3, (some .int))
abbrev qm_CT_readBounds : xc_q := (⟨"CertificatePath$Certificate", "readBounds", "(LCertificatePath$Reader;)V"⟩, prog_3_method_17_code, 2, none)
abbrev qm_NL_readIfThere : xc_q := (⟨"CertificatePath$NameList", "readIfThere", "(LCertificatePath$Reader;I)V"⟩, prog_6_method_3_code, 3, none)
abbrev qm_EX_readOctets : xc_q := (⟨"CertificatePath$Extension", "readOctets", "(LCertificatePath$Reader;)V"⟩, prog_4_method_3_code, 3, none)
abbrev qm_RD_hashSince : xc_q := (⟨"CertificatePath$Reader", "hashSince", "(I)I"⟩, prog_7_method_6_code, 2, (some .int))
abbrev qm_RD_isAtEndOfRow : xc_q := (⟨"CertificatePath$Reader", "isAtEndOfRow", "()Z"⟩, prog_7_method_4_code, 1, (some .boolean))
abbrev qm_CP_count : xc_q := (⟨"CertificatePath", "count", "()I"⟩, prog_1_method_9_code, 1, (some .int))
abbrev qm_CP_field : xc_q := (⟨"CertificatePath", "field", "(II)I"⟩, prog_1_method_10_code, 3, (some .int))
abbrev qm_CP_isKept : xc_q := (⟨"CertificatePath", "isKept", "(I)Z"⟩, prog_1_method_18_code, 2, (some .boolean))
abbrev qm_CT_fieldNumbered : xc_q := (⟨"CertificatePath$Certificate", "fieldNumbered", "(I)I"⟩, prog_3_method_3_code, 2, (some .int))
abbrev qm_CP_within : xc_q := (⟨"CertificatePath", "within", "(IZIZ)Z"⟩, prog_1_method_11_code, 5, (some .boolean))
abbrev qm_CP_nameOf : xc_q := (⟨"CertificatePath", "nameOf", "(IZ)LCertificatePath$Name;"⟩, prog_1_method_19_code, 3, (some (.object "CertificatePath$Name")))
abbrev qm_NM_isWithin : xc_q := (⟨"CertificatePath$Name", "isWithin", "(LCertificatePath$Name;)Z"⟩, prog_5_method_2_code, 3, (some .boolean))
abbrev qm_CP_recode : xc_q := (⟨"CertificatePath", "recode", "(I)I"⟩, prog_1_method_12_code, 2, (some .int))
abbrev qm_CT_writeTo : xc_q := (⟨"CertificatePath$Certificate", "writeTo", "(LCertificatePath$ByteRow;)V"⟩, prog_3_method_18_code, 7, none)
abbrev qm_CT_writeHead : xc_q := (⟨"CertificatePath$Certificate", "writeHead", "(LCertificatePath$ByteRow;)V"⟩, prog_3_method_19_code, 4, none)
abbrev qm_BR_appendInteger : xc_q := (⟨"CertificatePath$ByteRow", "appendInteger", "(I)V"⟩, prog_2_method_6_code, 5, none)
abbrev qm_BR_insertLength : xc_q := (⟨"CertificatePath$ByteRow", "insertLength", "(I)V"⟩, prog_2_method_5_code, 5, none)
abbrev qm_NM_writeTo : xc_q := (⟨"CertificatePath$Name", "writeTo", "(LCertificatePath$ByteRow;)V"⟩, prog_5_method_5_code, 7, none)
abbrev qm_CT_writeExtension : xc_q := (⟨"CertificatePath$Certificate", "writeExtension", "(LCertificatePath$ByteRow;LCertificatePath$Extension;)V"⟩, prog_3_method_20_code, 5, none)
abbrev qm_BR_appendTrue : xc_q := (⟨"CertificatePath$ByteRow", "appendTrue", "()V"⟩, prog_2_method_7_code, 2, none)
abbrev qm_CT_writeBasic : xc_q := (⟨"CertificatePath$Certificate", "writeBasic", "(LCertificatePath$ByteRow;)V"⟩, prog_3_method_21_code, 3, none)
abbrev qm_CT_writeUsage : xc_q := (⟨"CertificatePath$Certificate", "writeUsage", "(LCertificatePath$ByteRow;)V"⟩, prog_3_method_22_code, 4, none)
abbrev qm_CT_writeBounds : xc_q := (⟨"CertificatePath$Certificate", "writeBounds", "(LCertificatePath$ByteRow;)V"⟩, prog_3_method_23_code, 3, none)
abbrev qm_NL_writeIfThere : xc_q := (⟨"CertificatePath$NameList", "writeIfThere", "(LCertificatePath$ByteRow;I)V"⟩, prog_6_method_4_code, 5, none)
abbrev qm_EX_writeOctets : xc_q := (⟨"CertificatePath$Extension", "writeOctets", "(LCertificatePath$ByteRow;)V"⟩, prog_4_method_4_code, 3, none)
abbrev qm_CP_link : xc_q := (⟨"CertificatePath", "link", "(I)Z"⟩, prog_1_method_13_code, 2, (some .boolean))
abbrev qm_CP_unlink : xc_q := (⟨"CertificatePath", "unlink", "()Z"⟩, prog_1_method_14_code, 1, (some .boolean))
abbrev qm_CP_links : xc_q := (⟨"CertificatePath", "links", "()I"⟩, prog_1_method_15_code, 1, (some .int))
abbrev qm_CP_check : xc_q := (⟨"CertificatePath", "check", "(III)I"⟩, prog_1_method_16_code, 10, (some .int))
abbrev qm_CP_brokenAnywhere : xc_q := (⟨"CertificatePath", "brokenAnywhere", "(LCertificatePath$Certificate;II)I"⟩, prog_1_method_20_code, 6, (some .int))
abbrev qm_CT_isSignedBy : xc_q := (⟨"CertificatePath$Certificate", "isSignedBy", "(II)Z"⟩, prog_3_method_5_code, 8, (some .boolean))
abbrev qm_NM_isSameAs : xc_q := (⟨"CertificatePath$Name", "isSameAs", "(LCertificatePath$Name;)Z"⟩, prog_5_method_3_code, 2, (some .boolean))
abbrev qm_CT_isSelfIssued : xc_q := (⟨"CertificatePath$Certificate", "isSelfIssued", "()Z"⟩, prog_3_method_4_code, 1, (some .boolean))
abbrev qm_CP_isWithinBoundsBefore : xc_q := (⟨"CertificatePath", "isWithinBoundsBefore", "(I)Z"⟩, prog_1_method_21_code, 4, (some .boolean))
abbrev qm_CT_allows : xc_q := (⟨"CertificatePath$Certificate", "allows", "(LCertificatePath$Name;)Z"⟩, prog_3_method_7_code, 2, (some .boolean))
abbrev qm_NL_covers : xc_q := (⟨"CertificatePath$NameList", "covers", "(LCertificatePath$Name;)Z"⟩, prog_6_method_2_code, 3, (some .boolean))
abbrev qm_CT_hasUnknownCritical : xc_q := (⟨"CertificatePath$Certificate", "hasUnknownCritical", "()Z"⟩, prog_3_method_6_code, 2, (some .boolean))
abbrev qm_EX_isKnown : xc_q := (⟨"CertificatePath$Extension", "isKnown", "()Z"⟩, prog_4_method_2_code, 1, (some .boolean))
abbrev qm_CT_brokenAsLast : xc_q := (⟨"CertificatePath$Certificate", "brokenAsLast", "(I)I"⟩, prog_3_method_9_code, 2, (some .int))
abbrev qm_CT_brokenAsHolder : xc_q := (⟨"CertificatePath$Certificate", "brokenAsHolder", "(I)I"⟩, prog_3_method_8_code, 2, (some .int))
abbrev qm_CT_restBehind : xc_q := (⟨"CertificatePath$Certificate", "restBehind", "(I)I"⟩, prog_3_method_10_code, 3, (some .int))
abbrev qm_CP_reset : xc_q := (⟨"CertificatePath", "reset", "()V"⟩, prog_1_method_17_code, 1, none)
abbrev qm_MD_init : xc_q := (⟨"CertificatePathModel", "<init>", "()V"⟩, prog_9_method_1_code, 1, none)
abbrev qm_MD_feed : xc_q := (⟨"CertificatePathModel", "feed", "(II)Z"⟩, prog_9_method_2_code, 4, (some .boolean))
abbrev qm_MD_set : xc_q := (⟨"CertificatePathModel", "set", "(II)Z"⟩, prog_9_method_3_code, 3, (some .boolean))
abbrev qm_MD_trim : xc_q := (⟨"CertificatePathModel", "trim", "(I)Z"⟩, prog_9_method_4_code, 2, (some .boolean))
abbrev qm_MD_length : xc_q := (⟨"CertificatePathModel", "length", "()I"⟩, prog_9_method_5_code, 1, (some .int))
abbrev qm_MD_byteAt : xc_q := (⟨"CertificatePathModel", "byteAt", "(I)I"⟩, prog_9_method_6_code, 2, (some .int))
abbrev qm_MD_hash : xc_q := (⟨"CertificatePathModel", "hash", "(II)I"⟩, prog_9_method_8_code, 3, (some .int))
abbrev qm_MD_hashed : xc_q := (⟨"CertificatePathModel", "hashed", "(II)I"⟩, prog_9_method_7_code, 6, (some .int))
abbrev qm_MD_accept : xc_q := (⟨"CertificatePathModel", "accept", "()I"⟩, prog_9_method_26_code, 2, (some .int))
abbrev qm_MD_read : xc_q := (⟨"CertificatePathModel", "read", "(II)Z"⟩, prog_9_method_23_code, 4, (some .boolean))
abbrev qm_MD_enter : xc_q := (⟨"CertificatePathModel", "enter", "(II)I"⟩, prog_9_method_10_code, 4, (some .int))
abbrev qm_MD_tagged : xc_q := (⟨"CertificatePathModel", "tagged", "(II)Z"⟩, prog_9_method_9_code, 3, (some .boolean))
abbrev qm_MD_body : xc_q := (⟨"CertificatePathModel", "body", "(I)V"⟩, prog_9_method_22_code, 4, none)
abbrev qm_MD_integer : xc_q := (⟨"CertificatePathModel", "integer", "(I)I"⟩, prog_9_method_12_code, 6, (some .int))
abbrev qm_MD_name : xc_q := (⟨"CertificatePathModel", "name", "(I)V"⟩, prog_9_method_14_code, 5, none)
abbrev qm_MD_leave : xc_q := (⟨"CertificatePathModel", "leave", "(I)V"⟩, prog_9_method_11_code, 2, none)
abbrev qm_MD_key : xc_q := (⟨"CertificatePathModel", "key", "(I)V"⟩, prog_9_method_20_code, 3, none)
abbrev qm_MD_more : xc_q := (⟨"CertificatePathModel", "more", "(I)V"⟩, prog_9_method_21_code, 4, none)
abbrev qm_MD_extension : xc_q := (⟨"CertificatePathModel", "extension", "(I)V"⟩, prog_9_method_19_code, 6, none)
abbrev qm_MD_truth : xc_q := (⟨"CertificatePathModel", "truth", "(I)Z"⟩, prog_9_method_13_code, 3, (some .boolean))
abbrev qm_MD_basicContent : xc_q := (⟨"CertificatePathModel", "basicContent", "(I)V"⟩, prog_9_method_16_code, 3, none)
abbrev qm_MD_usageBits : xc_q := (⟨"CertificatePathModel", "usageBits", "(I)V"⟩, prog_9_method_15_code, 7, none)
abbrev qm_MD_bounds : xc_q := (⟨"CertificatePathModel", "bounds", "(I)V"⟩, prog_9_method_18_code, 3, none)
abbrev qm_MD_names : xc_q := (⟨"CertificatePathModel", "names", "(II)I"⟩, prog_9_method_17_code, 5, (some .int))
abbrev qm_MD_count : xc_q := (⟨"CertificatePathModel", "count", "()I"⟩, prog_9_method_27_code, 1, (some .int))
abbrev qm_MD_field : xc_q := (⟨"CertificatePathModel", "field", "(II)I"⟩, prog_9_method_28_code, 3, (some .int))
abbrev qm_MD_fetch : xc_q := (⟨"CertificatePathModel", "fetch", "(I)Z"⟩, prog_9_method_25_code, 2, (some .boolean))
abbrev qm_MD_kept : xc_q := (⟨"CertificatePathModel", "kept", "(I)Z"⟩, prog_9_method_24_code, 2, (some .boolean))
abbrev qm_MD_within : xc_q := (⟨"CertificatePathModel", "within", "(IZIZ)Z"⟩, prog_9_method_31_code, 7, (some .boolean))
abbrev qm_MD_inside : xc_q := (⟨"CertificatePathModel", "inside", "(IIII)Z"⟩, prog_9_method_29_code, 7, (some .boolean))
abbrev qm_MD_recode : xc_q := (⟨"CertificatePathModel", "recode", "(I)I"⟩, prog_9_method_32_code, 3, (some .int))
abbrev qm_MD_link : xc_q := (⟨"CertificatePathModel", "link", "(I)Z"⟩, prog_9_method_33_code, 2, (some .boolean))
abbrev qm_MD_unlink : xc_q := (⟨"CertificatePathModel", "unlink", "()Z"⟩, prog_9_method_34_code, 1, (some .boolean))
abbrev qm_MD_links : xc_q := (⟨"CertificatePathModel", "links", "()I"⟩, prog_9_method_35_code, 1, (some .int))
abbrev qm_MD_check : xc_q := (⟨"CertificatePathModel", "check", "(III)I"⟩, prog_9_method_41_code, 6, (some .int))
abbrev qm_MD_takeKey : xc_q := (⟨"CertificatePathModel", "takeKey", "()V"⟩, prog_9_method_39_code, 1, none)
abbrev qm_MD_broken : xc_q := (⟨"CertificatePathModel", "broken", "(III)I"⟩, prog_9_method_40_code, 7, (some .int))
abbrev qm_MD_signedByKey : xc_q := (⟨"CertificatePathModel", "signedByKey", "()Z"⟩, prog_9_method_38_code, 4, (some .boolean))
abbrev qm_MD_equalNames : xc_q := (⟨"CertificatePathModel", "equalNames", "(IIII)Z"⟩, prog_9_method_30_code, 5, (some .boolean))
abbrev qm_MD_passes : xc_q := (⟨"CertificatePathModel", "passes", "(III)Z"⟩, prog_9_method_37_code, 6, (some .boolean))
abbrev qm_MD_some : xc_q := (⟨"CertificatePathModel", "some", "(IIII)Z"⟩, prog_9_method_36_code, 7, (some .boolean))
abbrev qm_MD_reset : xc_q := (⟨"CertificatePathModel", "reset", "()V"⟩, prog_9_method_42_code, 1, none)
