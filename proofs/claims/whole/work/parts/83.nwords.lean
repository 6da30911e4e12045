/-! words of constructors -/
theorem wn_cl_CP_7 : Cond.classLink "CertificatePath" 7 "CertificatePath$Reader" ∈ xw_W := xw_in 17 (by decide +kernel) rfl
theorem wn_cl_CP_23 : Cond.classLink "CertificatePath" 23 "CertificatePath$Certificate" ∈ xw_W := xw_in 59 (by decide +kernel) rfl
theorem wn_cl_CT_9 : Cond.classLink "CertificatePath$Certificate" 9 "CertificatePath$Name" ∈ xw_W := xw_in 66 (by decide +kernel) rfl
theorem wn_cl_CT_21 : Cond.classLink "CertificatePath$Certificate" 21 "CertificatePath$Extension" ∈ xw_W := xw_in 81 (by decide +kernel) rfl
theorem wn_cl_CT_28 : Cond.classLink "CertificatePath$Certificate" 28 "CertificatePath$NameList" ∈ xw_W := xw_in 103 (by decide +kernel) rfl
theorem wn_cl_NL_9 : Cond.classLink "CertificatePath$NameList" 9 "CertificatePath$Name" ∈ xw_W := xw_in 109 (by decide +kernel) rfl
theorem wn_cl_RD_9 : Cond.classLink "CertificatePath$Reader" 9 "CertificatePath$ByteRow" ∈ xw_W := xw_in 23 (by decide +kernel) rfl
theorem wn_cl_LW_7 : Cond.classLink "CertificatePathLaw" 7 "CertificatePath" ∈ xw_W := xw_in 9 (by decide +kernel) rfl
theorem wn_cl_LW_10 : Cond.classLink "CertificatePathLaw" 10 "CertificatePathModel" ∈ xw_W := xw_in 511 (by decide +kernel) rfl
theorem wn_in_CP : Cond.instantiable "CertificatePath" 6 ∈ xw_W := xw_in 10 (by decide +kernel) rfl
theorem wn_it_CP : Cond.initialized "CertificatePath" ∈ xw_W := xw_in 1 (by decide +kernel) rfl
theorem wn_im_CP : Cond.instanceMethod (⟨"CertificatePath", "<init>", "()V"⟩ : MethodName) ∈ xw_W := xw_in 12 (by decide +kernel) rfl
theorem wn_ob_CP : Cond.methodLink "CertificatePath" 1 Lib.objectInit ∈ xw_W := xw_in 14 (by decide +kernel) rfl
theorem wn_dv_CP : ∀ j, j < 6 → defaultValue (ty_CP j) = xw_slot (fun _ => 0) (xw_rk 0 j) none 0 := by
  intro j hj
  rcases (show j = 0 ∨ j = 1 ∨ j = 2 ∨ j = 3 ∨ j = 4 ∨ j = 5 by omega) with rfl | rfl | rfl | rfl | rfl | rfl <;> rfl
theorem wn_in_RD : Cond.instantiable "CertificatePath$Reader" 5 ∈ xw_W := xw_in 18 (by decide +kernel) rfl
theorem wn_it_RD : Cond.initialized "CertificatePath$Reader" ∈ xw_W := xw_in 2 (by decide +kernel) rfl
theorem wn_im_RD : Cond.instanceMethod (⟨"CertificatePath$Reader", "<init>", "()V"⟩ : MethodName) ∈ xw_W := xw_in 20 (by decide +kernel) rfl
theorem wn_ob_RD : Cond.methodLink "CertificatePath$Reader" 3 Lib.objectInit ∈ xw_W := xw_in 22 (by decide +kernel) rfl
theorem wn_dv_RD : ∀ j, j < 5 → defaultValue (ty_RD j) = xw_slot (fun _ => 0) (xw_rk 1 j) none 0 := by
  intro j hj
  rcases (show j = 0 ∨ j = 1 ∨ j = 2 ∨ j = 3 ∨ j = 4 by omega) with rfl | rfl | rfl | rfl | rfl <;> rfl
theorem wn_in_BR : Cond.instantiable "CertificatePath$ByteRow" 2 ∈ xw_W := xw_in 24 (by decide +kernel) rfl
theorem wn_it_BR : Cond.initialized "CertificatePath$ByteRow" ∈ xw_W := xw_in 3 (by decide +kernel) rfl
theorem wn_im_BR : Cond.instanceMethod (⟨"CertificatePath$ByteRow", "<init>", "()V"⟩ : MethodName) ∈ xw_W := xw_in 26 (by decide +kernel) rfl
theorem wn_ob_BR : Cond.methodLink "CertificatePath$ByteRow" 3 Lib.objectInit ∈ xw_W := xw_in 28 (by decide +kernel) rfl
theorem wn_dv_BR : ∀ j, j < 2 → defaultValue (ty_BR j) = xw_slot (fun _ => 0) (xw_rk 2 j) none 0 := by
  intro j hj
  rcases (show j = 0 ∨ j = 1 by omega) with rfl | rfl <;> rfl
theorem wn_in_NM : Cond.instantiable "CertificatePath$Name" 2 ∈ xw_W := xw_in 67 (by decide +kernel) rfl
theorem wn_it_NM : Cond.initialized "CertificatePath$Name" ∈ xw_W := xw_in 5 (by decide +kernel) rfl
theorem wn_im_NM : Cond.instanceMethod (⟨"CertificatePath$Name", "<init>", "()V"⟩ : MethodName) ∈ xw_W := xw_in 69 (by decide +kernel) rfl
theorem wn_ob_NM : Cond.methodLink "CertificatePath$Name" 3 Lib.objectInit ∈ xw_W := xw_in 71 (by decide +kernel) rfl
theorem wn_dv_NM : ∀ j, j < 2 → defaultValue (ty_NM j) = xw_slot (fun _ => 0) (xw_rk 3 j) none 0 := by
  intro j hj
  rcases (show j = 0 ∨ j = 1 by omega) with rfl | rfl <;> rfl
theorem wn_in_NL : Cond.instantiable "CertificatePath$NameList" 2 ∈ xw_W := xw_in 104 (by decide +kernel) rfl
theorem wn_it_NL : Cond.initialized "CertificatePath$NameList" ∈ xw_W := xw_in 7 (by decide +kernel) rfl
theorem wn_im_NL : Cond.instanceMethod (⟨"CertificatePath$NameList", "<init>", "()V"⟩ : MethodName) ∈ xw_W := xw_in 106 (by decide +kernel) rfl
theorem wn_ob_NL : Cond.methodLink "CertificatePath$NameList" 3 Lib.objectInit ∈ xw_W := xw_in 108 (by decide +kernel) rfl
theorem wn_dv_NL : ∀ j, j < 2 → defaultValue (ty_NL j) = xw_slot (fun _ => 0) (xw_rk 4 j) none 0 := by
  intro j hj
  rcases (show j = 0 ∨ j = 1 by omega) with rfl | rfl <;> rfl
theorem wn_in_EX : Cond.instantiable "CertificatePath$Extension" 4 ∈ xw_W := xw_in 83 (by decide +kernel) rfl
theorem wn_it_EX : Cond.initialized "CertificatePath$Extension" ∈ xw_W := xw_in 6 (by decide +kernel) rfl
theorem wn_im_EX : Cond.instanceMethod (⟨"CertificatePath$Extension", "<init>", "()V"⟩ : MethodName) ∈ xw_W := xw_in 85 (by decide +kernel) rfl
theorem wn_ob_EX : Cond.methodLink "CertificatePath$Extension" 3 Lib.objectInit ∈ xw_W := xw_in 87 (by decide +kernel) rfl
theorem wn_dv_EX : ∀ j, j < 4 → defaultValue (ty_EX j) = xw_slot (fun _ => 0) (xw_rk 5 j) none 0 := by
  intro j hj
  rcases (show j = 0 ∨ j = 1 ∨ j = 2 ∨ j = 3 by omega) with rfl | rfl | rfl | rfl <;> rfl
theorem wn_in_CT : Cond.instantiable "CertificatePath$Certificate" 16 ∈ xw_W := xw_in 61 (by decide +kernel) rfl
theorem wn_it_CT : Cond.initialized "CertificatePath$Certificate" ∈ xw_W := xw_in 4 (by decide +kernel) rfl
theorem wn_im_CT : Cond.instanceMethod (⟨"CertificatePath$Certificate", "<init>", "()V"⟩ : MethodName) ∈ xw_W := xw_in 63 (by decide +kernel) rfl
theorem wn_ob_CT : Cond.methodLink "CertificatePath$Certificate" 3 Lib.objectInit ∈ xw_W := xw_in 65 (by decide +kernel) rfl
theorem wn_dv_CT : ∀ j, j < 16 → defaultValue (ty_CT j) = xw_slot (fun _ => 0) (xw_rk 6 j) none 0 := by
  intro j hj
  rcases (show j = 0 ∨ j = 1 ∨ j = 2 ∨ j = 3 ∨ j = 4 ∨ j = 5 ∨ j = 6 ∨ j = 7 ∨ j = 8 ∨ j = 9 ∨ j = 10 ∨ j = 11 ∨ j = 12 ∨ j = 13 ∨ j = 14 ∨ j = 15 by omega) with rfl | rfl | rfl | rfl | rfl | rfl | rfl | rfl | rfl | rfl | rfl | rfl | rfl | rfl | rfl | rfl <;> rfl
theorem wn_in_MD : Cond.instantiable "CertificatePathModel" 43 ∈ xw_W := xw_in 512 (by decide +kernel) rfl
theorem wn_it_MD : Cond.initialized "CertificatePathModel" ∈ xw_W := xw_in 8 (by decide +kernel) rfl
theorem wn_im_MD : Cond.instanceMethod (⟨"CertificatePathModel", "<init>", "()V"⟩ : MethodName) ∈ xw_W := xw_in 514 (by decide +kernel) rfl
theorem wn_ob_MD : Cond.methodLink "CertificatePathModel" 1 Lib.objectInit ∈ xw_W := xw_in 516 (by decide +kernel) rfl
theorem wn_dv_MD : ∀ j, j < 43 → defaultValue (ty_MD j) = xw_slot (fun _ => 0) (xw_rk 7 j) none 0 := by
  intro j hj
  rcases (show j = 0 ∨ j = 1 ∨ j = 2 ∨ j = 3 ∨ j = 4 ∨ j = 5 ∨ j = 6 ∨ j = 7 ∨ j = 8 ∨ j = 9 ∨ j = 10 ∨ j = 11 ∨ j = 12 ∨ j = 13 ∨ j = 14 ∨ j = 15 ∨ j = 16 ∨ j = 17 ∨ j = 18 ∨ j = 19 ∨ j = 20 ∨ j = 21 ∨ j = 22 ∨ j = 23 ∨ j = 24 ∨ j = 25 ∨ j = 26 ∨ j = 27 ∨ j = 28 ∨ j = 29 ∨ j = 30 ∨ j = 31 ∨ j = 32 ∨ j = 33 ∨ j = 34 ∨ j = 35 ∨ j = 36 ∨ j = 37 ∨ j = 38 ∨ j = 39 ∨ j = 40 ∨ j = 41 ∨ j = 42 by omega) with rfl | rfl | rfl | rfl | rfl | rfl | rfl | rfl | rfl | rfl | rfl | rfl | rfl | rfl | rfl | rfl | rfl | rfl | rfl | rfl | rfl | rfl | rfl | rfl | rfl | rfl | rfl | rfl | rfl | rfl | rfl | rfl | rfl | rfl | rfl | rfl | rfl | rfl | rfl | rfl | rfl | rfl | rfl <;> rfl
theorem wn_ai : Cond.arrayClass .int ∈ xw_W := xw_in 40 (by decide +kernel) rfl
theorem wn_al : Cond.arrayClass .long ∈ xw_W := xw_in 80 (by decide +kernel) rfl
theorem wn_oi : Cond.instanceMethod Lib.objectInit ∈ xw_W := xw_in 15 (by decide +kernel) rfl
theorem wn_oc : Cond.code Lib.objectInit ⟨#[0xb1]⟩ 1 none ∈ xw_W := xw_in 16 (by decide +kernel) rfl