section
/-- a private method of a class that the tables say can be made, by its rows of tables_1 -/
def lw_okq (q : MethodName × Nat) : Prop := (q.1.cls ≠ "java/lang/invoke/MethodHandle" ∧ q.1.cls ≠ "java/lang/invoke/VarHandle") ∧ Cond.instantiable q.1.cls q.2 ∈ tables_1 ∧ Cond.privateMethod q.1 ∈ tables_1 ∧ Cond.instanceMethod q.1 ∈ tables_1
theorem lw_p0 : lw_okq (⟨"CertificatePath$Certificate", "forgetExtensions", "()V"⟩, 16) := ⟨⟨by decide +kernel, by decide +kernel⟩, List.mem_of_getElem? (i := 61) (by decide +kernel), List.mem_of_getElem? (i := 121) (by decide +kernel), List.mem_of_getElem? (i := 122) (by decide +kernel)⟩
theorem lw_p1 : lw_okq (⟨"CertificatePath$Certificate", "readHead", "(LCertificatePath$Reader;)V"⟩, 16) := ⟨⟨by decide +kernel, by decide +kernel⟩, List.mem_of_getElem? (i := 61) (by decide +kernel), List.mem_of_getElem? (i := 252) (by decide +kernel), List.mem_of_getElem? (i := 253) (by decide +kernel)⟩
theorem lw_p2 : lw_okq (⟨"CertificatePath$Certificate", "readExtension", "(LCertificatePath$Reader;LCertificatePath$Extension;)V"⟩, 16) := ⟨⟨by decide +kernel, by decide +kernel⟩, List.mem_of_getElem? (i := 61) (by decide +kernel), List.mem_of_getElem? (i := 292) (by decide +kernel), List.mem_of_getElem? (i := 293) (by decide +kernel)⟩
theorem lw_p3 : lw_okq (⟨"CertificatePath$Certificate", "hasExtension", "(I)Z"⟩, 16) := ⟨⟨by decide +kernel, by decide +kernel⟩, List.mem_of_getElem? (i := 61) (by decide +kernel), List.mem_of_getElem? (i := 296) (by decide +kernel), List.mem_of_getElem? (i := 297) (by decide +kernel)⟩
theorem lw_p4 : lw_okq (⟨"CertificatePath$Certificate", "readBasic", "(LCertificatePath$Reader;)V"⟩, 16) := ⟨⟨by decide +kernel, by decide +kernel⟩, List.mem_of_getElem? (i := 61) (by decide +kernel), List.mem_of_getElem? (i := 306) (by decide +kernel), List.mem_of_getElem? (i := 307) (by decide +kernel)⟩
theorem lw_p5 : lw_okq (⟨"CertificatePath$Certificate", "readUsage", "(LCertificatePath$Reader;)V"⟩, 16) := ⟨⟨by decide +kernel, by decide +kernel⟩, List.mem_of_getElem? (i := 61) (by decide +kernel), List.mem_of_getElem? (i := 311) (by decide +kernel), List.mem_of_getElem? (i := 312) (by decide +kernel)⟩
theorem lw_p6 : lw_okq (⟨"CertificatePath$Certificate", "readBounds", "(LCertificatePath$Reader;)V"⟩, 16) := ⟨⟨by decide +kernel, by decide +kernel⟩, List.mem_of_getElem? (i := 61) (by decide +kernel), List.mem_of_getElem? (i := 322) (by decide +kernel), List.mem_of_getElem? (i := 323) (by decide +kernel)⟩
theorem lw_p7 : lw_okq (⟨"CertificatePath", "isKept", "(I)Z"⟩, 6) := ⟨⟨by decide +kernel, by decide +kernel⟩, List.mem_of_getElem? (i := 10) (by decide +kernel), List.mem_of_getElem? (i := 359) (by decide +kernel), List.mem_of_getElem? (i := 360) (by decide +kernel)⟩
theorem lw_p8 : lw_okq (⟨"CertificatePath", "nameOf", "(IZ)LCertificatePath$Name;"⟩, 6) := ⟨⟨by decide +kernel, by decide +kernel⟩, List.mem_of_getElem? (i := 10) (by decide +kernel), List.mem_of_getElem? (i := 371) (by decide +kernel), List.mem_of_getElem? (i := 372) (by decide +kernel)⟩
theorem lw_p9 : lw_okq (⟨"CertificatePath$Certificate", "writeHead", "(LCertificatePath$ByteRow;)V"⟩, 16) := ⟨⟨by decide +kernel, by decide +kernel⟩, List.mem_of_getElem? (i := 61) (by decide +kernel), List.mem_of_getElem? (i := 388) (by decide +kernel), List.mem_of_getElem? (i := 389) (by decide +kernel)⟩
theorem lw_p10 : lw_okq (⟨"CertificatePath$Certificate", "writeExtension", "(LCertificatePath$ByteRow;LCertificatePath$Extension;)V"⟩, 16) := ⟨⟨by decide +kernel, by decide +kernel⟩, List.mem_of_getElem? (i := 61) (by decide +kernel), List.mem_of_getElem? (i := 408) (by decide +kernel), List.mem_of_getElem? (i := 409) (by decide +kernel)⟩
theorem lw_p11 : lw_okq (⟨"CertificatePath$Certificate", "writeBasic", "(LCertificatePath$ByteRow;)V"⟩, 16) := ⟨⟨by decide +kernel, by decide +kernel⟩, List.mem_of_getElem? (i := 61) (by decide +kernel), List.mem_of_getElem? (i := 416) (by decide +kernel), List.mem_of_getElem? (i := 417) (by decide +kernel)⟩
theorem lw_p12 : lw_okq (⟨"CertificatePath$Certificate", "writeUsage", "(LCertificatePath$ByteRow;)V"⟩, 16) := ⟨⟨by decide +kernel, by decide +kernel⟩, List.mem_of_getElem? (i := 61) (by decide +kernel), List.mem_of_getElem? (i := 420) (by decide +kernel), List.mem_of_getElem? (i := 421) (by decide +kernel)⟩
theorem lw_p13 : lw_okq (⟨"CertificatePath$Certificate", "writeBounds", "(LCertificatePath$ByteRow;)V"⟩, 16) := ⟨⟨by decide +kernel, by decide +kernel⟩, List.mem_of_getElem? (i := 61) (by decide +kernel), List.mem_of_getElem? (i := 424) (by decide +kernel), List.mem_of_getElem? (i := 425) (by decide +kernel)⟩
theorem lw_p14 : lw_okq (⟨"CertificatePath", "brokenAnywhere", "(LCertificatePath$Certificate;II)I"⟩, 6) := ⟨⟨by decide +kernel, by decide +kernel⟩, List.mem_of_getElem? (i := 10) (by decide +kernel), List.mem_of_getElem? (i := 456) (by decide +kernel), List.mem_of_getElem? (i := 457) (by decide +kernel)⟩
theorem lw_p15 : lw_okq (⟨"CertificatePath", "isWithinBoundsBefore", "(I)Z"⟩, 6) := ⟨⟨by decide +kernel, by decide +kernel⟩, List.mem_of_getElem? (i := 10) (by decide +kernel), List.mem_of_getElem? (i := 474) (by decide +kernel), List.mem_of_getElem? (i := 475) (by decide +kernel)⟩
def lw_privs_1 : List (MethodName × Nat) := [(⟨"CertificatePath$Certificate", "forgetExtensions", "()V"⟩, 16), (⟨"CertificatePath$Certificate", "readHead", "(LCertificatePath$Reader;)V"⟩, 16), (⟨"CertificatePath$Certificate", "readExtension", "(LCertificatePath$Reader;LCertificatePath$Extension;)V"⟩, 16), (⟨"CertificatePath$Certificate", "hasExtension", "(I)Z"⟩, 16), (⟨"CertificatePath$Certificate", "readBasic", "(LCertificatePath$Reader;)V"⟩, 16), (⟨"CertificatePath$Certificate", "readUsage", "(LCertificatePath$Reader;)V"⟩, 16), (⟨"CertificatePath$Certificate", "readBounds", "(LCertificatePath$Reader;)V"⟩, 16), (⟨"CertificatePath", "isKept", "(I)Z"⟩, 6), (⟨"CertificatePath", "nameOf", "(IZ)LCertificatePath$Name;"⟩, 6), (⟨"CertificatePath$Certificate", "writeHead", "(LCertificatePath$ByteRow;)V"⟩, 16), (⟨"CertificatePath$Certificate", "writeExtension", "(LCertificatePath$ByteRow;LCertificatePath$Extension;)V"⟩, 16), (⟨"CertificatePath$Certificate", "writeBasic", "(LCertificatePath$ByteRow;)V"⟩, 16), (⟨"CertificatePath$Certificate", "writeUsage", "(LCertificatePath$ByteRow;)V"⟩, 16), (⟨"CertificatePath$Certificate", "writeBounds", "(LCertificatePath$ByteRow;)V"⟩, 16), (⟨"CertificatePath", "brokenAnywhere", "(LCertificatePath$Certificate;II)I"⟩, 6), (⟨"CertificatePath", "isWithinBoundsBefore", "(I)Z"⟩, 6)]
theorem lw_r1 : ∀ q ∈ lw_privs_1, lw_okq q := List.forall_mem_cons.mpr ⟨lw_p0, List.forall_mem_cons.mpr ⟨lw_p1, List.forall_mem_cons.mpr ⟨lw_p2, List.forall_mem_cons.mpr ⟨lw_p3, List.forall_mem_cons.mpr ⟨lw_p4, List.forall_mem_cons.mpr ⟨lw_p5, List.forall_mem_cons.mpr ⟨lw_p6, List.forall_mem_cons.mpr ⟨lw_p7, List.forall_mem_cons.mpr ⟨lw_p8, List.forall_mem_cons.mpr ⟨lw_p9, List.forall_mem_cons.mpr ⟨lw_p10, List.forall_mem_cons.mpr ⟨lw_p11, List.forall_mem_cons.mpr ⟨lw_p12, List.forall_mem_cons.mpr ⟨lw_p13, List.forall_mem_cons.mpr ⟨lw_p14, List.forall_mem_cons.mpr ⟨lw_p15, fun _ h => absurd h List.not_mem_nil⟩⟩⟩⟩⟩⟩⟩⟩⟩⟩⟩⟩⟩⟩⟩⟩
theorem lw_p16 : lw_okq (⟨"CertificatePathModel", "hashed", "(II)I"⟩, 43) := ⟨⟨by decide +kernel, by decide +kernel⟩, List.mem_of_getElem? (i := 512) (by decide +kernel), List.mem_of_getElem? (i := 672) (by decide +kernel), List.mem_of_getElem? (i := 673) (by decide +kernel)⟩
theorem lw_p17 : lw_okq (⟨"CertificatePathModel", "read", "(II)Z"⟩, 43) := ⟨⟨by decide +kernel, by decide +kernel⟩, List.mem_of_getElem? (i := 512) (by decide +kernel), List.mem_of_getElem? (i := 682) (by decide +kernel), List.mem_of_getElem? (i := 683) (by decide +kernel)⟩
theorem lw_p18 : lw_okq (⟨"CertificatePathModel", "enter", "(II)I"⟩, 43) := ⟨⟨by decide +kernel, by decide +kernel⟩, List.mem_of_getElem? (i := 512) (by decide +kernel), List.mem_of_getElem? (i := 686) (by decide +kernel), List.mem_of_getElem? (i := 687) (by decide +kernel)⟩
theorem lw_p19 : lw_okq (⟨"CertificatePathModel", "tagged", "(II)Z"⟩, 43) := ⟨⟨by decide +kernel, by decide +kernel⟩, List.mem_of_getElem? (i := 512) (by decide +kernel), List.mem_of_getElem? (i := 690) (by decide +kernel), List.mem_of_getElem? (i := 691) (by decide +kernel)⟩
theorem lw_p20 : lw_okq (⟨"CertificatePathModel", "body", "(I)V"⟩, 43) := ⟨⟨by decide +kernel, by decide +kernel⟩, List.mem_of_getElem? (i := 512) (by decide +kernel), List.mem_of_getElem? (i := 694) (by decide +kernel), List.mem_of_getElem? (i := 695) (by decide +kernel)⟩
theorem lw_p21 : lw_okq (⟨"CertificatePathModel", "integer", "(I)I"⟩, 43) := ⟨⟨by decide +kernel, by decide +kernel⟩, List.mem_of_getElem? (i := 512) (by decide +kernel), List.mem_of_getElem? (i := 698) (by decide +kernel), List.mem_of_getElem? (i := 699) (by decide +kernel)⟩
theorem lw_p22 : lw_okq (⟨"CertificatePathModel", "name", "(I)V"⟩, 43) := ⟨⟨by decide +kernel, by decide +kernel⟩, List.mem_of_getElem? (i := 512) (by decide +kernel), List.mem_of_getElem? (i := 702) (by decide +kernel), List.mem_of_getElem? (i := 703) (by decide +kernel)⟩
theorem lw_p23 : lw_okq (⟨"CertificatePathModel", "leave", "(I)V"⟩, 43) := ⟨⟨by decide +kernel, by decide +kernel⟩, List.mem_of_getElem? (i := 512) (by decide +kernel), List.mem_of_getElem? (i := 706) (by decide +kernel), List.mem_of_getElem? (i := 707) (by decide +kernel)⟩
theorem lw_p24 : lw_okq (⟨"CertificatePathModel", "key", "(I)V"⟩, 43) := ⟨⟨by decide +kernel, by decide +kernel⟩, List.mem_of_getElem? (i := 512) (by decide +kernel), List.mem_of_getElem? (i := 710) (by decide +kernel), List.mem_of_getElem? (i := 711) (by decide +kernel)⟩
theorem lw_p25 : lw_okq (⟨"CertificatePathModel", "more", "(I)V"⟩, 43) := ⟨⟨by decide +kernel, by decide +kernel⟩, List.mem_of_getElem? (i := 512) (by decide +kernel), List.mem_of_getElem? (i := 714) (by decide +kernel), List.mem_of_getElem? (i := 715) (by decide +kernel)⟩
theorem lw_p26 : lw_okq (⟨"CertificatePathModel", "extension", "(I)V"⟩, 43) := ⟨⟨by decide +kernel, by decide +kernel⟩, List.mem_of_getElem? (i := 512) (by decide +kernel), List.mem_of_getElem? (i := 718) (by decide +kernel), List.mem_of_getElem? (i := 719) (by decide +kernel)⟩
theorem lw_p27 : lw_okq (⟨"CertificatePathModel", "truth", "(I)Z"⟩, 43) := ⟨⟨by decide +kernel, by decide +kernel⟩, List.mem_of_getElem? (i := 512) (by decide +kernel), List.mem_of_getElem? (i := 722) (by decide +kernel), List.mem_of_getElem? (i := 723) (by decide +kernel)⟩
theorem lw_p28 : lw_okq (⟨"CertificatePathModel", "basicContent", "(I)V"⟩, 43) := ⟨⟨by decide +kernel, by decide +kernel⟩, List.mem_of_getElem? (i := 512) (by decide +kernel), List.mem_of_getElem? (i := 726) (by decide +kernel), List.mem_of_getElem? (i := 727) (by decide +kernel)⟩
theorem lw_p29 : lw_okq (⟨"CertificatePathModel", "usageBits", "(I)V"⟩, 43) := ⟨⟨by decide +kernel, by decide +kernel⟩, List.mem_of_getElem? (i := 512) (by decide +kernel), List.mem_of_getElem? (i := 730) (by decide +kernel), List.mem_of_getElem? (i := 731) (by decide +kernel)⟩
theorem lw_p30 : lw_okq (⟨"CertificatePathModel", "bounds", "(I)V"⟩, 43) := ⟨⟨by decide +kernel, by decide +kernel⟩, List.mem_of_getElem? (i := 512) (by decide +kernel), List.mem_of_getElem? (i := 734) (by decide +kernel), List.mem_of_getElem? (i := 735) (by decide +kernel)⟩
theorem lw_p31 : lw_okq (⟨"CertificatePathModel", "names", "(II)I"⟩, 43) := ⟨⟨by decide +kernel, by decide +kernel⟩, List.mem_of_getElem? (i := 512) (by decide +kernel), List.mem_of_getElem? (i := 738) (by decide +kernel), List.mem_of_getElem? (i := 739) (by decide +kernel)⟩
def lw_privs_2 : List (MethodName × Nat) := [(⟨"CertificatePathModel", "hashed", "(II)I"⟩, 43), (⟨"CertificatePathModel", "read", "(II)Z"⟩, 43), (⟨"CertificatePathModel", "enter", "(II)I"⟩, 43), (⟨"CertificatePathModel", "tagged", "(II)Z"⟩, 43), (⟨"CertificatePathModel", "body", "(I)V"⟩, 43), (⟨"CertificatePathModel", "integer", "(I)I"⟩, 43), (⟨"CertificatePathModel", "name", "(I)V"⟩, 43), (⟨"CertificatePathModel", "leave", "(I)V"⟩, 43), (⟨"CertificatePathModel", "key", "(I)V"⟩, 43), (⟨"CertificatePathModel", "more", "(I)V"⟩, 43), (⟨"CertificatePathModel", "extension", "(I)V"⟩, 43), (⟨"CertificatePathModel", "truth", "(I)Z"⟩, 43), (⟨"CertificatePathModel", "basicContent", "(I)V"⟩, 43), (⟨"CertificatePathModel", "usageBits", "(I)V"⟩, 43), (⟨"CertificatePathModel", "bounds", "(I)V"⟩, 43), (⟨"CertificatePathModel", "names", "(II)I"⟩, 43)]
theorem lw_r2 : ∀ q ∈ lw_privs_2, lw_okq q := List.forall_mem_cons.mpr ⟨lw_p16, List.forall_mem_cons.mpr ⟨lw_p17, List.forall_mem_cons.mpr ⟨lw_p18, List.forall_mem_cons.mpr ⟨lw_p19, List.forall_mem_cons.mpr ⟨lw_p20, List.forall_mem_cons.mpr ⟨lw_p21, List.forall_mem_cons.mpr ⟨lw_p22, List.forall_mem_cons.mpr ⟨lw_p23, List.forall_mem_cons.mpr ⟨lw_p24, List.forall_mem_cons.mpr ⟨lw_p25, List.forall_mem_cons.mpr ⟨lw_p26, List.forall_mem_cons.mpr ⟨lw_p27, List.forall_mem_cons.mpr ⟨lw_p28, List.forall_mem_cons.mpr ⟨lw_p29, List.forall_mem_cons.mpr ⟨lw_p30, List.forall_mem_cons.mpr ⟨lw_p31, fun _ h => absurd h List.not_mem_nil⟩⟩⟩⟩⟩⟩⟩⟩⟩⟩⟩⟩⟩⟩⟩⟩
theorem lw_p32 : lw_okq (⟨"CertificatePathModel", "fetch", "(I)Z"⟩, 43) := ⟨⟨by decide +kernel, by decide +kernel⟩, List.mem_of_getElem? (i := 512) (by decide +kernel), List.mem_of_getElem? (i := 750) (by decide +kernel), List.mem_of_getElem? (i := 751) (by decide +kernel)⟩
theorem lw_p33 : lw_okq (⟨"CertificatePathModel", "kept", "(I)Z"⟩, 43) := ⟨⟨by decide +kernel, by decide +kernel⟩, List.mem_of_getElem? (i := 512) (by decide +kernel), List.mem_of_getElem? (i := 754) (by decide +kernel), List.mem_of_getElem? (i := 755) (by decide +kernel)⟩
theorem lw_p34 : lw_okq (⟨"CertificatePathModel", "inside", "(IIII)Z"⟩, 43) := ⟨⟨by decide +kernel, by decide +kernel⟩, List.mem_of_getElem? (i := 512) (by decide +kernel), List.mem_of_getElem? (i := 762) (by decide +kernel), List.mem_of_getElem? (i := 763) (by decide +kernel)⟩
theorem lw_p35 : lw_okq (⟨"CertificatePathModel", "takeKey", "()V"⟩, 43) := ⟨⟨by decide +kernel, by decide +kernel⟩, List.mem_of_getElem? (i := 512) (by decide +kernel), List.mem_of_getElem? (i := 786) (by decide +kernel), List.mem_of_getElem? (i := 787) (by decide +kernel)⟩
theorem lw_p36 : lw_okq (⟨"CertificatePathModel", "broken", "(III)I"⟩, 43) := ⟨⟨by decide +kernel, by decide +kernel⟩, List.mem_of_getElem? (i := 512) (by decide +kernel), List.mem_of_getElem? (i := 790) (by decide +kernel), List.mem_of_getElem? (i := 791) (by decide +kernel)⟩
theorem lw_p37 : lw_okq (⟨"CertificatePathModel", "signedByKey", "()Z"⟩, 43) := ⟨⟨by decide +kernel, by decide +kernel⟩, List.mem_of_getElem? (i := 512) (by decide +kernel), List.mem_of_getElem? (i := 794) (by decide +kernel), List.mem_of_getElem? (i := 795) (by decide +kernel)⟩
theorem lw_p38 : lw_okq (⟨"CertificatePathModel", "equalNames", "(IIII)Z"⟩, 43) := ⟨⟨by decide +kernel, by decide +kernel⟩, List.mem_of_getElem? (i := 512) (by decide +kernel), List.mem_of_getElem? (i := 798) (by decide +kernel), List.mem_of_getElem? (i := 799) (by decide +kernel)⟩
theorem lw_p39 : lw_okq (⟨"CertificatePathModel", "passes", "(III)Z"⟩, 43) := ⟨⟨by decide +kernel, by decide +kernel⟩, List.mem_of_getElem? (i := 512) (by decide +kernel), List.mem_of_getElem? (i := 802) (by decide +kernel), List.mem_of_getElem? (i := 803) (by decide +kernel)⟩
theorem lw_p40 : lw_okq (⟨"CertificatePathModel", "some", "(IIII)Z"⟩, 43) := ⟨⟨by decide +kernel, by decide +kernel⟩, List.mem_of_getElem? (i := 512) (by decide +kernel), List.mem_of_getElem? (i := 806) (by decide +kernel), List.mem_of_getElem? (i := 807) (by decide +kernel)⟩
def lw_privs_3 : List (MethodName × Nat) := [(⟨"CertificatePathModel", "fetch", "(I)Z"⟩, 43), (⟨"CertificatePathModel", "kept", "(I)Z"⟩, 43), (⟨"CertificatePathModel", "inside", "(IIII)Z"⟩, 43), (⟨"CertificatePathModel", "takeKey", "()V"⟩, 43), (⟨"CertificatePathModel", "broken", "(III)I"⟩, 43), (⟨"CertificatePathModel", "signedByKey", "()Z"⟩, 43), (⟨"CertificatePathModel", "equalNames", "(IIII)Z"⟩, 43), (⟨"CertificatePathModel", "passes", "(III)Z"⟩, 43), (⟨"CertificatePathModel", "some", "(IIII)Z"⟩, 43)]
theorem lw_r3 : ∀ q ∈ lw_privs_3, lw_okq q := List.forall_mem_cons.mpr ⟨lw_p32, List.forall_mem_cons.mpr ⟨lw_p33, List.forall_mem_cons.mpr ⟨lw_p34, List.forall_mem_cons.mpr ⟨lw_p35, List.forall_mem_cons.mpr ⟨lw_p36, List.forall_mem_cons.mpr ⟨lw_p37, List.forall_mem_cons.mpr ⟨lw_p38, List.forall_mem_cons.mpr ⟨lw_p39, List.forall_mem_cons.mpr ⟨lw_p40, fun _ h => absurd h List.not_mem_nil⟩⟩⟩⟩⟩⟩⟩⟩⟩
def lw_privs : List (MethodName × Nat) := lw_privs_1 ++ (lw_privs_2 ++ (lw_privs_3))
def lw_tbl : List Cond := k2_sels lw_privs ++ tables_1
theorem lw_privs_ok : ∀ q ∈ lw_privs, lw_okq q := by
  show ∀ q ∈ lw_privs_1 ++ (lw_privs_2 ++ (lw_privs_3)), lw_okq q
  exact List.forall_mem_append.mpr ⟨lw_r1, List.forall_mem_append.mpr ⟨lw_r2, lw_r3⟩⟩
end
section
/-! names: classes and their fields in the order of the slots; methods; the shape of the whole memory -/
def tk_CP : u_T := fun k => match k with
  | 0 => ("CertificatePath", "reader", "LCertificatePath$Reader;", true)
  | 1 => ("CertificatePath", "buffer", "LCertificatePath$ByteRow;", true)
  | 2 => ("CertificatePath", "certificates", "[LCertificatePath$Certificate;", true)
  | 3 => ("CertificatePath", "kept", "I", false)
  | 4 => ("CertificatePath", "path", "[I", true)
  | _ => ("CertificatePath", "linked", "I", false)
def ty_CP : Nat → FieldType := fun k => match k with
  | 0 => .object "CertificatePath$Reader"
  | 1 => .object "CertificatePath$ByteRow"
  | 2 => .array (.object "CertificatePath$Certificate")
  | 3 => .int
  | 4 => .array .int
  | _ => .int
theorem tn_CP : ∀ a, a < 6 → ∀ b, b < 6 → a ≠ b → (tk_CP a).2.1 ≠ (tk_CP b).2.1 := by decide +kernel
theorem to_CP : ∀ k, k < 6 → parseFieldDescriptor (tk_CP k).2.2.1 = some (ty_CP k) := by decide +kernel
def tk_RD : u_T := fun k => match k with
  | 0 => ("CertificatePath$Reader", "row", "LCertificatePath$ByteRow;", true)
  | 1 => ("CertificatePath$Reader", "ends", "[I", true)
  | 2 => ("CertificatePath$Reader", "depth", "I", false)
  | 3 => ("CertificatePath$Reader", "at", "I", false)
  | _ => ("CertificatePath$Reader", "sound", "Z", false)
def ty_RD : Nat → FieldType := fun k => match k with
  | 0 => .object "CertificatePath$ByteRow"
  | 1 => .array .int
  | 2 => .int
  | 3 => .int
  | _ => .boolean
theorem tn_RD : ∀ a, a < 5 → ∀ b, b < 5 → a ≠ b → (tk_RD a).2.1 ≠ (tk_RD b).2.1 := by decide +kernel
theorem to_RD : ∀ k, k < 5 → parseFieldDescriptor (tk_RD k).2.2.1 = some (ty_RD k) := by decide +kernel
def tk_BR : u_T := fun k => match k with
  | 0 => ("CertificatePath$ByteRow", "bytes", "[I", true)
  | _ => ("CertificatePath$ByteRow", "size", "I", false)
def ty_BR : Nat → FieldType := fun k => match k with
  | 0 => .array .int
  | _ => .int
theorem tn_BR : ∀ a, a < 2 → ∀ b, b < 2 → a ≠ b → (tk_BR a).2.1 ≠ (tk_BR b).2.1 := by decide +kernel
theorem to_BR : ∀ k, k < 2 → parseFieldDescriptor (tk_BR k).2.2.1 = some (ty_BR k) := by decide +kernel
def tk_NM : u_T := fun k => match k with
  | 0 => ("CertificatePath$Name", "labels", "[J", true)
  | _ => ("CertificatePath$Name", "size", "I", false)
def ty_NM : Nat → FieldType := fun k => match k with
  | 0 => .array .long
  | _ => .int
theorem tn_NM : ∀ a, a < 2 → ∀ b, b < 2 → a ≠ b → (tk_NM a).2.1 ≠ (tk_NM b).2.1 := by decide +kernel
theorem to_NM : ∀ k, k < 2 → parseFieldDescriptor (tk_NM k).2.2.1 = some (ty_NM k) := by decide +kernel
def tk_NL : u_T := fun k => match k with
  | 0 => ("CertificatePath$NameList", "names", "[LCertificatePath$Name;", true)
  | _ => ("CertificatePath$NameList", "size", "I", false)
def ty_NL : Nat → FieldType := fun k => match k with
  | 0 => .array (.object "CertificatePath$Name")
  | _ => .int
theorem tn_NL : ∀ a, a < 2 → ∀ b, b < 2 → a ≠ b → (tk_NL a).2.1 ≠ (tk_NL b).2.1 := by decide +kernel
theorem to_NL : ∀ k, k < 2 → parseFieldDescriptor (tk_NL k).2.2.1 = some (ty_NL k) := by decide +kernel
def tk_EX : u_T := fun k => match k with
  | 0 => ("CertificatePath$Extension", "number", "I", false)
  | 1 => ("CertificatePath$Extension", "critical", "Z", false)
  | 2 => ("CertificatePath$Extension", "octets", "[I", true)
  | _ => ("CertificatePath$Extension", "size", "I", false)
def ty_EX : Nat → FieldType := fun k => match k with
  | 0 => .int
  | 1 => .boolean
  | 2 => .array .int
  | _ => .int
theorem tn_EX : ∀ a, a < 4 → ∀ b, b < 4 → a ≠ b → (tk_EX a).2.1 ≠ (tk_EX b).2.1 := by decide +kernel
theorem to_EX : ∀ k, k < 4 → parseFieldDescriptor (tk_EX k).2.2.1 = some (ty_EX k) := by decide +kernel
def tk_CT : u_T := fun k => match k with
  | 0 => ("CertificatePath$Certificate", "serial", "I", false)
  | 1 => ("CertificatePath$Certificate", "issuer", "LCertificatePath$Name;", true)
  | 2 => ("CertificatePath$Certificate", "from", "I", false)
  | 3 => ("CertificatePath$Certificate", "to", "I", false)
  | 4 => ("CertificatePath$Certificate", "subject", "LCertificatePath$Name;", true)
  | 5 => ("CertificatePath$Certificate", "modulus", "I", false)
  | 6 => ("CertificatePath$Certificate", "exponent", "I", false)
  | 7 => ("CertificatePath$Certificate", "signature", "I", false)
  | 8 => ("CertificatePath$Certificate", "bodyHash", "I", false)
  | 9 => ("CertificatePath$Certificate", "extensions", "[LCertificatePath$Extension;", true)
  | 10 => ("CertificatePath$Certificate", "extensionCount", "I", false)
  | 11 => ("CertificatePath$Certificate", "authority", "Z", false)
  | 12 => ("CertificatePath$Certificate", "reach", "I", false)
  | 13 => ("CertificatePath$Certificate", "usage", "I", false)
  | 14 => ("CertificatePath$Certificate", "permitted", "LCertificatePath$NameList;", true)
  | _ => ("CertificatePath$Certificate", "excluded", "LCertificatePath$NameList;", true)
def ty_CT : Nat → FieldType := fun k => match k with
  | 0 => .int
  | 1 => .object "CertificatePath$Name"
  | 2 => .int
  | 3 => .int
  | 4 => .object "CertificatePath$Name"
  | 5 => .int
  | 6 => .int
  | 7 => .int
  | 8 => .int
  | 9 => .array (.object "CertificatePath$Extension")
  | 10 => .int
  | 11 => .boolean
  | 12 => .int
  | 13 => .int
  | 14 => .object "CertificatePath$NameList"
  | _ => .object "CertificatePath$NameList"
theorem tn_CT : ∀ a, a < 16 → ∀ b, b < 16 → a ≠ b → (tk_CT a).2.1 ≠ (tk_CT b).2.1 := by decide +kernel
theorem to_CT : ∀ k, k < 16 → parseFieldDescriptor (tk_CT k).2.2.1 = some (ty_CT k) := by decide +kernel
def tk_MD : u_T := fun k => match k with
  | 0 => ("CertificatePathModel", "data", "[I", false)
  | 1 => ("CertificatePathModel", "size", "I", false)
  | 2 => ("CertificatePathModel", "count", "I", false)
  | 3 => ("CertificatePathModel", "sizes", "[I", false)
  | 4 => ("CertificatePathModel", "path", "[I", false)
  | 5 => ("CertificatePathModel", "links", "I", false)
  | 6 => ("CertificatePathModel", "at", "I", false)
  | 7 => ("CertificatePathModel", "wrong", "Z", false)
  | 8 => ("CertificatePathModel", "serial", "I", false)
  | 9 => ("CertificatePathModel", "since", "I", false)
  | 10 => ("CertificatePathModel", "until", "I", false)
  | 11 => ("CertificatePathModel", "modulus", "I", false)
  | 12 => ("CertificatePathModel", "exponent", "I", false)
  | 13 => ("CertificatePathModel", "signature", "I", false)
  | 14 => ("CertificatePathModel", "bodyFrom", "I", false)
  | 15 => ("CertificatePathModel", "bodyTo", "I", false)
  | 16 => ("CertificatePathModel", "nameFrom", "I", false)
  | 17 => ("CertificatePathModel", "nameTo", "I", false)
  | 18 => ("CertificatePathModel", "labels", "I", false)
  | 19 => ("CertificatePathModel", "issuerFrom", "I", false)
  | 20 => ("CertificatePathModel", "issuerTo", "I", false)
  | 21 => ("CertificatePathModel", "issuerLabels", "I", false)
  | 22 => ("CertificatePathModel", "subjectFrom", "I", false)
  | 23 => ("CertificatePathModel", "subjectTo", "I", false)
  | 24 => ("CertificatePathModel", "subjectLabels", "I", false)
  | 25 => ("CertificatePathModel", "extensions", "I", false)
  | 26 => ("CertificatePathModel", "numbers", "[I", false)
  | 27 => ("CertificatePathModel", "strange", "Z", false)
  | 28 => ("CertificatePathModel", "basic", "Z", false)
  | 29 => ("CertificatePathModel", "authority", "Z", false)
  | 30 => ("CertificatePathModel", "reach", "I", false)
  | 31 => ("CertificatePathModel", "usage", "I", false)
  | 32 => ("CertificatePathModel", "permitted", "I", false)
  | 33 => ("CertificatePathModel", "permittedFrom", "I", false)
  | 34 => ("CertificatePathModel", "permittedTo", "I", false)
  | 35 => ("CertificatePathModel", "excluded", "I", false)
  | 36 => ("CertificatePathModel", "excludedFrom", "I", false)
  | 37 => ("CertificatePathModel", "excludedTo", "I", false)
  | 38 => ("CertificatePathModel", "keyModulus", "I", false)
  | 39 => ("CertificatePathModel", "keyExponent", "I", false)
  | 40 => ("CertificatePathModel", "holderFrom", "I", false)
  | 41 => ("CertificatePathModel", "holderTo", "I", false)
  | _ => ("CertificatePathModel", "rest", "I", false)
def ty_MD : Nat → FieldType := fun k => match k with
  | 0 => .array .int
  | 1 => .int
  | 2 => .int
  | 3 => .array .int
  | 4 => .array .int
  | 5 => .int
  | 6 => .int
  | 7 => .boolean
  | 8 => .int
  | 9 => .int
  | 10 => .int
  | 11 => .int
  | 12 => .int
  | 13 => .int
  | 14 => .int
  | 15 => .int
  | 16 => .int
  | 17 => .int
  | 18 => .int
  | 19 => .int
  | 20 => .int
  | 21 => .int
  | 22 => .int
  | 23 => .int
  | 24 => .int
  | 25 => .int
  | 26 => .array .int
  | 27 => .boolean
  | 28 => .boolean
  | 29 => .boolean
  | 30 => .int
  | 31 => .int
  | 32 => .int
  | 33 => .int
  | 34 => .int
  | 35 => .int
  | 36 => .int
  | 37 => .int
  | 38 => .int
  | 39 => .int
  | 40 => .int
  | 41 => .int
  | _ => .int
theorem tn_MD : ∀ a, a < 43 → ∀ b, b < 43 → a ≠ b → (tk_MD a).2.1 ≠ (tk_MD b).2.1 := by decide +kernel
theorem to_MD : ∀ k, k < 43 → parseFieldDescriptor (tk_MD k).2.2.1 = some (ty_MD k) := by decide +kernel
abbrev xw_Cl : List vw_C := [("CertificatePath", tk_CP, 6), ("CertificatePath$Reader", tk_RD, 5), ("CertificatePath$ByteRow", tk_BR, 2), ("CertificatePath$Name", tk_NM, 2), ("CertificatePath$NameList", tk_NL, 2), ("CertificatePath$Extension", tk_EX, 4), ("CertificatePath$Certificate", tk_CT, 16), ("CertificatePathModel", tk_MD, 43)]
abbrev xm_M : Type := Nat → Nat → Nat
def xm_set (M : xm_M) (p k v : Nat) : xm_M := fun q j => if q = p then (if j = k then v else M q j) else M q j
abbrev xl_L : Type := Nat → Nat → Option Nat
def xl_set (l : xl_L) (p k : Nat) (v : Option Nat) : xl_L := fun q j => if q = p then (if j = k then v else l q j) else l q j
/-- the slots that hold references -/
def xw_rk (c k : Nat) : Bool := match c with
  | 0 => k == 0 || k == 1 || k == 2 || k == 4
  | 1 => k == 0 || k == 1
  | 2 => k == 0
  | 3 => k == 0
  | 4 => k == 0
  | 5 => k == 2
  | 6 => k == 1 || k == 4 || k == 9 || k == 14 || k == 15
  | _ => k == 0 || k == 3 || k == 4 || k == 26
/-- a place within a certificate: its kind -/
def xw_Kc (j : Nat) : Nat × Nat × Nat :=
  if j = 0 then (0, 6, 16) else if j = 5 then (3, 4, 4) else
  if j = 1 ∨ j = 3 then (0, 3, 2) else if j = 2 ∨ j = 4 then (2, 1, 4) else
  if j < 14 then (if j % 2 = 0 then (0, 5, 4) else (1, 0, 20)) else
  if j = 14 ∨ j = 22 then (0, 4, 2) else if j = 15 ∨ j = 23 then (3, 3, 3) else
  if j % 2 = 0 then (0, 3, 2) else (2, 1, 4)
/-- what a place is: (0, class, slots) an object; (1, 0, n), (2, 1, n), (3, t, n) an array of ints, longs, references -/
def xw_K (q : Nat) : Nat × Nat × Nat :=
  if q < 6 then (match q with
    | 0 => (0, 0, 6)
    | 1 => (0, 1, 5)
    | 2 => (0, 2, 2)
    | 3 => (1, 0, 160)
    | 4 => (1, 0, 11)
    | _ => (3, 2, 9))
  else if q < 276 then xw_Kc ((q - 6) % 30)
  else match q with
    | 276 => (1, 0, 6)
    | 277 => (0, 7, 43)
    | 278 => (1, 0, 1440)
    | 279 => (1, 0, 8)
    | 280 => (1, 0, 6)
    | _ => (1, 0, 4)
def xw_N : Nat := 282
def xw_A2 : String := "CertificatePath$Certificate"
def xw_A3 : String := "CertificatePath$Name"
def xw_A4 : String := "CertificatePath$Extension"
/-- where the references lead, within a certificate at place q, offset j -/
def xw_lc (q j k : Nat) : Option Nat :=
  if j = 0 then (match k with
    | 1 => some (q + 1)
    | 4 => some (q + 3)
    | 9 => some (q + 5)
    | 14 => some (q + 14)
    | 15 => some (q + 22)
    | _ => none)
  else if j = 5 then (if k < 4 then some (q + 1 + 2 * k) else none)
  else if j = 15 ∨ j = 23 then (if k < 3 then some (q + 1 + 2 * k) else none)
  else if 6 ≤ j ∧ j < 14 then (if k = 2 then some (q + 1) else none)
  else (if k = 0 then some (q + 1) else none)
def xw_lk : xl_L := fun q k =>
  if q < 6 then (match q with
    | 0 => (match k with
      | 0 => some 1
      | 1 => some 2
      | 2 => some 5
      | 4 => some 276
      | _ => none)
    | 1 => (match k with
      | 0 => some 2
      | 1 => some 4
      | _ => none)
    | 2 => (match k with
      | 0 => some 3
      | _ => none)
    | 5 => if k < 9 then some (6 + 30 * k) else none
    | _ => none)
  else if q < 276 then xw_lc q ((q - 6) % 30) k
  else if q = 277 then (match k with
    | 0 => some 278
    | 3 => some 279
    | 4 => some 280
    | 26 => some 281
    | _ => none)
  else none
def xw_isN : Cond → Bool
  | .fieldLinkNest .. => true
  | .methodLinkNest .. => true
  | _ => false
def xw_W : List Cond := lw_tbl.filter goodWord
def xw_NW : List Cond := lw_tbl.filter xw_isN
theorem xw_good : GoodIn xw_W xw_W := fun w hw => ⟨hw, good_of_word (List.mem_filter.mp hw).2⟩
theorem xw_NWf : ∀ w ∈ xw_NW, (∃ (a : String) (i : Nat) (b n d h : String), w = .fieldLinkNest a i b n d h) ∨ ∃ (a : String) (i : Nat) (x : MethodName) (h : String), w = .methodLinkNest a i x h := by
  intro w hw
  have h := (List.mem_filter.mp hw).2
  cases w <;> first | (simp [xw_isN] at h; done) | exact Or.inl ⟨_, _, _, _, _, _, rfl⟩ | exact Or.inr ⟨_, _, _, _, rfl⟩
theorem xw_NWt : ∀ w ∈ xw_NW, w.onTables = true := by
  intro w hw
  rcases xw_NWf w hw with ⟨a, i, b, n, d, h, rfl⟩ | ⟨a, i, x, h, rfl⟩ <;> rfl
theorem xw_in {w : Cond} (i : Nat) (h : tables_1[i]? = some w) (hg : goodWord w = true) : w ∈ xw_W := List.mem_filter.mpr ⟨List.mem_append_right _ (List.mem_of_getElem? h), hg⟩
theorem xw_inP {w : Cond} (i : Nat) (h : (k2_sels lw_privs)[i]? = some w) (hg : goodWord w = true) : w ∈ xw_W := List.mem_filter.mpr ⟨List.mem_append_left _ (List.mem_of_getElem? h), hg⟩
theorem xw_inN {w : Cond} (i : Nat) (h : tables_1[i]? = some w) (hg : xw_isN w = true) : w ∈ xw_NW := List.mem_filter.mpr ⟨List.mem_append_right _ (List.mem_of_getElem? h), hg⟩
abbrev xc_q : Type := MethodName × ByteArray × Nat × Option FieldType
abbrev qm_CP_init : xc_q := (⟨"CertificatePath", "<init>", "()V"⟩, prog_1_method_1_code, 2, none)
abbrev qm_RD_init : xc_q := (⟨"CertificatePath$Reader", "<init>", "()V"⟩, prog_7_method_1_code, 1, none)
abbrev qm_BR_init : xc_q := (⟨"CertificatePath$ByteRow", "<init>", "()V"⟩, prog_2_method_1_code, 1, none)
abbrev qm_CT_init : xc_q := (⟨"CertificatePath$Certificate", "<init>", "()V"⟩, prog_3_method_1_code, 2, none)
abbrev qm_NM_init : xc_q := (⟨"CertificatePath$Name", "<init>", "()V"⟩, prog_5_method_1_code, 1, none)
abbrev qm_EX_init : xc_q := (⟨"CertificatePath$Extension", "<init>", "()V"⟩, prog_4_method_1_code, 1, none)
abbrev qm_NL_init : xc_q := (⟨"CertificatePath$NameList", "<init>", "()V"⟩, prog_6_method_1_code, 2, none)
abbrev qm_CT_forgetExtensions : xc_q := (⟨"CertificatePath$Certificate", "forgetExtensions", "()V"⟩, prog_3_method_2_code, 1, none)
abbrev qm_CP_feed : xc_q := (⟨"CertificatePath", "feed", "(II)Z"⟩, prog_1_method_2_code, 4, (some .boolean))
abbrev qm_BR_append : xc_q := (⟨"CertificatePath$ByteRow", "append", "(I)I"⟩, prog_2_method_4_code, 2, (some .int))
abbrev qm_CP_set : xc_q := (⟨"CertificatePath", "set", "(II)Z"⟩, prog_1_method_3_code, 3, (some .boolean))
abbrev qm_BR_has : xc_q := (⟨"CertificatePath$ByteRow", "has", "(I)Z"⟩, prog_2_method_2_code, 2, (some .boolean))
abbrev qm_CP_trim : xc_q := (⟨"CertificatePath", "trim", "(I)Z"⟩, prog_1_method_4_code, 2, (some .boolean))
abbrev qm_CP_length : xc_q := (⟨"CertificatePath", "length", "()I"⟩, prog_1_method_5_code, 1, (some .int))
abbrev qm_CP_byteAt : xc_q := (⟨"CertificatePath", "byteAt", "(I)I"⟩, prog_1_method_6_code, 2, (some .int))
abbrev qm_CP_hash : xc_q := (⟨"CertificatePath", "hash", "(II)I"⟩, prog_1_method_7_code, 3, (some .int))
abbrev qm_BR_hashBetween : xc_q := (⟨"CertificatePath$ByteRow", "hashBetween", "(II)I"⟩, prog_2_method_3_code, 5, (some .int))
abbrev qm_CP_accept : xc_q := (⟨"CertificatePath", "accept", "()I"⟩, prog_1_method_8_code, 1, (some .int))
abbrev qm_CT_readFrom : xc_q := (⟨"CertificatePath$Certificate", "readFrom", "(LCertificatePath$Reader;)Z"⟩, prog_3_method_11_code, 3, (some .boolean))
abbrev qm_RD_start : xc_q := (⟨"CertificatePath$Reader", "start", "()V"⟩, prog_7_method_2_code, 1, none)
abbrev qm_RD_open : xc_q := (⟨"CertificatePath$Reader", "open", "(I)V"⟩, prog_7_method_9_code, 5, none)
abbrev qm_CT_readHead : xc_q := (⟨"CertificatePath$Certificate", "readHead", "(LCertificatePath$Reader;)V"⟩, prog_3_method_12_code, 2, none)
abbrev qm_RD_readInteger : xc_q := (⟨"CertificatePath$Reader", "readInteger", "(II)I"⟩, prog_7_method_11_code, 8, (some .int))
abbrev qm_RD_remaining : xc_q := (⟨"CertificatePath$Reader", "remaining", "()I"⟩, prog_7_method_5_code, 1, (some .int))
abbrev qm_RD_refuse : xc_q := (⟨"CertificatePath$Reader", "refuse", "()V"⟩, prog_7_method_3_code, 1, none)
abbrev qm_RD_readByte : xc_q := (⟨"CertificatePath$Reader", "readByte", "()I"⟩, prog_7_method_8_code, 1, (some .int))
abbrev qm_RD_close : xc_q := (⟨"CertificatePath$Reader", "close", "()V"⟩, prog_7_method_10_code, 1, none)
abbrev qm_NM_readFrom : xc_q := (⟨"CertificatePath$Name", "readFrom", "(LCertificatePath$Reader;)V"⟩, prog_5_method_4_code, 6, none)
abbrev qm_RD_nextIs : xc_q := (⟨"CertificatePath$Reader", "nextIs", "(I)Z"⟩, prog_7_method_7_code, 2, (some .boolean))
abbrev qm_CT_readExtension : xc_q := (⟨"CertificatePath$Certificate", "readExtension", "(LCertificatePath$Reader;LCertificatePath$Extension;)V"⟩, prog_3_method_13_code, 4, none)
abbrev qm_CT_hasExtension : xc_q := (⟨"CertificatePath$Certificate", "hasExtension", "(I)Z"⟩, prog_3_method_14_code, 3, (some .boolean))
abbrev qm_RD_readTrueIfThere : xc_q := (⟨"CertificatePath$Reader", "readTrueIfThere", "()Z"⟩, prog_7_method_12_code, 1, (some .boolean))
abbrev qm_CT_readBasic : xc_q := (⟨"CertificatePath$Certificate", "readBasic", "(LCertificatePath$Reader;)V"⟩, prog_3_method_15_code, 2, none)
abbrev qm_CT_readUsage : xc_q := (⟨"CertificatePath$Certificate", "readUsage", "(LCertificatePath$Reader;)V"⟩, prog_3_method_16_code, 4, none)
abbrev qm_CT_zerosBehind : xc_q := (⟨"CertificatePath$Certificate", "zerosBehind", "(I)I"⟩, prog_3_method_25_code, 2, (some .int))
abbrev qm_CT_mirrored : xc_q := (⟨"CertificatePath$Certificate", "mirrored", "(I)I"⟩, prog_3_method_24_code, 3, (some .int))
abbrev qm_CT_readBounds : xc_q := (⟨"CertificatePath$Certificate", "readBounds", "(LCertificatePath$Reader;)V"⟩, prog_3_method_17_code, 2, none)
abbrev qm_NL_readIfThere : xc_q := (⟨"CertificatePath$NameList", "readIfThere", "(LCertificatePath$Reader;I)V"⟩, prog_6_method_3_code, 3, none)
abbrev qm_EX_readOctets : xc_q := (⟨"CertificatePath$Extension", "readOctets", "(LCertificatePath$Reader;)V"⟩, prog_4_method_3_code, 3, none)
abbrev qm_RD_hashSince : xc_q := (⟨"CertificatePath$Reader", "hashSince", "(I)I"⟩, prog_7_method_6_code, 2, (some .int))
abbrev qm_RD_isAtEndOfRow : xc_q := (⟨"CertificatePath$Reader", "isAtEndOfRow", "()Z"⟩, prog_7_method_4_code, 1, (some .boolean))
abbrev qm_CP_count : xc_q := (⟨"CertificatePath", "count", "()I"⟩, prog_1_method_9_code, 1, (some .int))
abbrev qm_CP_field : xc_q := (⟨"CertificatePath", "field", "(II)I"⟩, prog_1_method_10_code, 3, (some .int))
abbrev qm_CP_isKept : xc_q := (⟨"CertificatePath", "isKept", "(I)Z"⟩, prog_1_method_18_code, 2, (some .boolean))
abbrev qm_CT_fieldNumbered : xc_q := (⟨"CertificatePath$Certificate", "fieldNumbered", "(I)I"⟩, prog_3_method_3_code, 2, (some .int))
abbrev qm_CP_within : xc_q := (⟨"CertificatePath", "within", "(IZIZ)Z"⟩, prog_1_method_11_code, 5, (some .boolean))
abbrev qm_CP_nameOf : xc_q := (⟨"CertificatePath", "nameOf", "(IZ)LCertificatePath$Name;"⟩, prog_1_method_19_code, 3, (some (.object "CertificatePath$Name")))
abbrev qm_NM_isWithin : xc_q := (⟨"CertificatePath$Name", "isWithin", "(LCertificatePath$Name;)Z"⟩, prog_5_method_2_code, 3, (some .boolean))
abbrev qm_CP_recode : xc_q := (⟨"CertificatePath", "recode", "(I)I"⟩, prog_1_method_12_code, 2, (some .int))
abbrev qm_CT_writeTo : xc_q := (⟨"CertificatePath$Certificate", "writeTo", "(LCertificatePath$ByteRow;)V"⟩, prog_3_method_18_code, 7, none)
abbrev qm_CT_writeHead : xc_q := (⟨"CertificatePath$Certificate", "writeHead", "(LCertificatePath$ByteRow;)V"⟩, prog_3_method_19_code, 4, none)
abbrev qm_BR_appendInteger : xc_q := (⟨"CertificatePath$ByteRow", "appendInteger", "(I)V"⟩, prog_2_method_6_code, 5, none)
abbrev qm_BR_insertLength : xc_q := (⟨"CertificatePath$ByteRow", "insertLength", "(I)V"⟩, prog_2_method_5_code, 5, none)
abbrev qm_NM_writeTo : xc_q := (⟨"CertificatePath$Name", "writeTo", "(LCertificatePath$ByteRow;)V"⟩, prog_5_method_5_code, 7, none)
abbrev qm_CT_writeExtension : xc_q := (⟨"CertificatePath$Certificate", "writeExtension", "(LCertificatePath$ByteRow;LCertificatePath$Extension;)V"⟩, prog_3_method_20_code, 5, none)
abbrev qm_BR_appendTrue : xc_q := (⟨"CertificatePath$ByteRow", "appendTrue", "()V"⟩, prog_2_method_7_code, 2, none)
abbrev qm_CT_writeBasic : xc_q := (⟨"CertificatePath$Certificate", "writeBasic", "(LCertificatePath$ByteRow;)V"⟩, prog_3_method_21_code, 3, none)
abbrev qm_CT_writeUsage : xc_q := (⟨"CertificatePath$Certificate", "writeUsage", "(LCertificatePath$ByteRow;)V"⟩, prog_3_method_22_code, 4, none)
abbrev qm_CT_writeBounds : xc_q := (⟨"CertificatePath$Certificate", "writeBounds", "(LCertificatePath$ByteRow;)V"⟩, prog_3_method_23_code, 3, none)
abbrev qm_NL_writeIfThere : xc_q := (⟨"CertificatePath$NameList", "writeIfThere", "(LCertificatePath$ByteRow;I)V"⟩, prog_6_method_4_code, 5, none)
abbrev qm_EX_writeOctets : xc_q := (⟨"CertificatePath$Extension", "writeOctets", "(LCertificatePath$ByteRow;)V"⟩, prog_4_method_4_code, 3, none)
abbrev qm_CP_link : xc_q := (⟨"CertificatePath", "link", "(I)Z"⟩, prog_1_method_13_code, 2, (some .boolean))
abbrev qm_CP_unlink : xc_q := (⟨"CertificatePath", "unlink", "()Z"⟩, prog_1_method_14_code, 1, (some .boolean))
abbrev qm_CP_links : xc_q := (⟨"CertificatePath", "links", "()I"⟩, prog_1_method_15_code, 1, (some .int))
abbrev qm_CP_check : xc_q := (⟨"CertificatePath", "check", "(III)I"⟩, prog_1_method_16_code, 10, (some .int))
abbrev qm_CP_brokenAnywhere : xc_q := (⟨"CertificatePath", "brokenAnywhere", "(LCertificatePath$Certificate;II)I"⟩, prog_1_method_20_code, 6, (some .int))
abbrev qm_CT_isSignedBy : xc_q := (⟨"CertificatePath$Certificate", "isSignedBy", "(II)Z"⟩, prog_3_method_5_code, 8, (some .boolean))
abbrev qm_NM_isSameAs : xc_q := (⟨"CertificatePath$Name", "isSameAs", "(LCertificatePath$Name;)Z"⟩, prog_5_method_3_code, 2, (some .boolean))
abbrev qm_CT_isSelfIssued : xc_q := (⟨"CertificatePath$Certificate", "isSelfIssued", "()Z"⟩, prog_3_method_4_code, 1, (some .boolean))
abbrev qm_CP_isWithinBoundsBefore : xc_q := (⟨"CertificatePath", "isWithinBoundsBefore", "(I)Z"⟩, prog_1_method_21_code, 4, (some .boolean))
abbrev qm_CT_allows : xc_q := (⟨"CertificatePath$Certificate", "allows", "(LCertificatePath$Name;)Z"⟩, prog_3_method_7_code, 2, (some .boolean))
abbrev qm_NL_covers : xc_q := (⟨"CertificatePath$NameList", "covers", "(LCertificatePath$Name;)Z"⟩, prog_6_method_2_code, 3, (some .boolean))
abbrev qm_CT_hasUnknownCritical : xc_q := (⟨"CertificatePath$Certificate", "hasUnknownCritical", "()Z"⟩, prog_3_method_6_code, 2, (some .boolean))
abbrev qm_EX_isKnown : xc_q := (⟨"CertificatePath$Extension", "isKnown", "()Z"⟩, prog_4_method_2_code, 1, (some .boolean))
abbrev qm_CT_brokenAsLast : xc_q := (⟨"CertificatePath$Certificate", "brokenAsLast", "(I)I"⟩, prog_3_method_9_code, 2, (some .int))
abbrev qm_CT_brokenAsHolder : xc_q := (⟨"CertificatePath$Certificate", "brokenAsHolder", "(I)I"⟩, prog_3_method_8_code, 2, (some .int))
abbrev qm_CT_restBehind : xc_q := (⟨"CertificatePath$Certificate", "restBehind", "(I)I"⟩, prog_3_method_10_code, 3, (some .int))
abbrev qm_CP_reset : xc_q := (⟨"CertificatePath", "reset", "()V"⟩, prog_1_method_17_code, 1, none)
abbrev qm_MD_init : xc_q := (⟨"CertificatePathModel", "<init>", "()V"⟩, prog_9_method_1_code, 1, none)
abbrev qm_MD_feed : xc_q := (⟨"CertificatePathModel", "feed", "(II)Z"⟩, prog_9_method_2_code, 4, (some .boolean))
abbrev qm_MD_set : xc_q := (⟨"CertificatePathModel", "set", "(II)Z"⟩, prog_9_method_3_code, 3, (some .boolean))
abbrev qm_MD_trim : xc_q := (⟨"CertificatePathModel", "trim", "(I)Z"⟩, prog_9_method_4_code, 2, (some .boolean))
abbrev qm_MD_length : xc_q := (⟨"CertificatePathModel", "length", "()I"⟩, prog_9_method_5_code, 1, (some .int))
abbrev qm_MD_byteAt : xc_q := (⟨"CertificatePathModel", "byteAt", "(I)I"⟩, prog_9_method_6_code, 2, (some .int))
abbrev qm_MD_hash : xc_q := (⟨"CertificatePathModel", "hash", "(II)I"⟩, prog_9_method_8_code, 3, (some .int))
abbrev qm_MD_hashed : xc_q := (⟨"CertificatePathModel", "hashed", "(II)I"⟩, prog_9_method_7_code, 6, (some .int))
abbrev qm_MD_accept : xc_q := (⟨"CertificatePathModel", "accept", "()I"⟩, prog_9_method_26_code, 2, (some .int))
abbrev qm_MD_read : xc_q := (⟨"CertificatePathModel", "read", "(II)Z"⟩, prog_9_method_23_code, 4, (some .boolean))
abbrev qm_MD_enter : xc_q := (⟨"CertificatePathModel", "enter", "(II)I"⟩, prog_9_method_10_code, 4, (some .int))
abbrev qm_MD_tagged : xc_q := (⟨"CertificatePathModel", "tagged", "(II)Z"⟩, prog_9_method_9_code, 3, (some .boolean))
abbrev qm_MD_body : xc_q := (⟨"CertificatePathModel", "body", "(I)V"⟩, prog_9_method_22_code, 4, none)
abbrev qm_MD_integer : xc_q := (⟨"CertificatePathModel", "integer", "(I)I"⟩, prog_9_method_12_code, 6, (some .int))
abbrev qm_MD_name : xc_q := (⟨"CertificatePathModel", "name", "(I)V"⟩, prog_9_method_14_code, 5, none)
abbrev qm_MD_leave : xc_q := (⟨"CertificatePathModel", "leave", "(I)V"⟩, prog_9_method_11_code, 2, none)
abbrev qm_MD_key : xc_q := (⟨"CertificatePathModel", "key", "(I)V"⟩, prog_9_method_20_code, 3, none)
abbrev qm_MD_more : xc_q := (⟨"CertificatePathModel", "more", "(I)V"⟩, prog_9_method_21_code, 4, none)
abbrev qm_MD_extension : xc_q := (⟨"CertificatePathModel", "extension", "(I)V"⟩, prog_9_method_19_code, 6, none)
abbrev qm_MD_truth : xc_q := (⟨"CertificatePathModel", "truth", "(I)Z"⟩, prog_9_method_13_code, 3, (some .boolean))
abbrev qm_MD_basicContent : xc_q := (⟨"CertificatePathModel", "basicContent", "(I)V"⟩, prog_9_method_16_code, 3, none)
abbrev qm_MD_usageBits : xc_q := (⟨"CertificatePathModel", "usageBits", "(I)V"⟩, prog_9_method_15_code, 7, none)
abbrev qm_MD_bounds : xc_q := (⟨"CertificatePathModel", "bounds", "(I)V"⟩, prog_9_method_18_code, 3, none)
abbrev qm_MD_names : xc_q := (⟨"CertificatePathModel", "names", "(II)I"⟩, prog_9_method_17_code, 5, (some .int))
abbrev qm_MD_count : xc_q := (⟨"CertificatePathModel", "count", "()I"⟩, prog_9_method_27_code, 1, (some .int))
abbrev qm_MD_field : xc_q := (⟨"CertificatePathModel", "field", "(II)I"⟩, prog_9_method_28_code, 3, (some .int))
abbrev qm_MD_fetch : xc_q := (⟨"CertificatePathModel", "fetch", "(I)Z"⟩, prog_9_method_25_code, 2, (some .boolean))
abbrev qm_MD_kept : xc_q := (⟨"CertificatePathModel", "kept", "(I)Z"⟩, prog_9_method_24_code, 2, (some .boolean))
abbrev qm_MD_within : xc_q := (⟨"CertificatePathModel", "within", "(IZIZ)Z"⟩, prog_9_method_31_code, 7, (some .boolean))
abbrev qm_MD_inside : xc_q := (⟨"CertificatePathModel", "inside", "(IIII)Z"⟩, prog_9_method_29_code, 7, (some .boolean))
abbrev qm_MD_recode : xc_q := (⟨"CertificatePathModel", "recode", "(I)I"⟩, prog_9_method_32_code, 3, (some .int))
abbrev qm_MD_link : xc_q := (⟨"CertificatePathModel", "link", "(I)Z"⟩, prog_9_method_33_code, 2, (some .boolean))
abbrev qm_MD_unlink : xc_q := (⟨"CertificatePathModel", "unlink", "()Z"⟩, prog_9_method_34_code, 1, (some .boolean))
abbrev qm_MD_links : xc_q := (⟨"CertificatePathModel", "links", "()I"⟩, prog_9_method_35_code, 1, (some .int))
abbrev qm_MD_check : xc_q := (⟨"CertificatePathModel", "check", "(III)I"⟩, prog_9_method_41_code, 6, (some .int))
abbrev qm_MD_takeKey : xc_q := (⟨"CertificatePathModel", "takeKey", "()V"⟩, prog_9_method_39_code, 1, none)
abbrev qm_MD_broken : xc_q := (⟨"CertificatePathModel", "broken", "(III)I"⟩, prog_9_method_40_code, 7, (some .int))
abbrev qm_MD_signedByKey : xc_q := (⟨"CertificatePathModel", "signedByKey", "()Z"⟩, prog_9_method_38_code, 4, (some .boolean))
abbrev qm_MD_equalNames : xc_q := (⟨"CertificatePathModel", "equalNames", "(IIII)Z"⟩, prog_9_method_30_code, 5, (some .boolean))
abbrev qm_MD_passes : xc_q := (⟨"CertificatePathModel", "passes", "(III)Z"⟩, prog_9_method_37_code, 6, (some .boolean))
abbrev qm_MD_some : xc_q := (⟨"CertificatePathModel", "some", "(IIII)Z"⟩, prog_9_method_36_code, 7, (some .boolean))
abbrev qm_MD_reset : xc_q := (⟨"CertificatePathModel", "reset", "()V"⟩, prog_9_method_42_code, 1, none)
end
section
/-! the words of fields and calls, by their places in the tables -/
theorem wi_CP : ∀ w ∈ u_ws "CertificatePath" tk_CP 6, w ∈ xw_W := by decide +kernel
theorem wi_RD : ∀ w ∈ u_ws "CertificatePath$Reader" tk_RD 5, w ∈ xw_W := by decide +kernel
theorem wi_BR : ∀ w ∈ u_ws "CertificatePath$ByteRow" tk_BR 2, w ∈ xw_W := by decide +kernel
theorem wi_NM : ∀ w ∈ u_ws "CertificatePath$Name" tk_NM 2, w ∈ xw_W := by decide +kernel
theorem wi_NL : ∀ w ∈ u_ws "CertificatePath$NameList" tk_NL 2, w ∈ xw_W := by decide +kernel
theorem wi_EX : ∀ w ∈ u_ws "CertificatePath$Extension" tk_EX 4, w ∈ xw_W := by decide +kernel
theorem wi_CT : ∀ w ∈ u_ws "CertificatePath$Certificate" tk_CT 16, w ∈ xw_W := by decide +kernel
theorem wi_MD : ∀ w ∈ u_ws "CertificatePathModel" tk_MD 43, w ∈ xw_W := by decide +kernel
/-- a field's word and its tables -/
def xf_L (own : String) (idx ci n k : Nat) (fin : Bool) (ty : FieldType) : Prop :=
  ∃ (C : String) (T : u_T) (tf : Nat → FieldType), xw_Cl[ci]? = some (C, T, n) ∧ k < n ∧ (∀ w ∈ u_ws C T n, w ∈ xw_W) ∧ (Cond.fieldLink own idx (T k).1 (T k).2.1 (T k).2.2.1 ∈ xw_W ∨ ∃ host : String, Cond.fieldLinkNest own idx (T k).1 (T k).2.1 (T k).2.2.1 host ∈ xw_NW) ∧ (T k).2.2.2 = fin ∧ parseFieldDescriptor (T k).2.2.1 = some ty ∧ (∀ k, k < n → parseFieldDescriptor (T k).2.2.1 = some (tf k)) ∧ (∀ a, a < n → ∀ b, b < n → a ≠ b → (T a).2.1 ≠ (T b).2.1)
/-- the words of a call: plain or between nest mates -/
def xc_L (own : String) (idx : Nat) (q : xc_q) (n : Nat) : Prop := (Cond.methodLink own idx q.1 ∈ xw_W ∨ ∃ host : String, Cond.methodLinkNest own idx q.1 host ∈ xw_NW) ∧ Cond.initialized q.1.cls ∈ xw_W ∧ Cond.code q.1 q.2.1 q.2.2.1 q.2.2.2 ∈ xw_W ∧ (q.1.cls ≠ "java/lang/invoke/MethodHandle" ∧ q.1.cls ≠ "java/lang/invoke/VarHandle") ∧ (parseMethodDescriptor q.1.desc).map (fun d => d.parameters.length) = some n
def xc_LV (q : xc_q) : Prop := Cond.instanceMethod q.1 ∈ xw_W ∧ Cond.selects q.1.cls q.1 q.1 ∈ xw_W
def xc_LS (q : xc_q) : Prop := Cond.static q.1 ∈ xw_W
theorem ml_LW_9 : xc_L "CertificatePathLaw" 9 qm_CP_init 0 := ⟨Or.inl (xw_in 11 (by decide +kernel) rfl), xw_in 1 (by decide +kernel) rfl, xw_in 13 (by decide +kernel) rfl, ⟨by decide +kernel, by decide +kernel⟩, by decide +kernel⟩
theorem ml_CP_9 : xc_L "CertificatePath" 9 qm_RD_init 0 := ⟨Or.inl (xw_in 19 (by decide +kernel) rfl), xw_in 2 (by decide +kernel) rfl, xw_in 21 (by decide +kernel) rfl, ⟨by decide +kernel, by decide +kernel⟩, by decide +kernel⟩
theorem ml_RD_11 : xc_L "CertificatePath$Reader" 11 qm_BR_init 0 := ⟨Or.inl (xw_in 25 (by decide +kernel) rfl), xw_in 3 (by decide +kernel) rfl, xw_in 27 (by decide +kernel) rfl, ⟨by decide +kernel, by decide +kernel⟩, by decide +kernel⟩
theorem fl_BR_9 : xf_L "CertificatePath$ByteRow" 9 2 2 0 true (.array .int) := ⟨"CertificatePath$ByteRow", tk_BR, ty_BR, rfl, by decide, wi_BR, Or.inl (xw_in 29 (by decide +kernel) rfl), rfl, by decide +kernel, to_BR, tn_BR⟩
theorem fl_CP_54 : xf_L "CertificatePath" 54 2 2 0 true (.array .int) := ⟨"CertificatePath$ByteRow", tk_BR, ty_BR, rfl, by decide, wi_BR, Or.inr ⟨"CertificatePath", xw_inN 30 (by decide +kernel) rfl⟩, rfl, by decide +kernel, to_BR, tn_BR⟩
theorem fl_RD_40 : xf_L "CertificatePath$Reader" 40 2 2 0 true (.array .int) := ⟨"CertificatePath$ByteRow", tk_BR, ty_BR, rfl, by decide, wi_BR, Or.inr ⟨"CertificatePath", xw_inN 31 (by decide +kernel) rfl⟩, rfl, by decide +kernel, to_BR, tn_BR⟩
theorem fl_BR_15 : xf_L "CertificatePath$ByteRow" 15 2 2 1 false (.int) := ⟨"CertificatePath$ByteRow", tk_BR, ty_BR, rfl, by decide, wi_BR, Or.inl (xw_in 32 (by decide +kernel) rfl), rfl, by decide +kernel, to_BR, tn_BR⟩
theorem fl_RD_33 : xf_L "CertificatePath$Reader" 33 2 2 1 false (.int) := ⟨"CertificatePath$ByteRow", tk_BR, ty_BR, rfl, by decide, wi_BR, Or.inr ⟨"CertificatePath", xw_inN 33 (by decide +kernel) rfl⟩, rfl, by decide +kernel, to_BR, tn_BR⟩
theorem fl_CP_41 : xf_L "CertificatePath" 41 2 2 1 false (.int) := ⟨"CertificatePath$ByteRow", tk_BR, ty_BR, rfl, by decide, wi_BR, Or.inr ⟨"CertificatePath", xw_inN 34 (by decide +kernel) rfl⟩, rfl, by decide +kernel, to_BR, tn_BR⟩
theorem fl_RD_12 : xf_L "CertificatePath$Reader" 12 1 5 0 true (.object "CertificatePath$ByteRow") := ⟨"CertificatePath$Reader", tk_RD, ty_RD, rfl, by decide, wi_RD, Or.inl (xw_in 41 (by decide +kernel) rfl), rfl, by decide +kernel, to_RD, tn_RD⟩
theorem fl_CP_16 : xf_L "CertificatePath" 16 1 5 0 true (.object "CertificatePath$ByteRow") := ⟨"CertificatePath$Reader", tk_RD, ty_RD, rfl, by decide, wi_RD, Or.inr ⟨"CertificatePath", xw_inN 42 (by decide +kernel) rfl⟩, rfl, by decide +kernel, to_RD, tn_RD⟩
theorem fl_RD_18 : xf_L "CertificatePath$Reader" 18 1 5 1 true (.array .int) := ⟨"CertificatePath$Reader", tk_RD, ty_RD, rfl, by decide, wi_RD, Or.inl (xw_in 43 (by decide +kernel) rfl), rfl, by decide +kernel, to_RD, tn_RD⟩
theorem fl_RD_22 : xf_L "CertificatePath$Reader" 22 1 5 2 false (.int) := ⟨"CertificatePath$Reader", tk_RD, ty_RD, rfl, by decide, wi_RD, Or.inl (xw_in 44 (by decide +kernel) rfl), rfl, by decide +kernel, to_RD, tn_RD⟩
theorem fl_RD_26 : xf_L "CertificatePath$Reader" 26 1 5 3 false (.int) := ⟨"CertificatePath$Reader", tk_RD, ty_RD, rfl, by decide, wi_RD, Or.inl (xw_in 45 (by decide +kernel) rfl), rfl, by decide +kernel, to_RD, tn_RD⟩
theorem fl_CT_106 : xf_L "CertificatePath$Certificate" 106 1 5 3 false (.int) := ⟨"CertificatePath$Reader", tk_RD, ty_RD, rfl, by decide, wi_RD, Or.inr ⟨"CertificatePath", xw_inN 46 (by decide +kernel) rfl⟩, rfl, by decide +kernel, to_RD, tn_RD⟩
theorem fl_RD_29 : xf_L "CertificatePath$Reader" 29 1 5 4 false (.boolean) := ⟨"CertificatePath$Reader", tk_RD, ty_RD, rfl, by decide, wi_RD, Or.inl (xw_in 47 (by decide +kernel) rfl), rfl, by decide +kernel, to_RD, tn_RD⟩
theorem ml_CP_29 : xc_L "CertificatePath" 29 qm_CT_init 0 := ⟨Or.inl (xw_in 62 (by decide +kernel) rfl), xw_in 4 (by decide +kernel) rfl, xw_in 64 (by decide +kernel) rfl, ⟨by decide +kernel, by decide +kernel⟩, by decide +kernel⟩
theorem ml_CT_11 : xc_L "CertificatePath$Certificate" 11 qm_NM_init 0 := ⟨Or.inl (xw_in 68 (by decide +kernel) rfl), xw_in 5 (by decide +kernel) rfl, xw_in 70 (by decide +kernel) rfl, ⟨by decide +kernel, by decide +kernel⟩, by decide +kernel⟩
theorem fl_NM_9 : xf_L "CertificatePath$Name" 9 3 2 0 true (.array .long) := ⟨"CertificatePath$Name", tk_NM, ty_NM, rfl, by decide, wi_NM, Or.inl (xw_in 72 (by decide +kernel) rfl), rfl, by decide +kernel, to_NM, tn_NM⟩
theorem fl_NM_15 : xf_L "CertificatePath$Name" 15 3 2 1 false (.int) := ⟨"CertificatePath$Name", tk_NM, ty_NM, rfl, by decide, wi_NM, Or.inl (xw_in 73 (by decide +kernel) rfl), rfl, by decide +kernel, to_NM, tn_NM⟩
theorem fl_CT_79 : xf_L "CertificatePath$Certificate" 79 3 2 1 false (.int) := ⟨"CertificatePath$Name", tk_NM, ty_NM, rfl, by decide, wi_NM, Or.inr ⟨"CertificatePath", xw_inN 74 (by decide +kernel) rfl⟩, rfl, by decide +kernel, to_NM, tn_NM⟩
theorem ml_CT_27 : xc_L "CertificatePath$Certificate" 27 qm_EX_init 0 := ⟨Or.inl (xw_in 84 (by decide +kernel) rfl), xw_in 6 (by decide +kernel) rfl, xw_in 86 (by decide +kernel) rfl, ⟨by decide +kernel, by decide +kernel⟩, by decide +kernel⟩
theorem fl_EX_9 : xf_L "CertificatePath$Extension" 9 5 4 0 false (.int) := ⟨"CertificatePath$Extension", tk_EX, ty_EX, rfl, by decide, wi_EX, Or.inl (xw_in 88 (by decide +kernel) rfl), rfl, by decide +kernel, to_EX, tn_EX⟩
theorem fl_CT_149 : xf_L "CertificatePath$Certificate" 149 5 4 0 false (.int) := ⟨"CertificatePath$Extension", tk_EX, ty_EX, rfl, by decide, wi_EX, Or.inr ⟨"CertificatePath", xw_inN 89 (by decide +kernel) rfl⟩, rfl, by decide +kernel, to_EX, tn_EX⟩
theorem fl_EX_15 : xf_L "CertificatePath$Extension" 15 5 4 1 false (.boolean) := ⟨"CertificatePath$Extension", tk_EX, ty_EX, rfl, by decide, wi_EX, Or.inl (xw_in 90 (by decide +kernel) rfl), rfl, by decide +kernel, to_EX, tn_EX⟩
theorem fl_CT_84 : xf_L "CertificatePath$Certificate" 84 5 4 1 false (.boolean) := ⟨"CertificatePath$Extension", tk_EX, ty_EX, rfl, by decide, wi_EX, Or.inr ⟨"CertificatePath", xw_inN 91 (by decide +kernel) rfl⟩, rfl, by decide +kernel, to_EX, tn_EX⟩
theorem fl_EX_19 : xf_L "CertificatePath$Extension" 19 5 4 2 true (.array .int) := ⟨"CertificatePath$Extension", tk_EX, ty_EX, rfl, by decide, wi_EX, Or.inl (xw_in 92 (by decide +kernel) rfl), rfl, by decide +kernel, to_EX, tn_EX⟩
theorem fl_EX_23 : xf_L "CertificatePath$Extension" 23 5 4 3 false (.int) := ⟨"CertificatePath$Extension", tk_EX, ty_EX, rfl, by decide, wi_EX, Or.inl (xw_in 93 (by decide +kernel) rfl), rfl, by decide +kernel, to_EX, tn_EX⟩
theorem ml_CT_30 : xc_L "CertificatePath$Certificate" 30 qm_NL_init 0 := ⟨Or.inl (xw_in 105 (by decide +kernel) rfl), xw_in 7 (by decide +kernel) rfl, xw_in 107 (by decide +kernel) rfl, ⟨by decide +kernel, by decide +kernel⟩, by decide +kernel⟩
theorem ml_NL_17 : xc_L "CertificatePath$NameList" 17 qm_NM_init 0 := ⟨Or.inl (xw_in 111 (by decide +kernel) rfl), xw_in 5 (by decide +kernel) rfl, xw_in 70 (by decide +kernel) rfl, ⟨by decide +kernel, by decide +kernel⟩, by decide +kernel⟩
theorem fl_NL_11 : xf_L "CertificatePath$NameList" 11 4 2 0 true (.array (.object "CertificatePath$Name")) := ⟨"CertificatePath$NameList", tk_NL, ty_NL, rfl, by decide, wi_NL, Or.inl (xw_in 112 (by decide +kernel) rfl), rfl, by decide +kernel, to_NL, tn_NL⟩
theorem fl_NL_18 : xf_L "CertificatePath$NameList" 18 4 2 1 false (.int) := ⟨"CertificatePath$NameList", tk_NL, ty_NL, rfl, by decide, wi_NL, Or.inl (xw_in 113 (by decide +kernel) rfl), rfl, by decide +kernel, to_NL, tn_NL⟩
theorem fl_CT_55 : xf_L "CertificatePath$Certificate" 55 4 2 1 false (.int) := ⟨"CertificatePath$NameList", tk_NL, ty_NL, rfl, by decide, wi_NL, Or.inr ⟨"CertificatePath", xw_inN 114 (by decide +kernel) rfl⟩, rfl, by decide +kernel, to_NL, tn_NL⟩
theorem ml_CT_38 : xc_L "CertificatePath$Certificate" 38 qm_CT_forgetExtensions 0 := ⟨Or.inl (xw_in 120 (by decide +kernel) rfl), xw_in 4 (by decide +kernel) rfl, xw_in 123 (by decide +kernel) rfl, ⟨by decide +kernel, by decide +kernel⟩, by decide +kernel⟩
theorem fl_CT_58 : xf_L "CertificatePath$Certificate" 58 6 16 0 false (.int) := ⟨"CertificatePath$Certificate", tk_CT, ty_CT, rfl, by decide, wi_CT, Or.inl (xw_in 124 (by decide +kernel) rfl), rfl, by decide +kernel, to_CT, tn_CT⟩
theorem fl_CT_12 : xf_L "CertificatePath$Certificate" 12 6 16 1 true (.object "CertificatePath$Name") := ⟨"CertificatePath$Certificate", tk_CT, ty_CT, rfl, by decide, wi_CT, Or.inl (xw_in 125 (by decide +kernel) rfl), rfl, by decide +kernel, to_CT, tn_CT⟩
theorem fl_CP_98 : xf_L "CertificatePath" 98 6 16 1 true (.object "CertificatePath$Name") := ⟨"CertificatePath$Certificate", tk_CT, ty_CT, rfl, by decide, wi_CT, Or.inr ⟨"CertificatePath", xw_inN 126 (by decide +kernel) rfl⟩, rfl, by decide +kernel, to_CT, tn_CT⟩
theorem fl_CT_61 : xf_L "CertificatePath$Certificate" 61 6 16 2 false (.int) := ⟨"CertificatePath$Certificate", tk_CT, ty_CT, rfl, by decide, wi_CT, Or.inl (xw_in 127 (by decide +kernel) rfl), rfl, by decide +kernel, to_CT, tn_CT⟩
theorem fl_CP_115 : xf_L "CertificatePath" 115 6 16 2 false (.int) := ⟨"CertificatePath$Certificate", tk_CT, ty_CT, rfl, by decide, wi_CT, Or.inr ⟨"CertificatePath", xw_inN 128 (by decide +kernel) rfl⟩, rfl, by decide +kernel, to_CT, tn_CT⟩
theorem fl_CT_64 : xf_L "CertificatePath$Certificate" 64 6 16 3 false (.int) := ⟨"CertificatePath$Certificate", tk_CT, ty_CT, rfl, by decide, wi_CT, Or.inl (xw_in 129 (by decide +kernel) rfl), rfl, by decide +kernel, to_CT, tn_CT⟩
theorem fl_CP_118 : xf_L "CertificatePath" 118 6 16 3 false (.int) := ⟨"CertificatePath$Certificate", tk_CT, ty_CT, rfl, by decide, wi_CT, Or.inr ⟨"CertificatePath", xw_inN 130 (by decide +kernel) rfl⟩, rfl, by decide +kernel, to_CT, tn_CT⟩
theorem fl_CT_18 : xf_L "CertificatePath$Certificate" 18 6 16 4 true (.object "CertificatePath$Name") := ⟨"CertificatePath$Certificate", tk_CT, ty_CT, rfl, by decide, wi_CT, Or.inl (xw_in 131 (by decide +kernel) rfl), rfl, by decide +kernel, to_CT, tn_CT⟩
theorem fl_CP_102 : xf_L "CertificatePath" 102 6 16 4 true (.object "CertificatePath$Name") := ⟨"CertificatePath$Certificate", tk_CT, ty_CT, rfl, by decide, wi_CT, Or.inr ⟨"CertificatePath", xw_inN 132 (by decide +kernel) rfl⟩, rfl, by decide +kernel, to_CT, tn_CT⟩
theorem fl_CT_67 : xf_L "CertificatePath$Certificate" 67 6 16 5 false (.int) := ⟨"CertificatePath$Certificate", tk_CT, ty_CT, rfl, by decide, wi_CT, Or.inl (xw_in 133 (by decide +kernel) rfl), rfl, by decide +kernel, to_CT, tn_CT⟩
theorem fl_CP_105 : xf_L "CertificatePath" 105 6 16 5 false (.int) := ⟨"CertificatePath$Certificate", tk_CT, ty_CT, rfl, by decide, wi_CT, Or.inr ⟨"CertificatePath", xw_inN 134 (by decide +kernel) rfl⟩, rfl, by decide +kernel, to_CT, tn_CT⟩
theorem fl_CT_70 : xf_L "CertificatePath$Certificate" 70 6 16 6 false (.int) := ⟨"CertificatePath$Certificate", tk_CT, ty_CT, rfl, by decide, wi_CT, Or.inl (xw_in 135 (by decide +kernel) rfl), rfl, by decide +kernel, to_CT, tn_CT⟩
theorem fl_CP_108 : xf_L "CertificatePath" 108 6 16 6 false (.int) := ⟨"CertificatePath$Certificate", tk_CT, ty_CT, rfl, by decide, wi_CT, Or.inr ⟨"CertificatePath", xw_inN 136 (by decide +kernel) rfl⟩, rfl, by decide +kernel, to_CT, tn_CT⟩
theorem fl_CT_73 : xf_L "CertificatePath$Certificate" 73 6 16 7 false (.int) := ⟨"CertificatePath$Certificate", tk_CT, ty_CT, rfl, by decide, wi_CT, Or.inl (xw_in 137 (by decide +kernel) rfl), rfl, by decide +kernel, to_CT, tn_CT⟩
theorem fl_CT_76 : xf_L "CertificatePath$Certificate" 76 6 16 8 false (.int) := ⟨"CertificatePath$Certificate", tk_CT, ty_CT, rfl, by decide, wi_CT, Or.inl (xw_in 138 (by decide +kernel) rfl), rfl, by decide +kernel, to_CT, tn_CT⟩
theorem fl_CT_23 : xf_L "CertificatePath$Certificate" 23 6 16 9 true (.array (.object "CertificatePath$Extension")) := ⟨"CertificatePath$Certificate", tk_CT, ty_CT, rfl, by decide, wi_CT, Or.inl (xw_in 139 (by decide +kernel) rfl), rfl, by decide +kernel, to_CT, tn_CT⟩
theorem fl_CT_41 : xf_L "CertificatePath$Certificate" 41 6 16 10 false (.int) := ⟨"CertificatePath$Certificate", tk_CT, ty_CT, rfl, by decide, wi_CT, Or.inl (xw_in 140 (by decide +kernel) rfl), rfl, by decide +kernel, to_CT, tn_CT⟩
theorem fl_CT_45 : xf_L "CertificatePath$Certificate" 45 6 16 11 false (.boolean) := ⟨"CertificatePath$Certificate", tk_CT, ty_CT, rfl, by decide, wi_CT, Or.inl (xw_in 141 (by decide +kernel) rfl), rfl, by decide +kernel, to_CT, tn_CT⟩
theorem fl_CT_49 : xf_L "CertificatePath$Certificate" 49 6 16 12 false (.int) := ⟨"CertificatePath$Certificate", tk_CT, ty_CT, rfl, by decide, wi_CT, Or.inl (xw_in 142 (by decide +kernel) rfl), rfl, by decide +kernel, to_CT, tn_CT⟩
theorem fl_CT_52 : xf_L "CertificatePath$Certificate" 52 6 16 13 false (.int) := ⟨"CertificatePath$Certificate", tk_CT, ty_CT, rfl, by decide, wi_CT, Or.inl (xw_in 143 (by decide +kernel) rfl), rfl, by decide +kernel, to_CT, tn_CT⟩
theorem fl_CT_31 : xf_L "CertificatePath$Certificate" 31 6 16 14 true (.object "CertificatePath$NameList") := ⟨"CertificatePath$Certificate", tk_CT, ty_CT, rfl, by decide, wi_CT, Or.inl (xw_in 144 (by decide +kernel) rfl), rfl, by decide +kernel, to_CT, tn_CT⟩
theorem fl_CT_35 : xf_L "CertificatePath$Certificate" 35 6 16 15 true (.object "CertificatePath$NameList") := ⟨"CertificatePath$Certificate", tk_CT, ty_CT, rfl, by decide, wi_CT, Or.inl (xw_in 145 (by decide +kernel) rfl), rfl, by decide +kernel, to_CT, tn_CT⟩
theorem fl_CP_10 : xf_L "CertificatePath" 10 0 6 0 true (.object "CertificatePath$Reader") := ⟨"CertificatePath", tk_CP, ty_CP, rfl, by decide, wi_CP, Or.inl (xw_in 179 (by decide +kernel) rfl), rfl, by decide +kernel, to_CP, tn_CP⟩
theorem fl_CP_20 : xf_L "CertificatePath" 20 0 6 1 true (.object "CertificatePath$ByteRow") := ⟨"CertificatePath", tk_CP, ty_CP, rfl, by decide, wi_CP, Or.inl (xw_in 180 (by decide +kernel) rfl), rfl, by decide +kernel, to_CP, tn_CP⟩
theorem fl_CP_25 : xf_L "CertificatePath" 25 0 6 2 true (.array (.object "CertificatePath$Certificate")) := ⟨"CertificatePath", tk_CP, ty_CP, rfl, by decide, wi_CP, Or.inl (xw_in 181 (by decide +kernel) rfl), rfl, by decide +kernel, to_CP, tn_CP⟩
theorem fl_CP_30 : xf_L "CertificatePath" 30 0 6 3 false (.int) := ⟨"CertificatePath", tk_CP, ty_CP, rfl, by decide, wi_CP, Or.inl (xw_in 182 (by decide +kernel) rfl), rfl, by decide +kernel, to_CP, tn_CP⟩
theorem fl_CP_34 : xf_L "CertificatePath" 34 0 6 4 true (.array .int) := ⟨"CertificatePath", tk_CP, ty_CP, rfl, by decide, wi_CP, Or.inl (xw_in 183 (by decide +kernel) rfl), rfl, by decide +kernel, to_CP, tn_CP⟩
theorem fl_CP_38 : xf_L "CertificatePath" 38 0 6 5 false (.int) := ⟨"CertificatePath", tk_CP, ty_CP, rfl, by decide, wi_CP, Or.inl (xw_in 184 (by decide +kernel) rfl), rfl, by decide +kernel, to_CP, tn_CP⟩
theorem ml_LW_13 : xc_L "CertificatePathLaw" 13 qm_CP_feed 2 := ⟨Or.inl (xw_in 198 (by decide +kernel) rfl), xw_in 1 (by decide +kernel) rfl, xw_in 201 (by decide +kernel) rfl, ⟨by decide +kernel, by decide +kernel⟩, by decide +kernel⟩
theorem ml_CP_46 : xc_L "CertificatePath" 46 qm_BR_append 1 := ⟨Or.inl (xw_in 202 (by decide +kernel) rfl), xw_in 3 (by decide +kernel) rfl, xw_in 205 (by decide +kernel) rfl, ⟨by decide +kernel, by decide +kernel⟩, by decide +kernel⟩
theorem ml_LW_18 : xc_L "CertificatePathLaw" 18 qm_CP_set 2 := ⟨Or.inl (xw_in 206 (by decide +kernel) rfl), xw_in 1 (by decide +kernel) rfl, xw_in 209 (by decide +kernel) rfl, ⟨by decide +kernel, by decide +kernel⟩, by decide +kernel⟩
theorem ml_CP_50 : xc_L "CertificatePath" 50 qm_BR_has 1 := ⟨Or.inl (xw_in 210 (by decide +kernel) rfl), xw_in 3 (by decide +kernel) rfl, xw_in 213 (by decide +kernel) rfl, ⟨by decide +kernel, by decide +kernel⟩, by decide +kernel⟩
theorem ml_LW_22 : xc_L "CertificatePathLaw" 22 qm_CP_trim 1 := ⟨Or.inl (xw_in 214 (by decide +kernel) rfl), xw_in 1 (by decide +kernel) rfl, xw_in 217 (by decide +kernel) rfl, ⟨by decide +kernel, by decide +kernel⟩, by decide +kernel⟩
theorem ml_LW_27 : xc_L "CertificatePathLaw" 27 qm_CP_length 0 := ⟨Or.inl (xw_in 218 (by decide +kernel) rfl), xw_in 1 (by decide +kernel) rfl, xw_in 221 (by decide +kernel) rfl, ⟨by decide +kernel, by decide +kernel⟩, by decide +kernel⟩
theorem ml_LW_32 : xc_L "CertificatePathLaw" 32 qm_CP_byteAt 1 := ⟨Or.inl (xw_in 222 (by decide +kernel) rfl), xw_in 1 (by decide +kernel) rfl, xw_in 225 (by decide +kernel) rfl, ⟨by decide +kernel, by decide +kernel⟩, by decide +kernel⟩
theorem ml_LW_37 : xc_L "CertificatePathLaw" 37 qm_CP_hash 2 := ⟨Or.inl (xw_in 226 (by decide +kernel) rfl), xw_in 1 (by decide +kernel) rfl, xw_in 229 (by decide +kernel) rfl, ⟨by decide +kernel, by decide +kernel⟩, by decide +kernel⟩
theorem ml_CP_57 : xc_L "CertificatePath" 57 qm_BR_hashBetween 2 := ⟨Or.inl (xw_in 230 (by decide +kernel) rfl), xw_in 3 (by decide +kernel) rfl, xw_in 233 (by decide +kernel) rfl, ⟨by decide +kernel, by decide +kernel⟩, by decide +kernel⟩
theorem ml_LW_42 : xc_L "CertificatePathLaw" 42 qm_CP_accept 0 := ⟨Or.inl (xw_in 235 (by decide +kernel) rfl), xw_in 1 (by decide +kernel) rfl, xw_in 238 (by decide +kernel) rfl, ⟨by decide +kernel, by decide +kernel⟩, by decide +kernel⟩
theorem ml_CP_61 : xc_L "CertificatePath" 61 qm_CT_readFrom 1 := ⟨Or.inl (xw_in 239 (by decide +kernel) rfl), xw_in 4 (by decide +kernel) rfl, xw_in 242 (by decide +kernel) rfl, ⟨by decide +kernel, by decide +kernel⟩, by decide +kernel⟩
theorem ml_CT_97 : xc_L "CertificatePath$Certificate" 97 qm_RD_start 0 := ⟨Or.inl (xw_in 243 (by decide +kernel) rfl), xw_in 2 (by decide +kernel) rfl, xw_in 246 (by decide +kernel) rfl, ⟨by decide +kernel, by decide +kernel⟩, by decide +kernel⟩
theorem ml_CT_102 : xc_L "CertificatePath$Certificate" 102 qm_RD_open 1 := ⟨Or.inl (xw_in 247 (by decide +kernel) rfl), xw_in 2 (by decide +kernel) rfl, xw_in 250 (by decide +kernel) rfl, ⟨by decide +kernel, by decide +kernel⟩, by decide +kernel⟩
theorem ml_CT_109 : xc_L "CertificatePath$Certificate" 109 qm_CT_readHead 1 := ⟨Or.inl (xw_in 251 (by decide +kernel) rfl), xw_in 4 (by decide +kernel) rfl, xw_in 254 (by decide +kernel) rfl, ⟨by decide +kernel, by decide +kernel⟩, by decide +kernel⟩
theorem ml_CT_133 : xc_L "CertificatePath$Certificate" 133 qm_RD_readInteger 2 := ⟨Or.inl (xw_in 256 (by decide +kernel) rfl), xw_in 2 (by decide +kernel) rfl, xw_in 259 (by decide +kernel) rfl, ⟨by decide +kernel, by decide +kernel⟩, by decide +kernel⟩
theorem ml_RD_43 : xc_L "CertificatePath$Reader" 43 qm_RD_open 1 := ⟨Or.inl (xw_in 260 (by decide +kernel) rfl), xw_in 2 (by decide +kernel) rfl, xw_in 250 (by decide +kernel) rfl, ⟨by decide +kernel, by decide +kernel⟩, by decide +kernel⟩
theorem ml_RD_47 : xc_L "CertificatePath$Reader" 47 qm_RD_remaining 0 := ⟨Or.inl (xw_in 261 (by decide +kernel) rfl), xw_in 2 (by decide +kernel) rfl, xw_in 264 (by decide +kernel) rfl, ⟨by decide +kernel, by decide +kernel⟩, by decide +kernel⟩
theorem ml_RD_51 : xc_L "CertificatePath$Reader" 51 qm_RD_refuse 0 := ⟨Or.inl (xw_in 265 (by decide +kernel) rfl), xw_in 2 (by decide +kernel) rfl, xw_in 268 (by decide +kernel) rfl, ⟨by decide +kernel, by decide +kernel⟩, by decide +kernel⟩
theorem ml_RD_54 : xc_L "CertificatePath$Reader" 54 qm_RD_readByte 0 := ⟨Or.inl (xw_in 269 (by decide +kernel) rfl), xw_in 2 (by decide +kernel) rfl, xw_in 272 (by decide +kernel) rfl, ⟨by decide +kernel, by decide +kernel⟩, by decide +kernel⟩
theorem ml_RD_57 : xc_L "CertificatePath$Reader" 57 qm_RD_close 0 := ⟨Or.inl (xw_in 273 (by decide +kernel) rfl), xw_in 2 (by decide +kernel) rfl, xw_in 276 (by decide +kernel) rfl, ⟨by decide +kernel, by decide +kernel⟩, by decide +kernel⟩
theorem ml_CT_140 : xc_L "CertificatePath$Certificate" 140 qm_NM_readFrom 1 := ⟨Or.inl (xw_in 277 (by decide +kernel) rfl), xw_in 5 (by decide +kernel) rfl, xw_in 280 (by decide +kernel) rfl, ⟨by decide +kernel, by decide +kernel⟩, by decide +kernel⟩
theorem ml_NM_23 : xc_L "CertificatePath$Name" 23 qm_RD_open 1 := ⟨Or.inl (xw_in 281 (by decide +kernel) rfl), xw_in 2 (by decide +kernel) rfl, xw_in 250 (by decide +kernel) rfl, ⟨by decide +kernel, by decide +kernel⟩, by decide +kernel⟩
theorem ml_NM_29 : xc_L "CertificatePath$Name" 29 qm_RD_remaining 0 := ⟨Or.inl (xw_in 282 (by decide +kernel) rfl), xw_in 2 (by decide +kernel) rfl, xw_in 264 (by decide +kernel) rfl, ⟨by decide +kernel, by decide +kernel⟩, by decide +kernel⟩
theorem ml_NM_33 : xc_L "CertificatePath$Name" 33 qm_RD_readByte 0 := ⟨Or.inl (xw_in 283 (by decide +kernel) rfl), xw_in 2 (by decide +kernel) rfl, xw_in 272 (by decide +kernel) rfl, ⟨by decide +kernel, by decide +kernel⟩, by decide +kernel⟩
theorem ml_NM_36 : xc_L "CertificatePath$Name" 36 qm_RD_refuse 0 := ⟨Or.inl (xw_in 284 (by decide +kernel) rfl), xw_in 2 (by decide +kernel) rfl, xw_in 268 (by decide +kernel) rfl, ⟨by decide +kernel, by decide +kernel⟩, by decide +kernel⟩
theorem ml_NM_39 : xc_L "CertificatePath$Name" 39 qm_RD_close 0 := ⟨Or.inl (xw_in 285 (by decide +kernel) rfl), xw_in 2 (by decide +kernel) rfl, xw_in 276 (by decide +kernel) rfl, ⟨by decide +kernel, by decide +kernel⟩, by decide +kernel⟩
theorem ml_CT_125 : xc_L "CertificatePath$Certificate" 125 qm_RD_close 0 := ⟨Or.inl (xw_in 286 (by decide +kernel) rfl), xw_in 2 (by decide +kernel) rfl, xw_in 276 (by decide +kernel) rfl, ⟨by decide +kernel, by decide +kernel⟩, by decide +kernel⟩
theorem ml_CT_113 : xc_L "CertificatePath$Certificate" 113 qm_RD_nextIs 1 := ⟨Or.inl (xw_in 287 (by decide +kernel) rfl), xw_in 2 (by decide +kernel) rfl, xw_in 290 (by decide +kernel) rfl, ⟨by decide +kernel, by decide +kernel⟩, by decide +kernel⟩
theorem ml_CT_117 : xc_L "CertificatePath$Certificate" 117 qm_CT_readExtension 2 := ⟨Or.inl (xw_in 291 (by decide +kernel) rfl), xw_in 4 (by decide +kernel) rfl, xw_in 294 (by decide +kernel) rfl, ⟨by decide +kernel, by decide +kernel⟩, by decide +kernel⟩
theorem ml_CT_143 : xc_L "CertificatePath$Certificate" 143 qm_CT_hasExtension 1 := ⟨Or.inl (xw_in 295 (by decide +kernel) rfl), xw_in 4 (by decide +kernel) rfl, xw_in 298 (by decide +kernel) rfl, ⟨by decide +kernel, by decide +kernel⟩, by decide +kernel⟩
theorem ml_CT_146 : xc_L "CertificatePath$Certificate" 146 qm_RD_refuse 0 := ⟨Or.inl (xw_in 299 (by decide +kernel) rfl), xw_in 2 (by decide +kernel) rfl, xw_in 268 (by decide +kernel) rfl, ⟨by decide +kernel, by decide +kernel⟩, by decide +kernel⟩
theorem ml_CT_152 : xc_L "CertificatePath$Certificate" 152 qm_RD_readTrueIfThere 0 := ⟨Or.inl (xw_in 300 (by decide +kernel) rfl), xw_in 2 (by decide +kernel) rfl, xw_in 303 (by decide +kernel) rfl, ⟨by decide +kernel, by decide +kernel⟩, by decide +kernel⟩
theorem ml_RD_60 : xc_L "CertificatePath$Reader" 60 qm_RD_nextIs 1 := ⟨Or.inl (xw_in 304 (by decide +kernel) rfl), xw_in 2 (by decide +kernel) rfl, xw_in 290 (by decide +kernel) rfl, ⟨by decide +kernel, by decide +kernel⟩, by decide +kernel⟩
theorem ml_CT_155 : xc_L "CertificatePath$Certificate" 155 qm_CT_readBasic 1 := ⟨Or.inl (xw_in 305 (by decide +kernel) rfl), xw_in 4 (by decide +kernel) rfl, xw_in 308 (by decide +kernel) rfl, ⟨by decide +kernel, by decide +kernel⟩, by decide +kernel⟩
theorem ml_CT_121 : xc_L "CertificatePath$Certificate" 121 qm_RD_remaining 0 := ⟨Or.inl (xw_in 309 (by decide +kernel) rfl), xw_in 2 (by decide +kernel) rfl, xw_in 264 (by decide +kernel) rfl, ⟨by decide +kernel, by decide +kernel⟩, by decide +kernel⟩
theorem ml_CT_158 : xc_L "CertificatePath$Certificate" 158 qm_CT_readUsage 1 := ⟨Or.inl (xw_in 310 (by decide +kernel) rfl), xw_in 4 (by decide +kernel) rfl, xw_in 313 (by decide +kernel) rfl, ⟨by decide +kernel, by decide +kernel⟩, by decide +kernel⟩
theorem ml_CT_167 : xc_L "CertificatePath$Certificate" 167 qm_RD_readByte 0 := ⟨Or.inl (xw_in 314 (by decide +kernel) rfl), xw_in 2 (by decide +kernel) rfl, xw_in 272 (by decide +kernel) rfl, ⟨by decide +kernel, by decide +kernel⟩, by decide +kernel⟩
theorem ml_CT_170 : xc_L "CertificatePath$Certificate" 170 qm_CT_zerosBehind 1 := ⟨Or.inl (xw_in 315 (by decide +kernel) rfl), xw_in 4 (by decide +kernel) rfl, xw_in 317 (by decide +kernel) rfl, ⟨by decide +kernel, by decide +kernel⟩, by decide +kernel⟩
theorem ml_CT_173 : xc_L "CertificatePath$Certificate" 173 qm_CT_mirrored 1 := ⟨Or.inl (xw_in 318 (by decide +kernel) rfl), xw_in 4 (by decide +kernel) rfl, xw_in 320 (by decide +kernel) rfl, ⟨by decide +kernel, by decide +kernel⟩, by decide +kernel⟩
theorem ml_CT_161 : xc_L "CertificatePath$Certificate" 161 qm_CT_readBounds 1 := ⟨Or.inl (xw_in 321 (by decide +kernel) rfl), xw_in 4 (by decide +kernel) rfl, xw_in 324 (by decide +kernel) rfl, ⟨by decide +kernel, by decide +kernel⟩, by decide +kernel⟩
theorem ml_CT_176 : xc_L "CertificatePath$Certificate" 176 qm_NL_readIfThere 2 := ⟨Or.inl (xw_in 325 (by decide +kernel) rfl), xw_in 7 (by decide +kernel) rfl, xw_in 328 (by decide +kernel) rfl, ⟨by decide +kernel, by decide +kernel⟩, by decide +kernel⟩
theorem ml_NL_26 : xc_L "CertificatePath$NameList" 26 qm_RD_nextIs 1 := ⟨Or.inl (xw_in 329 (by decide +kernel) rfl), xw_in 2 (by decide +kernel) rfl, xw_in 290 (by decide +kernel) rfl, ⟨by decide +kernel, by decide +kernel⟩, by decide +kernel⟩
theorem ml_NL_32 : xc_L "CertificatePath$NameList" 32 qm_RD_open 1 := ⟨Or.inl (xw_in 330 (by decide +kernel) rfl), xw_in 2 (by decide +kernel) rfl, xw_in 250 (by decide +kernel) rfl, ⟨by decide +kernel, by decide +kernel⟩, by decide +kernel⟩
theorem ml_NL_36 : xc_L "CertificatePath$NameList" 36 qm_NM_readFrom 1 := ⟨Or.inl (xw_in 331 (by decide +kernel) rfl), xw_in 5 (by decide +kernel) rfl, xw_in 280 (by decide +kernel) rfl, ⟨by decide +kernel, by decide +kernel⟩, by decide +kernel⟩
theorem ml_NL_40 : xc_L "CertificatePath$NameList" 40 qm_RD_remaining 0 := ⟨Or.inl (xw_in 332 (by decide +kernel) rfl), xw_in 2 (by decide +kernel) rfl, xw_in 264 (by decide +kernel) rfl, ⟨by decide +kernel, by decide +kernel⟩, by decide +kernel⟩
theorem ml_NL_44 : xc_L "CertificatePath$NameList" 44 qm_RD_close 0 := ⟨Or.inl (xw_in 333 (by decide +kernel) rfl), xw_in 2 (by decide +kernel) rfl, xw_in 276 (by decide +kernel) rfl, ⟨by decide +kernel, by decide +kernel⟩, by decide +kernel⟩
theorem ml_CT_164 : xc_L "CertificatePath$Certificate" 164 qm_EX_readOctets 1 := ⟨Or.inl (xw_in 334 (by decide +kernel) rfl), xw_in 6 (by decide +kernel) rfl, xw_in 337 (by decide +kernel) rfl, ⟨by decide +kernel, by decide +kernel⟩, by decide +kernel⟩
theorem ml_EX_26 : xc_L "CertificatePath$Extension" 26 qm_RD_remaining 0 := ⟨Or.inl (xw_in 338 (by decide +kernel) rfl), xw_in 2 (by decide +kernel) rfl, xw_in 264 (by decide +kernel) rfl, ⟨by decide +kernel, by decide +kernel⟩, by decide +kernel⟩
theorem ml_EX_32 : xc_L "CertificatePath$Extension" 32 qm_RD_refuse 0 := ⟨Or.inl (xw_in 339 (by decide +kernel) rfl), xw_in 2 (by decide +kernel) rfl, xw_in 268 (by decide +kernel) rfl, ⟨by decide +kernel, by decide +kernel⟩, by decide +kernel⟩
theorem ml_EX_35 : xc_L "CertificatePath$Extension" 35 qm_RD_readByte 0 := ⟨Or.inl (xw_in 340 (by decide +kernel) rfl), xw_in 2 (by decide +kernel) rfl, xw_in 272 (by decide +kernel) rfl, ⟨by decide +kernel, by decide +kernel⟩, by decide +kernel⟩
theorem ml_CT_128 : xc_L "CertificatePath$Certificate" 128 qm_RD_hashSince 1 := ⟨Or.inl (xw_in 341 (by decide +kernel) rfl), xw_in 2 (by decide +kernel) rfl, xw_in 344 (by decide +kernel) rfl, ⟨by decide +kernel, by decide +kernel⟩, by decide +kernel⟩
theorem ml_RD_36 : xc_L "CertificatePath$Reader" 36 qm_BR_hashBetween 2 := ⟨Or.inl (xw_in 345 (by decide +kernel) rfl), xw_in 3 (by decide +kernel) rfl, xw_in 233 (by decide +kernel) rfl, ⟨by decide +kernel, by decide +kernel⟩, by decide +kernel⟩
theorem ml_CT_137 : xc_L "CertificatePath$Certificate" 137 qm_RD_isAtEndOfRow 0 := ⟨Or.inl (xw_in 346 (by decide +kernel) rfl), xw_in 2 (by decide +kernel) rfl, xw_in 349 (by decide +kernel) rfl, ⟨by decide +kernel, by decide +kernel⟩, by decide +kernel⟩
theorem ml_LW_46 : xc_L "CertificatePathLaw" 46 qm_CP_count 0 := ⟨Or.inl (xw_in 350 (by decide +kernel) rfl), xw_in 1 (by decide +kernel) rfl, xw_in 353 (by decide +kernel) rfl, ⟨by decide +kernel, by decide +kernel⟩, by decide +kernel⟩
theorem ml_LW_50 : xc_L "CertificatePathLaw" 50 qm_CP_field 2 := ⟨Or.inl (xw_in 354 (by decide +kernel) rfl), xw_in 1 (by decide +kernel) rfl, xw_in 357 (by decide +kernel) rfl, ⟨by decide +kernel, by decide +kernel⟩, by decide +kernel⟩
theorem ml_CP_65 : xc_L "CertificatePath" 65 qm_CP_isKept 1 := ⟨Or.inl (xw_in 358 (by decide +kernel) rfl), xw_in 1 (by decide +kernel) rfl, xw_in 361 (by decide +kernel) rfl, ⟨by decide +kernel, by decide +kernel⟩, by decide +kernel⟩
theorem ml_CP_68 : xc_L "CertificatePath" 68 qm_CT_fieldNumbered 1 := ⟨Or.inl (xw_in 362 (by decide +kernel) rfl), xw_in 4 (by decide +kernel) rfl, xw_in 365 (by decide +kernel) rfl, ⟨by decide +kernel, by decide +kernel⟩, by decide +kernel⟩
theorem ml_LW_54 : xc_L "CertificatePathLaw" 54 qm_CP_within 4 := ⟨Or.inl (xw_in 366 (by decide +kernel) rfl), xw_in 1 (by decide +kernel) rfl, xw_in 369 (by decide +kernel) rfl, ⟨by decide +kernel, by decide +kernel⟩, by decide +kernel⟩
theorem ml_CP_71 : xc_L "CertificatePath" 71 qm_CP_nameOf 2 := ⟨Or.inl (xw_in 370 (by decide +kernel) rfl), xw_in 1 (by decide +kernel) rfl, xw_in 373 (by decide +kernel) rfl, ⟨by decide +kernel, by decide +kernel⟩, by decide +kernel⟩
theorem ml_CP_75 : xc_L "CertificatePath" 75 qm_NM_isWithin 1 := ⟨Or.inl (xw_in 374 (by decide +kernel) rfl), xw_in 5 (by decide +kernel) rfl, xw_in 377 (by decide +kernel) rfl, ⟨by decide +kernel, by decide +kernel⟩, by decide +kernel⟩
theorem ml_LW_59 : xc_L "CertificatePathLaw" 59 qm_CP_recode 1 := ⟨Or.inl (xw_in 378 (by decide +kernel) rfl), xw_in 1 (by decide +kernel) rfl, xw_in 381 (by decide +kernel) rfl, ⟨by decide +kernel, by decide +kernel⟩, by decide +kernel⟩
theorem ml_CP_81 : xc_L "CertificatePath" 81 qm_CT_writeTo 1 := ⟨Or.inl (xw_in 382 (by decide +kernel) rfl), xw_in 4 (by decide +kernel) rfl, xw_in 385 (by decide +kernel) rfl, ⟨by decide +kernel, by decide +kernel⟩, by decide +kernel⟩
theorem ml_CT_180 : xc_L "CertificatePath$Certificate" 180 qm_BR_append 1 := ⟨Or.inl (xw_in 386 (by decide +kernel) rfl), xw_in 3 (by decide +kernel) rfl, xw_in 205 (by decide +kernel) rfl, ⟨by decide +kernel, by decide +kernel⟩, by decide +kernel⟩
theorem ml_CT_185 : xc_L "CertificatePath$Certificate" 185 qm_CT_writeHead 1 := ⟨Or.inl (xw_in 387 (by decide +kernel) rfl), xw_in 4 (by decide +kernel) rfl, xw_in 390 (by decide +kernel) rfl, ⟨by decide +kernel, by decide +kernel⟩, by decide +kernel⟩
theorem ml_CT_196 : xc_L "CertificatePath$Certificate" 196 qm_BR_appendInteger 1 := ⟨Or.inl (xw_in 391 (by decide +kernel) rfl), xw_in 3 (by decide +kernel) rfl, xw_in 394 (by decide +kernel) rfl, ⟨by decide +kernel, by decide +kernel⟩, by decide +kernel⟩
theorem ml_BR_20 : xc_L "CertificatePath$ByteRow" 20 qm_BR_append 1 := ⟨Or.inl (xw_in 395 (by decide +kernel) rfl), xw_in 3 (by decide +kernel) rfl, xw_in 205 (by decide +kernel) rfl, ⟨by decide +kernel, by decide +kernel⟩, by decide +kernel⟩
theorem ml_BR_24 : xc_L "CertificatePath$ByteRow" 24 qm_BR_insertLength 1 := ⟨Or.inl (xw_in 396 (by decide +kernel) rfl), xw_in 3 (by decide +kernel) rfl, xw_in 399 (by decide +kernel) rfl, ⟨by decide +kernel, by decide +kernel⟩, by decide +kernel⟩
theorem ml_CT_199 : xc_L "CertificatePath$Certificate" 199 qm_NM_writeTo 1 := ⟨Or.inl (xw_in 400 (by decide +kernel) rfl), xw_in 5 (by decide +kernel) rfl, xw_in 403 (by decide +kernel) rfl, ⟨by decide +kernel, by decide +kernel⟩, by decide +kernel⟩
theorem ml_NM_42 : xc_L "CertificatePath$Name" 42 qm_BR_append 1 := ⟨Or.inl (xw_in 404 (by decide +kernel) rfl), xw_in 3 (by decide +kernel) rfl, xw_in 205 (by decide +kernel) rfl, ⟨by decide +kernel, by decide +kernel⟩, by decide +kernel⟩
theorem ml_NM_48 : xc_L "CertificatePath$Name" 48 qm_BR_insertLength 1 := ⟨Or.inl (xw_in 405 (by decide +kernel) rfl), xw_in 3 (by decide +kernel) rfl, xw_in 399 (by decide +kernel) rfl, ⟨by decide +kernel, by decide +kernel⟩, by decide +kernel⟩
theorem ml_CT_193 : xc_L "CertificatePath$Certificate" 193 qm_BR_insertLength 1 := ⟨Or.inl (xw_in 406 (by decide +kernel) rfl), xw_in 3 (by decide +kernel) rfl, xw_in 399 (by decide +kernel) rfl, ⟨by decide +kernel, by decide +kernel⟩, by decide +kernel⟩
theorem ml_CT_189 : xc_L "CertificatePath$Certificate" 189 qm_CT_writeExtension 2 := ⟨Or.inl (xw_in 407 (by decide +kernel) rfl), xw_in 4 (by decide +kernel) rfl, xw_in 410 (by decide +kernel) rfl, ⟨by decide +kernel, by decide +kernel⟩, by decide +kernel⟩
theorem ml_CT_202 : xc_L "CertificatePath$Certificate" 202 qm_BR_appendTrue 0 := ⟨Or.inl (xw_in 411 (by decide +kernel) rfl), xw_in 3 (by decide +kernel) rfl, xw_in 414 (by decide +kernel) rfl, ⟨by decide +kernel, by decide +kernel⟩, by decide +kernel⟩
theorem ml_CT_205 : xc_L "CertificatePath$Certificate" 205 qm_CT_writeBasic 1 := ⟨Or.inl (xw_in 415 (by decide +kernel) rfl), xw_in 4 (by decide +kernel) rfl, xw_in 418 (by decide +kernel) rfl, ⟨by decide +kernel, by decide +kernel⟩, by decide +kernel⟩
theorem ml_CT_208 : xc_L "CertificatePath$Certificate" 208 qm_CT_writeUsage 1 := ⟨Or.inl (xw_in 419 (by decide +kernel) rfl), xw_in 4 (by decide +kernel) rfl, xw_in 422 (by decide +kernel) rfl, ⟨by decide +kernel, by decide +kernel⟩, by decide +kernel⟩
theorem ml_CT_211 : xc_L "CertificatePath$Certificate" 211 qm_CT_writeBounds 1 := ⟨Or.inl (xw_in 423 (by decide +kernel) rfl), xw_in 4 (by decide +kernel) rfl, xw_in 426 (by decide +kernel) rfl, ⟨by decide +kernel, by decide +kernel⟩, by decide +kernel⟩
theorem ml_CT_217 : xc_L "CertificatePath$Certificate" 217 qm_NL_writeIfThere 2 := ⟨Or.inl (xw_in 427 (by decide +kernel) rfl), xw_in 7 (by decide +kernel) rfl, xw_in 430 (by decide +kernel) rfl, ⟨by decide +kernel, by decide +kernel⟩, by decide +kernel⟩
theorem ml_NL_47 : xc_L "CertificatePath$NameList" 47 qm_BR_append 1 := ⟨Or.inl (xw_in 431 (by decide +kernel) rfl), xw_in 3 (by decide +kernel) rfl, xw_in 205 (by decide +kernel) rfl, ⟨by decide +kernel, by decide +kernel⟩, by decide +kernel⟩
theorem ml_NL_53 : xc_L "CertificatePath$NameList" 53 qm_NM_writeTo 1 := ⟨Or.inl (xw_in 432 (by decide +kernel) rfl), xw_in 5 (by decide +kernel) rfl, xw_in 403 (by decide +kernel) rfl, ⟨by decide +kernel, by decide +kernel⟩, by decide +kernel⟩
theorem ml_NL_57 : xc_L "CertificatePath$NameList" 57 qm_BR_insertLength 1 := ⟨Or.inl (xw_in 433 (by decide +kernel) rfl), xw_in 3 (by decide +kernel) rfl, xw_in 399 (by decide +kernel) rfl, ⟨by decide +kernel, by decide +kernel⟩, by decide +kernel⟩
theorem ml_CT_214 : xc_L "CertificatePath$Certificate" 214 qm_EX_writeOctets 1 := ⟨Or.inl (xw_in 434 (by decide +kernel) rfl), xw_in 6 (by decide +kernel) rfl, xw_in 437 (by decide +kernel) rfl, ⟨by decide +kernel, by decide +kernel⟩, by decide +kernel⟩
theorem ml_EX_38 : xc_L "CertificatePath$Extension" 38 qm_BR_append 1 := ⟨Or.inl (xw_in 438 (by decide +kernel) rfl), xw_in 3 (by decide +kernel) rfl, xw_in 205 (by decide +kernel) rfl, ⟨by decide +kernel, by decide +kernel⟩, by decide +kernel⟩
theorem ml_LW_63 : xc_L "CertificatePathLaw" 63 qm_CP_link 1 := ⟨Or.inl (xw_in 439 (by decide +kernel) rfl), xw_in 1 (by decide +kernel) rfl, xw_in 442 (by decide +kernel) rfl, ⟨by decide +kernel, by decide +kernel⟩, by decide +kernel⟩
theorem ml_LW_67 : xc_L "CertificatePathLaw" 67 qm_CP_unlink 0 := ⟨Or.inl (xw_in 443 (by decide +kernel) rfl), xw_in 1 (by decide +kernel) rfl, xw_in 446 (by decide +kernel) rfl, ⟨by decide +kernel, by decide +kernel⟩, by decide +kernel⟩
theorem ml_LW_72 : xc_L "CertificatePathLaw" 72 qm_CP_links 0 := ⟨Or.inl (xw_in 447 (by decide +kernel) rfl), xw_in 1 (by decide +kernel) rfl, xw_in 450 (by decide +kernel) rfl, ⟨by decide +kernel, by decide +kernel⟩, by decide +kernel⟩
theorem ml_LW_76 : xc_L "CertificatePathLaw" 76 qm_CP_check 3 := ⟨Or.inl (xw_in 451 (by decide +kernel) rfl), xw_in 1 (by decide +kernel) rfl, xw_in 454 (by decide +kernel) rfl, ⟨by decide +kernel, by decide +kernel⟩, by decide +kernel⟩
theorem ml_CP_85 : xc_L "CertificatePath" 85 qm_CP_brokenAnywhere 3 := ⟨Or.inl (xw_in 455 (by decide +kernel) rfl), xw_in 1 (by decide +kernel) rfl, xw_in 458 (by decide +kernel) rfl, ⟨by decide +kernel, by decide +kernel⟩, by decide +kernel⟩
theorem ml_CP_111 : xc_L "CertificatePath" 111 qm_CT_isSignedBy 2 := ⟨Or.inl (xw_in 459 (by decide +kernel) rfl), xw_in 4 (by decide +kernel) rfl, xw_in 462 (by decide +kernel) rfl, ⟨by decide +kernel, by decide +kernel⟩, by decide +kernel⟩
theorem ml_CP_121 : xc_L "CertificatePath" 121 qm_NM_isSameAs 1 := ⟨Or.inl (xw_in 463 (by decide +kernel) rfl), xw_in 5 (by decide +kernel) rfl, xw_in 466 (by decide +kernel) rfl, ⟨by decide +kernel, by decide +kernel⟩, by decide +kernel⟩
theorem ml_NM_19 : xc_L "CertificatePath$Name" 19 qm_NM_isWithin 1 := ⟨Or.inl (xw_in 467 (by decide +kernel) rfl), xw_in 5 (by decide +kernel) rfl, xw_in 377 (by decide +kernel) rfl, ⟨by decide +kernel, by decide +kernel⟩, by decide +kernel⟩
theorem ml_CP_124 : xc_L "CertificatePath" 124 qm_CT_isSelfIssued 0 := ⟨Or.inl (xw_in 468 (by decide +kernel) rfl), xw_in 4 (by decide +kernel) rfl, xw_in 471 (by decide +kernel) rfl, ⟨by decide +kernel, by decide +kernel⟩, by decide +kernel⟩
theorem ml_CT_80 : xc_L "CertificatePath$Certificate" 80 qm_NM_isSameAs 1 := ⟨Or.inl (xw_in 472 (by decide +kernel) rfl), xw_in 5 (by decide +kernel) rfl, xw_in 466 (by decide +kernel) rfl, ⟨by decide +kernel, by decide +kernel⟩, by decide +kernel⟩
theorem ml_CP_128 : xc_L "CertificatePath" 128 qm_CP_isWithinBoundsBefore 1 := ⟨Or.inl (xw_in 473 (by decide +kernel) rfl), xw_in 1 (by decide +kernel) rfl, xw_in 476 (by decide +kernel) rfl, ⟨by decide +kernel, by decide +kernel⟩, by decide +kernel⟩
theorem ml_CP_134 : xc_L "CertificatePath" 134 qm_CT_allows 1 := ⟨Or.inl (xw_in 477 (by decide +kernel) rfl), xw_in 4 (by decide +kernel) rfl, xw_in 480 (by decide +kernel) rfl, ⟨by decide +kernel, by decide +kernel⟩, by decide +kernel⟩
theorem ml_CT_91 : xc_L "CertificatePath$Certificate" 91 qm_NL_covers 1 := ⟨Or.inl (xw_in 481 (by decide +kernel) rfl), xw_in 7 (by decide +kernel) rfl, xw_in 484 (by decide +kernel) rfl, ⟨by decide +kernel, by decide +kernel⟩, by decide +kernel⟩
theorem ml_NL_22 : xc_L "CertificatePath$NameList" 22 qm_NM_isWithin 1 := ⟨Or.inl (xw_in 485 (by decide +kernel) rfl), xw_in 5 (by decide +kernel) rfl, xw_in 377 (by decide +kernel) rfl, ⟨by decide +kernel, by decide +kernel⟩, by decide +kernel⟩
theorem ml_CP_131 : xc_L "CertificatePath" 131 qm_CT_hasUnknownCritical 0 := ⟨Or.inl (xw_in 486 (by decide +kernel) rfl), xw_in 4 (by decide +kernel) rfl, xw_in 489 (by decide +kernel) rfl, ⟨by decide +kernel, by decide +kernel⟩, by decide +kernel⟩
theorem ml_CT_87 : xc_L "CertificatePath$Certificate" 87 qm_EX_isKnown 0 := ⟨Or.inl (xw_in 490 (by decide +kernel) rfl), xw_in 6 (by decide +kernel) rfl, xw_in 493 (by decide +kernel) rfl, ⟨by decide +kernel, by decide +kernel⟩, by decide +kernel⟩
theorem ml_CP_89 : xc_L "CertificatePath" 89 qm_CT_brokenAsLast 1 := ⟨Or.inl (xw_in 494 (by decide +kernel) rfl), xw_in 4 (by decide +kernel) rfl, xw_in 497 (by decide +kernel) rfl, ⟨by decide +kernel, by decide +kernel⟩, by decide +kernel⟩
theorem ml_CP_92 : xc_L "CertificatePath" 92 qm_CT_brokenAsHolder 1 := ⟨Or.inl (xw_in 498 (by decide +kernel) rfl), xw_in 4 (by decide +kernel) rfl, xw_in 501 (by decide +kernel) rfl, ⟨by decide +kernel, by decide +kernel⟩, by decide +kernel⟩
theorem ml_CT_94 : xc_L "CertificatePath$Certificate" 94 qm_CT_isSelfIssued 0 := ⟨Or.inl (xw_in 502 (by decide +kernel) rfl), xw_in 4 (by decide +kernel) rfl, xw_in 471 (by decide +kernel) rfl, ⟨by decide +kernel, by decide +kernel⟩, by decide +kernel⟩
theorem ml_CP_95 : xc_L "CertificatePath" 95 qm_CT_restBehind 1 := ⟨Or.inl (xw_in 503 (by decide +kernel) rfl), xw_in 4 (by decide +kernel) rfl, xw_in 506 (by decide +kernel) rfl, ⟨by decide +kernel, by decide +kernel⟩, by decide +kernel⟩
theorem ml_LW_81 : xc_L "CertificatePathLaw" 81 qm_CP_reset 0 := ⟨Or.inl (xw_in 507 (by decide +kernel) rfl), xw_in 1 (by decide +kernel) rfl, xw_in 510 (by decide +kernel) rfl, ⟨by decide +kernel, by decide +kernel⟩, by decide +kernel⟩
theorem ml_LW_12 : xc_L "CertificatePathLaw" 12 qm_MD_init 0 := ⟨Or.inl (xw_in 513 (by decide +kernel) rfl), xw_in 8 (by decide +kernel) rfl, xw_in 515 (by decide +kernel) rfl, ⟨by decide +kernel, by decide +kernel⟩, by decide +kernel⟩
theorem fl_MD_7 : xf_L "CertificatePathModel" 7 7 43 0 false (.array .int) := ⟨"CertificatePathModel", tk_MD, ty_MD, rfl, by decide, wi_MD, Or.inl (xw_in 517 (by decide +kernel) rfl), rfl, by decide +kernel, to_MD, tn_MD⟩
theorem fl_MD_22 : xf_L "CertificatePathModel" 22 7 43 1 false (.int) := ⟨"CertificatePathModel", tk_MD, ty_MD, rfl, by decide, wi_MD, Or.inl (xw_in 518 (by decide +kernel) rfl), rfl, by decide +kernel, to_MD, tn_MD⟩
theorem fl_MD_174 : xf_L "CertificatePathModel" 174 7 43 2 false (.int) := ⟨"CertificatePathModel", tk_MD, ty_MD, rfl, by decide, wi_MD, Or.inl (xw_in 519 (by decide +kernel) rfl), rfl, by decide +kernel, to_MD, tn_MD⟩
theorem fl_MD_13 : xf_L "CertificatePathModel" 13 7 43 3 false (.array .int) := ⟨"CertificatePathModel", tk_MD, ty_MD, rfl, by decide, wi_MD, Or.inl (xw_in 520 (by decide +kernel) rfl), rfl, by decide +kernel, to_MD, tn_MD⟩
theorem fl_MD_16 : xf_L "CertificatePathModel" 16 7 43 4 false (.array .int) := ⟨"CertificatePathModel", tk_MD, ty_MD, rfl, by decide, wi_MD, Or.inl (xw_in 521 (by decide +kernel) rfl), rfl, by decide +kernel, to_MD, tn_MD⟩
theorem fl_MD_190 : xf_L "CertificatePathModel" 190 7 43 5 false (.int) := ⟨"CertificatePathModel", tk_MD, ty_MD, rfl, by decide, wi_MD, Or.inl (xw_in 522 (by decide +kernel) rfl), rfl, by decide +kernel, to_MD, tn_MD⟩
theorem fl_MD_38 : xf_L "CertificatePathModel" 38 7 43 6 false (.int) := ⟨"CertificatePathModel", tk_MD, ty_MD, rfl, by decide, wi_MD, Or.inl (xw_in 523 (by decide +kernel) rfl), rfl, by decide +kernel, to_MD, tn_MD⟩
theorem fl_MD_34 : xf_L "CertificatePathModel" 34 7 43 7 false (.boolean) := ⟨"CertificatePathModel", tk_MD, ty_MD, rfl, by decide, wi_MD, Or.inl (xw_in 524 (by decide +kernel) rfl), rfl, by decide +kernel, to_MD, tn_MD⟩
theorem fl_MD_132 : xf_L "CertificatePathModel" 132 7 43 8 false (.int) := ⟨"CertificatePathModel", tk_MD, ty_MD, rfl, by decide, wi_MD, Or.inl (xw_in 525 (by decide +kernel) rfl), rfl, by decide +kernel, to_MD, tn_MD⟩
theorem fl_MD_144 : xf_L "CertificatePathModel" 144 7 43 9 false (.int) := ⟨"CertificatePathModel", tk_MD, ty_MD, rfl, by decide, wi_MD, Or.inl (xw_in 526 (by decide +kernel) rfl), rfl, by decide +kernel, to_MD, tn_MD⟩
theorem fl_MD_147 : xf_L "CertificatePathModel" 147 7 43 10 false (.int) := ⟨"CertificatePathModel", tk_MD, ty_MD, rfl, by decide, wi_MD, Or.inl (xw_in 527 (by decide +kernel) rfl), rfl, by decide +kernel, to_MD, tn_MD⟩
theorem fl_MD_120 : xf_L "CertificatePathModel" 120 7 43 11 false (.int) := ⟨"CertificatePathModel", tk_MD, ty_MD, rfl, by decide, wi_MD, Or.inl (xw_in 528 (by decide +kernel) rfl), rfl, by decide +kernel, to_MD, tn_MD⟩
theorem fl_MD_123 : xf_L "CertificatePathModel" 123 7 43 12 false (.int) := ⟨"CertificatePathModel", tk_MD, ty_MD, rfl, by decide, wi_MD, Or.inl (xw_in 529 (by decide +kernel) rfl), rfl, by decide +kernel, to_MD, tn_MD⟩
theorem fl_MD_171 : xf_L "CertificatePathModel" 171 7 43 13 false (.int) := ⟨"CertificatePathModel", tk_MD, ty_MD, rfl, by decide, wi_MD, Or.inl (xw_in 530 (by decide +kernel) rfl), rfl, by decide +kernel, to_MD, tn_MD⟩
theorem fl_MD_129 : xf_L "CertificatePathModel" 129 7 43 14 false (.int) := ⟨"CertificatePathModel", tk_MD, ty_MD, rfl, by decide, wi_MD, Or.inl (xw_in 531 (by decide +kernel) rfl), rfl, by decide +kernel, to_MD, tn_MD⟩
theorem fl_MD_165 : xf_L "CertificatePathModel" 165 7 43 15 false (.int) := ⟨"CertificatePathModel", tk_MD, ty_MD, rfl, by decide, wi_MD, Or.inl (xw_in 532 (by decide +kernel) rfl), rfl, by decide +kernel, to_MD, tn_MD⟩
theorem fl_MD_48 : xf_L "CertificatePathModel" 48 7 43 16 false (.int) := ⟨"CertificatePathModel", tk_MD, ty_MD, rfl, by decide, wi_MD, Or.inl (xw_in 533 (by decide +kernel) rfl), rfl, by decide +kernel, to_MD, tn_MD⟩
theorem fl_MD_51 : xf_L "CertificatePathModel" 51 7 43 17 false (.int) := ⟨"CertificatePathModel", tk_MD, ty_MD, rfl, by decide, wi_MD, Or.inl (xw_in 534 (by decide +kernel) rfl), rfl, by decide +kernel, to_MD, tn_MD⟩
theorem fl_MD_54 : xf_L "CertificatePathModel" 54 7 43 18 false (.int) := ⟨"CertificatePathModel", tk_MD, ty_MD, rfl, by decide, wi_MD, Or.inl (xw_in 535 (by decide +kernel) rfl), rfl, by decide +kernel, to_MD, tn_MD⟩
theorem fl_MD_135 : xf_L "CertificatePathModel" 135 7 43 19 false (.int) := ⟨"CertificatePathModel", tk_MD, ty_MD, rfl, by decide, wi_MD, Or.inl (xw_in 536 (by decide +kernel) rfl), rfl, by decide +kernel, to_MD, tn_MD⟩
theorem fl_MD_138 : xf_L "CertificatePathModel" 138 7 43 20 false (.int) := ⟨"CertificatePathModel", tk_MD, ty_MD, rfl, by decide, wi_MD, Or.inl (xw_in 537 (by decide +kernel) rfl), rfl, by decide +kernel, to_MD, tn_MD⟩
theorem fl_MD_141 : xf_L "CertificatePathModel" 141 7 43 21 false (.int) := ⟨"CertificatePathModel", tk_MD, ty_MD, rfl, by decide, wi_MD, Or.inl (xw_in 538 (by decide +kernel) rfl), rfl, by decide +kernel, to_MD, tn_MD⟩
theorem fl_MD_150 : xf_L "CertificatePathModel" 150 7 43 22 false (.int) := ⟨"CertificatePathModel", tk_MD, ty_MD, rfl, by decide, wi_MD, Or.inl (xw_in 539 (by decide +kernel) rfl), rfl, by decide +kernel, to_MD, tn_MD⟩
theorem fl_MD_153 : xf_L "CertificatePathModel" 153 7 43 23 false (.int) := ⟨"CertificatePathModel", tk_MD, ty_MD, rfl, by decide, wi_MD, Or.inl (xw_in 540 (by decide +kernel) rfl), rfl, by decide +kernel, to_MD, tn_MD⟩
theorem fl_MD_156 : xf_L "CertificatePathModel" 156 7 43 24 false (.int) := ⟨"CertificatePathModel", tk_MD, ty_MD, rfl, by decide, wi_MD, Or.inl (xw_in 541 (by decide +kernel) rfl), rfl, by decide +kernel, to_MD, tn_MD⟩
theorem fl_MD_105 : xf_L "CertificatePathModel" 105 7 43 25 false (.int) := ⟨"CertificatePathModel", tk_MD, ty_MD, rfl, by decide, wi_MD, Or.inl (xw_in 542 (by decide +kernel) rfl), rfl, by decide +kernel, to_MD, tn_MD⟩
theorem fl_MD_19 : xf_L "CertificatePathModel" 19 7 43 26 false (.array .int) := ⟨"CertificatePathModel", tk_MD, ty_MD, rfl, by decide, wi_MD, Or.inl (xw_in 543 (by decide +kernel) rfl), rfl, by decide +kernel, to_MD, tn_MD⟩
theorem fl_MD_108 : xf_L "CertificatePathModel" 108 7 43 27 false (.boolean) := ⟨"CertificatePathModel", tk_MD, ty_MD, rfl, by decide, wi_MD, Or.inl (xw_in 544 (by decide +kernel) rfl), rfl, by decide +kernel, to_MD, tn_MD⟩
theorem fl_MD_60 : xf_L "CertificatePathModel" 60 7 43 28 false (.boolean) := ⟨"CertificatePathModel", tk_MD, ty_MD, rfl, by decide, wi_MD, Or.inl (xw_in 545 (by decide +kernel) rfl), rfl, by decide +kernel, to_MD, tn_MD⟩
theorem fl_MD_67 : xf_L "CertificatePathModel" 67 7 43 29 false (.boolean) := ⟨"CertificatePathModel", tk_MD, ty_MD, rfl, by decide, wi_MD, Or.inl (xw_in 546 (by decide +kernel) rfl), rfl, by decide +kernel, to_MD, tn_MD⟩
theorem fl_MD_74 : xf_L "CertificatePathModel" 74 7 43 30 false (.int) := ⟨"CertificatePathModel", tk_MD, ty_MD, rfl, by decide, wi_MD, Or.inl (xw_in 547 (by decide +kernel) rfl), rfl, by decide +kernel, to_MD, tn_MD⟩
theorem fl_MD_57 : xf_L "CertificatePathModel" 57 7 43 31 false (.int) := ⟨"CertificatePathModel", tk_MD, ty_MD, rfl, by decide, wi_MD, Or.inl (xw_in 548 (by decide +kernel) rfl), rfl, by decide +kernel, to_MD, tn_MD⟩
theorem fl_MD_90 : xf_L "CertificatePathModel" 90 7 43 32 false (.int) := ⟨"CertificatePathModel", tk_MD, ty_MD, rfl, by decide, wi_MD, Or.inl (xw_in 549 (by decide +kernel) rfl), rfl, by decide +kernel, to_MD, tn_MD⟩
theorem fl_MD_84 : xf_L "CertificatePathModel" 84 7 43 33 false (.int) := ⟨"CertificatePathModel", tk_MD, ty_MD, rfl, by decide, wi_MD, Or.inl (xw_in 550 (by decide +kernel) rfl), rfl, by decide +kernel, to_MD, tn_MD⟩
theorem fl_MD_93 : xf_L "CertificatePathModel" 93 7 43 34 false (.int) := ⟨"CertificatePathModel", tk_MD, ty_MD, rfl, by decide, wi_MD, Or.inl (xw_in 551 (by decide +kernel) rfl), rfl, by decide +kernel, to_MD, tn_MD⟩
theorem fl_MD_99 : xf_L "CertificatePathModel" 99 7 43 35 false (.int) := ⟨"CertificatePathModel", tk_MD, ty_MD, rfl, by decide, wi_MD, Or.inl (xw_in 552 (by decide +kernel) rfl), rfl, by decide +kernel, to_MD, tn_MD⟩
theorem fl_MD_96 : xf_L "CertificatePathModel" 96 7 43 36 false (.int) := ⟨"CertificatePathModel", tk_MD, ty_MD, rfl, by decide, wi_MD, Or.inl (xw_in 553 (by decide +kernel) rfl), rfl, by decide +kernel, to_MD, tn_MD⟩
theorem fl_MD_102 : xf_L "CertificatePathModel" 102 7 43 37 false (.int) := ⟨"CertificatePathModel", tk_MD, ty_MD, rfl, by decide, wi_MD, Or.inl (xw_in 554 (by decide +kernel) rfl), rfl, by decide +kernel, to_MD, tn_MD⟩
theorem fl_MD_199 : xf_L "CertificatePathModel" 199 7 43 38 false (.int) := ⟨"CertificatePathModel", tk_MD, ty_MD, rfl, by decide, wi_MD, Or.inl (xw_in 555 (by decide +kernel) rfl), rfl, by decide +kernel, to_MD, tn_MD⟩
theorem fl_MD_196 : xf_L "CertificatePathModel" 196 7 43 39 false (.int) := ⟨"CertificatePathModel", tk_MD, ty_MD, rfl, by decide, wi_MD, Or.inl (xw_in 556 (by decide +kernel) rfl), rfl, by decide +kernel, to_MD, tn_MD⟩
theorem fl_MD_202 : xf_L "CertificatePathModel" 202 7 43 40 false (.int) := ⟨"CertificatePathModel", tk_MD, ty_MD, rfl, by decide, wi_MD, Or.inl (xw_in 557 (by decide +kernel) rfl), rfl, by decide +kernel, to_MD, tn_MD⟩
theorem fl_MD_205 : xf_L "CertificatePathModel" 205 7 43 41 false (.int) := ⟨"CertificatePathModel", tk_MD, ty_MD, rfl, by decide, wi_MD, Or.inl (xw_in 558 (by decide +kernel) rfl), rfl, by decide +kernel, to_MD, tn_MD⟩
theorem fl_MD_219 : xf_L "CertificatePathModel" 219 7 43 42 false (.int) := ⟨"CertificatePathModel", tk_MD, ty_MD, rfl, by decide, wi_MD, Or.inl (xw_in 559 (by decide +kernel) rfl), rfl, by decide +kernel, to_MD, tn_MD⟩
theorem ml_LW_17 : xc_L "CertificatePathLaw" 17 qm_MD_feed 2 := ⟨Or.inl (xw_in 647 (by decide +kernel) rfl), xw_in 8 (by decide +kernel) rfl, xw_in 650 (by decide +kernel) rfl, ⟨by decide +kernel, by decide +kernel⟩, by decide +kernel⟩
theorem ml_LW_21 : xc_L "CertificatePathLaw" 21 qm_MD_set 2 := ⟨Or.inl (xw_in 651 (by decide +kernel) rfl), xw_in 8 (by decide +kernel) rfl, xw_in 654 (by decide +kernel) rfl, ⟨by decide +kernel, by decide +kernel⟩, by decide +kernel⟩
theorem ml_LW_26 : xc_L "CertificatePathLaw" 26 qm_MD_trim 1 := ⟨Or.inl (xw_in 655 (by decide +kernel) rfl), xw_in 8 (by decide +kernel) rfl, xw_in 658 (by decide +kernel) rfl, ⟨by decide +kernel, by decide +kernel⟩, by decide +kernel⟩
theorem ml_LW_31 : xc_L "CertificatePathLaw" 31 qm_MD_length 0 := ⟨Or.inl (xw_in 659 (by decide +kernel) rfl), xw_in 8 (by decide +kernel) rfl, xw_in 662 (by decide +kernel) rfl, ⟨by decide +kernel, by decide +kernel⟩, by decide +kernel⟩
theorem ml_LW_36 : xc_L "CertificatePathLaw" 36 qm_MD_byteAt 1 := ⟨Or.inl (xw_in 663 (by decide +kernel) rfl), xw_in 8 (by decide +kernel) rfl, xw_in 666 (by decide +kernel) rfl, ⟨by decide +kernel, by decide +kernel⟩, by decide +kernel⟩
theorem ml_LW_41 : xc_L "CertificatePathLaw" 41 qm_MD_hash 2 := ⟨Or.inl (xw_in 667 (by decide +kernel) rfl), xw_in 8 (by decide +kernel) rfl, xw_in 670 (by decide +kernel) rfl, ⟨by decide +kernel, by decide +kernel⟩, by decide +kernel⟩
theorem ml_MD_30 : xc_L "CertificatePathModel" 30 qm_MD_hashed 2 := ⟨Or.inl (xw_in 671 (by decide +kernel) rfl), xw_in 8 (by decide +kernel) rfl, xw_in 674 (by decide +kernel) rfl, ⟨by decide +kernel, by decide +kernel⟩, by decide +kernel⟩
theorem ml_LW_45 : xc_L "CertificatePathLaw" 45 qm_MD_accept 0 := ⟨Or.inl (xw_in 677 (by decide +kernel) rfl), xw_in 8 (by decide +kernel) rfl, xw_in 680 (by decide +kernel) rfl, ⟨by decide +kernel, by decide +kernel⟩, by decide +kernel⟩
theorem ml_MD_180 : xc_L "CertificatePathModel" 180 qm_MD_read 2 := ⟨Or.inl (xw_in 681 (by decide +kernel) rfl), xw_in 8 (by decide +kernel) rfl, xw_in 684 (by decide +kernel) rfl, ⟨by decide +kernel, by decide +kernel⟩, by decide +kernel⟩
theorem ml_MD_45 : xc_L "CertificatePathModel" 45 qm_MD_enter 2 := ⟨Or.inl (xw_in 685 (by decide +kernel) rfl), xw_in 8 (by decide +kernel) rfl, xw_in 688 (by decide +kernel) rfl, ⟨by decide +kernel, by decide +kernel⟩, by decide +kernel⟩
theorem ml_MD_41 : xc_L "CertificatePathModel" 41 qm_MD_tagged 2 := ⟨Or.inl (xw_in 689 (by decide +kernel) rfl), xw_in 8 (by decide +kernel) rfl, xw_in 692 (by decide +kernel) rfl, ⟨by decide +kernel, by decide +kernel⟩, by decide +kernel⟩
theorem ml_MD_168 : xc_L "CertificatePathModel" 168 qm_MD_body 1 := ⟨Or.inl (xw_in 693 (by decide +kernel) rfl), xw_in 8 (by decide +kernel) rfl, xw_in 696 (by decide +kernel) rfl, ⟨by decide +kernel, by decide +kernel⟩, by decide +kernel⟩
theorem ml_MD_70 : xc_L "CertificatePathModel" 70 qm_MD_integer 1 := ⟨Or.inl (xw_in 697 (by decide +kernel) rfl), xw_in 8 (by decide +kernel) rfl, xw_in 700 (by decide +kernel) rfl, ⟨by decide +kernel, by decide +kernel⟩, by decide +kernel⟩
theorem ml_MD_81 : xc_L "CertificatePathModel" 81 qm_MD_name 1 := ⟨Or.inl (xw_in 701 (by decide +kernel) rfl), xw_in 8 (by decide +kernel) rfl, xw_in 704 (by decide +kernel) rfl, ⟨by decide +kernel, by decide +kernel⟩, by decide +kernel⟩
theorem ml_MD_77 : xc_L "CertificatePathModel" 77 qm_MD_leave 1 := ⟨Or.inl (xw_in 705 (by decide +kernel) rfl), xw_in 8 (by decide +kernel) rfl, xw_in 708 (by decide +kernel) rfl, ⟨by decide +kernel, by decide +kernel⟩, by decide +kernel⟩
theorem ml_MD_159 : xc_L "CertificatePathModel" 159 qm_MD_key 1 := ⟨Or.inl (xw_in 709 (by decide +kernel) rfl), xw_in 8 (by decide +kernel) rfl, xw_in 712 (by decide +kernel) rfl, ⟨by decide +kernel, by decide +kernel⟩, by decide +kernel⟩
theorem ml_MD_162 : xc_L "CertificatePathModel" 162 qm_MD_more 1 := ⟨Or.inl (xw_in 713 (by decide +kernel) rfl), xw_in 8 (by decide +kernel) rfl, xw_in 716 (by decide +kernel) rfl, ⟨by decide +kernel, by decide +kernel⟩, by decide +kernel⟩
theorem ml_MD_126 : xc_L "CertificatePathModel" 126 qm_MD_extension 1 := ⟨Or.inl (xw_in 717 (by decide +kernel) rfl), xw_in 8 (by decide +kernel) rfl, xw_in 720 (by decide +kernel) rfl, ⟨by decide +kernel, by decide +kernel⟩, by decide +kernel⟩
theorem ml_MD_63 : xc_L "CertificatePathModel" 63 qm_MD_truth 1 := ⟨Or.inl (xw_in 721 (by decide +kernel) rfl), xw_in 8 (by decide +kernel) rfl, xw_in 724 (by decide +kernel) rfl, ⟨by decide +kernel, by decide +kernel⟩, by decide +kernel⟩
theorem ml_MD_111 : xc_L "CertificatePathModel" 111 qm_MD_basicContent 1 := ⟨Or.inl (xw_in 725 (by decide +kernel) rfl), xw_in 8 (by decide +kernel) rfl, xw_in 728 (by decide +kernel) rfl, ⟨by decide +kernel, by decide +kernel⟩, by decide +kernel⟩
theorem ml_MD_114 : xc_L "CertificatePathModel" 114 qm_MD_usageBits 1 := ⟨Or.inl (xw_in 729 (by decide +kernel) rfl), xw_in 8 (by decide +kernel) rfl, xw_in 732 (by decide +kernel) rfl, ⟨by decide +kernel, by decide +kernel⟩, by decide +kernel⟩
theorem ml_MD_117 : xc_L "CertificatePathModel" 117 qm_MD_bounds 1 := ⟨Or.inl (xw_in 733 (by decide +kernel) rfl), xw_in 8 (by decide +kernel) rfl, xw_in 736 (by decide +kernel) rfl, ⟨by decide +kernel, by decide +kernel⟩, by decide +kernel⟩
theorem ml_MD_87 : xc_L "CertificatePathModel" 87 qm_MD_names 2 := ⟨Or.inl (xw_in 737 (by decide +kernel) rfl), xw_in 8 (by decide +kernel) rfl, xw_in 740 (by decide +kernel) rfl, ⟨by decide +kernel, by decide +kernel⟩, by decide +kernel⟩
theorem ml_LW_49 : xc_L "CertificatePathLaw" 49 qm_MD_count 0 := ⟨Or.inl (xw_in 741 (by decide +kernel) rfl), xw_in 8 (by decide +kernel) rfl, xw_in 744 (by decide +kernel) rfl, ⟨by decide +kernel, by decide +kernel⟩, by decide +kernel⟩
theorem ml_LW_53 : xc_L "CertificatePathLaw" 53 qm_MD_field 2 := ⟨Or.inl (xw_in 745 (by decide +kernel) rfl), xw_in 8 (by decide +kernel) rfl, xw_in 748 (by decide +kernel) rfl, ⟨by decide +kernel, by decide +kernel⟩, by decide +kernel⟩
theorem ml_MD_183 : xc_L "CertificatePathModel" 183 qm_MD_fetch 1 := ⟨Or.inl (xw_in 749 (by decide +kernel) rfl), xw_in 8 (by decide +kernel) rfl, xw_in 752 (by decide +kernel) rfl, ⟨by decide +kernel, by decide +kernel⟩, by decide +kernel⟩
theorem ml_MD_177 : xc_L "CertificatePathModel" 177 qm_MD_kept 1 := ⟨Or.inl (xw_in 753 (by decide +kernel) rfl), xw_in 8 (by decide +kernel) rfl, xw_in 756 (by decide +kernel) rfl, ⟨by decide +kernel, by decide +kernel⟩, by decide +kernel⟩
theorem ml_LW_58 : xc_L "CertificatePathLaw" 58 qm_MD_within 4 := ⟨Or.inl (xw_in 757 (by decide +kernel) rfl), xw_in 8 (by decide +kernel) rfl, xw_in 760 (by decide +kernel) rfl, ⟨by decide +kernel, by decide +kernel⟩, by decide +kernel⟩
theorem ml_MD_186 : xc_L "CertificatePathModel" 186 qm_MD_inside 4 := ⟨Or.inl (xw_in 761 (by decide +kernel) rfl), xw_in 8 (by decide +kernel) rfl, xw_in 764 (by decide +kernel) rfl, ⟨by decide +kernel, by decide +kernel⟩, by decide +kernel⟩
theorem ml_LW_62 : xc_L "CertificatePathLaw" 62 qm_MD_recode 1 := ⟨Or.inl (xw_in 765 (by decide +kernel) rfl), xw_in 8 (by decide +kernel) rfl, xw_in 768 (by decide +kernel) rfl, ⟨by decide +kernel, by decide +kernel⟩, by decide +kernel⟩
theorem ml_LW_66 : xc_L "CertificatePathLaw" 66 qm_MD_link 1 := ⟨Or.inl (xw_in 769 (by decide +kernel) rfl), xw_in 8 (by decide +kernel) rfl, xw_in 772 (by decide +kernel) rfl, ⟨by decide +kernel, by decide +kernel⟩, by decide +kernel⟩
theorem ml_LW_71 : xc_L "CertificatePathLaw" 71 qm_MD_unlink 0 := ⟨Or.inl (xw_in 773 (by decide +kernel) rfl), xw_in 8 (by decide +kernel) rfl, xw_in 776 (by decide +kernel) rfl, ⟨by decide +kernel, by decide +kernel⟩, by decide +kernel⟩
theorem ml_LW_75 : xc_L "CertificatePathLaw" 75 qm_MD_links 0 := ⟨Or.inl (xw_in 777 (by decide +kernel) rfl), xw_in 8 (by decide +kernel) rfl, xw_in 780 (by decide +kernel) rfl, ⟨by decide +kernel, by decide +kernel⟩, by decide +kernel⟩
theorem ml_LW_80 : xc_L "CertificatePathLaw" 80 qm_MD_check 3 := ⟨Or.inl (xw_in 781 (by decide +kernel) rfl), xw_in 8 (by decide +kernel) rfl, xw_in 784 (by decide +kernel) rfl, ⟨by decide +kernel, by decide +kernel⟩, by decide +kernel⟩
theorem ml_MD_222 : xc_L "CertificatePathModel" 222 qm_MD_takeKey 0 := ⟨Or.inl (xw_in 785 (by decide +kernel) rfl), xw_in 8 (by decide +kernel) rfl, xw_in 788 (by decide +kernel) rfl, ⟨by decide +kernel, by decide +kernel⟩, by decide +kernel⟩
theorem ml_MD_225 : xc_L "CertificatePathModel" 225 qm_MD_broken 3 := ⟨Or.inl (xw_in 789 (by decide +kernel) rfl), xw_in 8 (by decide +kernel) rfl, xw_in 792 (by decide +kernel) rfl, ⟨by decide +kernel, by decide +kernel⟩, by decide +kernel⟩
theorem ml_MD_208 : xc_L "CertificatePathModel" 208 qm_MD_signedByKey 0 := ⟨Or.inl (xw_in 793 (by decide +kernel) rfl), xw_in 8 (by decide +kernel) rfl, xw_in 796 (by decide +kernel) rfl, ⟨by decide +kernel, by decide +kernel⟩, by decide +kernel⟩
theorem ml_MD_212 : xc_L "CertificatePathModel" 212 qm_MD_equalNames 4 := ⟨Or.inl (xw_in 797 (by decide +kernel) rfl), xw_in 8 (by decide +kernel) rfl, xw_in 800 (by decide +kernel) rfl, ⟨by decide +kernel, by decide +kernel⟩, by decide +kernel⟩
theorem ml_MD_215 : xc_L "CertificatePathModel" 215 qm_MD_passes 3 := ⟨Or.inl (xw_in 801 (by decide +kernel) rfl), xw_in 8 (by decide +kernel) rfl, xw_in 804 (by decide +kernel) rfl, ⟨by decide +kernel, by decide +kernel⟩, by decide +kernel⟩
theorem ml_MD_193 : xc_L "CertificatePathModel" 193 qm_MD_some 4 := ⟨Or.inl (xw_in 805 (by decide +kernel) rfl), xw_in 8 (by decide +kernel) rfl, xw_in 808 (by decide +kernel) rfl, ⟨by decide +kernel, by decide +kernel⟩, by decide +kernel⟩
theorem ml_LW_84 : xc_L "CertificatePathLaw" 84 qm_MD_reset 0 := ⟨Or.inl (xw_in 809 (by decide +kernel) rfl), xw_in 8 (by decide +kernel) rfl, xw_in 812 (by decide +kernel) rfl, ⟨by decide +kernel, by decide +kernel⟩, by decide +kernel⟩
theorem li_CT_forgetExtensions : xc_LV qm_CT_forgetExtensions := ⟨xw_in 122 (by decide +kernel) rfl, xw_inP 0 (by decide +kernel) rfl⟩
theorem li_CP_feed : xc_LV qm_CP_feed := ⟨xw_in 199 (by decide +kernel) rfl, xw_in 200 (by decide +kernel) rfl⟩
theorem li_BR_append : xc_LV qm_BR_append := ⟨xw_in 203 (by decide +kernel) rfl, xw_in 204 (by decide +kernel) rfl⟩
theorem li_CP_set : xc_LV qm_CP_set := ⟨xw_in 207 (by decide +kernel) rfl, xw_in 208 (by decide +kernel) rfl⟩
theorem li_BR_has : xc_LV qm_BR_has := ⟨xw_in 211 (by decide +kernel) rfl, xw_in 212 (by decide +kernel) rfl⟩
theorem li_CP_trim : xc_LV qm_CP_trim := ⟨xw_in 215 (by decide +kernel) rfl, xw_in 216 (by decide +kernel) rfl⟩
theorem li_CP_length : xc_LV qm_CP_length := ⟨xw_in 219 (by decide +kernel) rfl, xw_in 220 (by decide +kernel) rfl⟩
theorem li_CP_byteAt : xc_LV qm_CP_byteAt := ⟨xw_in 223 (by decide +kernel) rfl, xw_in 224 (by decide +kernel) rfl⟩
theorem li_CP_hash : xc_LV qm_CP_hash := ⟨xw_in 227 (by decide +kernel) rfl, xw_in 228 (by decide +kernel) rfl⟩
theorem li_BR_hashBetween : xc_LV qm_BR_hashBetween := ⟨xw_in 231 (by decide +kernel) rfl, xw_in 232 (by decide +kernel) rfl⟩
theorem li_CP_accept : xc_LV qm_CP_accept := ⟨xw_in 236 (by decide +kernel) rfl, xw_in 237 (by decide +kernel) rfl⟩
theorem li_CT_readFrom : xc_LV qm_CT_readFrom := ⟨xw_in 240 (by decide +kernel) rfl, xw_in 241 (by decide +kernel) rfl⟩
theorem li_RD_start : xc_LV qm_RD_start := ⟨xw_in 244 (by decide +kernel) rfl, xw_in 245 (by decide +kernel) rfl⟩
theorem li_RD_open : xc_LV qm_RD_open := ⟨xw_in 248 (by decide +kernel) rfl, xw_in 249 (by decide +kernel) rfl⟩
theorem li_CT_readHead : xc_LV qm_CT_readHead := ⟨xw_in 253 (by decide +kernel) rfl, xw_inP 1 (by decide +kernel) rfl⟩
theorem li_RD_readInteger : xc_LV qm_RD_readInteger := ⟨xw_in 257 (by decide +kernel) rfl, xw_in 258 (by decide +kernel) rfl⟩
theorem li_RD_remaining : xc_LV qm_RD_remaining := ⟨xw_in 262 (by decide +kernel) rfl, xw_in 263 (by decide +kernel) rfl⟩
theorem li_RD_refuse : xc_LV qm_RD_refuse := ⟨xw_in 266 (by decide +kernel) rfl, xw_in 267 (by decide +kernel) rfl⟩
theorem li_RD_readByte : xc_LV qm_RD_readByte := ⟨xw_in 270 (by decide +kernel) rfl, xw_in 271 (by decide +kernel) rfl⟩
theorem li_RD_close : xc_LV qm_RD_close := ⟨xw_in 274 (by decide +kernel) rfl, xw_in 275 (by decide +kernel) rfl⟩
theorem li_NM_readFrom : xc_LV qm_NM_readFrom := ⟨xw_in 278 (by decide +kernel) rfl, xw_in 279 (by decide +kernel) rfl⟩
theorem li_RD_nextIs : xc_LV qm_RD_nextIs := ⟨xw_in 288 (by decide +kernel) rfl, xw_in 289 (by decide +kernel) rfl⟩
theorem li_CT_readExtension : xc_LV qm_CT_readExtension := ⟨xw_in 293 (by decide +kernel) rfl, xw_inP 2 (by decide +kernel) rfl⟩
theorem li_CT_hasExtension : xc_LV qm_CT_hasExtension := ⟨xw_in 297 (by decide +kernel) rfl, xw_inP 3 (by decide +kernel) rfl⟩
theorem li_RD_readTrueIfThere : xc_LV qm_RD_readTrueIfThere := ⟨xw_in 301 (by decide +kernel) rfl, xw_in 302 (by decide +kernel) rfl⟩
theorem li_CT_readBasic : xc_LV qm_CT_readBasic := ⟨xw_in 307 (by decide +kernel) rfl, xw_inP 4 (by decide +kernel) rfl⟩
theorem li_CT_readUsage : xc_LV qm_CT_readUsage := ⟨xw_in 312 (by decide +kernel) rfl, xw_inP 5 (by decide +kernel) rfl⟩
theorem ls_CT_zerosBehind : xc_LS qm_CT_zerosBehind := xw_in 316 (by decide +kernel) rfl
theorem ls_CT_mirrored : xc_LS qm_CT_mirrored := xw_in 319 (by decide +kernel) rfl
theorem li_CT_readBounds : xc_LV qm_CT_readBounds := ⟨xw_in 323 (by decide +kernel) rfl, xw_inP 6 (by decide +kernel) rfl⟩
theorem li_NL_readIfThere : xc_LV qm_NL_readIfThere := ⟨xw_in 326 (by decide +kernel) rfl, xw_in 327 (by decide +kernel) rfl⟩
theorem li_EX_readOctets : xc_LV qm_EX_readOctets := ⟨xw_in 335 (by decide +kernel) rfl, xw_in 336 (by decide +kernel) rfl⟩
theorem li_RD_hashSince : xc_LV qm_RD_hashSince := ⟨xw_in 342 (by decide +kernel) rfl, xw_in 343 (by decide +kernel) rfl⟩
theorem li_RD_isAtEndOfRow : xc_LV qm_RD_isAtEndOfRow := ⟨xw_in 347 (by decide +kernel) rfl, xw_in 348 (by decide +kernel) rfl⟩
theorem li_CP_count : xc_LV qm_CP_count := ⟨xw_in 351 (by decide +kernel) rfl, xw_in 352 (by decide +kernel) rfl⟩
theorem li_CP_field : xc_LV qm_CP_field := ⟨xw_in 355 (by decide +kernel) rfl, xw_in 356 (by decide +kernel) rfl⟩
theorem li_CP_isKept : xc_LV qm_CP_isKept := ⟨xw_in 360 (by decide +kernel) rfl, xw_inP 7 (by decide +kernel) rfl⟩
theorem li_CT_fieldNumbered : xc_LV qm_CT_fieldNumbered := ⟨xw_in 363 (by decide +kernel) rfl, xw_in 364 (by decide +kernel) rfl⟩
theorem li_CP_within : xc_LV qm_CP_within := ⟨xw_in 367 (by decide +kernel) rfl, xw_in 368 (by decide +kernel) rfl⟩
theorem li_CP_nameOf : xc_LV qm_CP_nameOf := ⟨xw_in 372 (by decide +kernel) rfl, xw_inP 8 (by decide +kernel) rfl⟩
theorem li_NM_isWithin : xc_LV qm_NM_isWithin := ⟨xw_in 375 (by decide +kernel) rfl, xw_in 376 (by decide +kernel) rfl⟩
theorem li_CP_recode : xc_LV qm_CP_recode := ⟨xw_in 379 (by decide +kernel) rfl, xw_in 380 (by decide +kernel) rfl⟩
theorem li_CT_writeTo : xc_LV qm_CT_writeTo := ⟨xw_in 383 (by decide +kernel) rfl, xw_in 384 (by decide +kernel) rfl⟩
theorem li_CT_writeHead : xc_LV qm_CT_writeHead := ⟨xw_in 389 (by decide +kernel) rfl, xw_inP 9 (by decide +kernel) rfl⟩
theorem li_BR_appendInteger : xc_LV qm_BR_appendInteger := ⟨xw_in 392 (by decide +kernel) rfl, xw_in 393 (by decide +kernel) rfl⟩
theorem li_BR_insertLength : xc_LV qm_BR_insertLength := ⟨xw_in 397 (by decide +kernel) rfl, xw_in 398 (by decide +kernel) rfl⟩
theorem li_NM_writeTo : xc_LV qm_NM_writeTo := ⟨xw_in 401 (by decide +kernel) rfl, xw_in 402 (by decide +kernel) rfl⟩
theorem li_CT_writeExtension : xc_LV qm_CT_writeExtension := ⟨xw_in 409 (by decide +kernel) rfl, xw_inP 10 (by decide +kernel) rfl⟩
theorem li_BR_appendTrue : xc_LV qm_BR_appendTrue := ⟨xw_in 412 (by decide +kernel) rfl, xw_in 413 (by decide +kernel) rfl⟩
theorem li_CT_writeBasic : xc_LV qm_CT_writeBasic := ⟨xw_in 417 (by decide +kernel) rfl, xw_inP 11 (by decide +kernel) rfl⟩
theorem li_CT_writeUsage : xc_LV qm_CT_writeUsage := ⟨xw_in 421 (by decide +kernel) rfl, xw_inP 12 (by decide +kernel) rfl⟩
theorem li_CT_writeBounds : xc_LV qm_CT_writeBounds := ⟨xw_in 425 (by decide +kernel) rfl, xw_inP 13 (by decide +kernel) rfl⟩
theorem li_NL_writeIfThere : xc_LV qm_NL_writeIfThere := ⟨xw_in 428 (by decide +kernel) rfl, xw_in 429 (by decide +kernel) rfl⟩
theorem li_EX_writeOctets : xc_LV qm_EX_writeOctets := ⟨xw_in 435 (by decide +kernel) rfl, xw_in 436 (by decide +kernel) rfl⟩
theorem li_CP_link : xc_LV qm_CP_link := ⟨xw_in 440 (by decide +kernel) rfl, xw_in 441 (by decide +kernel) rfl⟩
theorem li_CP_unlink : xc_LV qm_CP_unlink := ⟨xw_in 444 (by decide +kernel) rfl, xw_in 445 (by decide +kernel) rfl⟩
theorem li_CP_links : xc_LV qm_CP_links := ⟨xw_in 448 (by decide +kernel) rfl, xw_in 449 (by decide +kernel) rfl⟩
theorem li_CP_check : xc_LV qm_CP_check := ⟨xw_in 452 (by decide +kernel) rfl, xw_in 453 (by decide +kernel) rfl⟩
theorem li_CP_brokenAnywhere : xc_LV qm_CP_brokenAnywhere := ⟨xw_in 457 (by decide +kernel) rfl, xw_inP 14 (by decide +kernel) rfl⟩
theorem li_CT_isSignedBy : xc_LV qm_CT_isSignedBy := ⟨xw_in 460 (by decide +kernel) rfl, xw_in 461 (by decide +kernel) rfl⟩
theorem li_NM_isSameAs : xc_LV qm_NM_isSameAs := ⟨xw_in 464 (by decide +kernel) rfl, xw_in 465 (by decide +kernel) rfl⟩
theorem li_CT_isSelfIssued : xc_LV qm_CT_isSelfIssued := ⟨xw_in 469 (by decide +kernel) rfl, xw_in 470 (by decide +kernel) rfl⟩
theorem li_CP_isWithinBoundsBefore : xc_LV qm_CP_isWithinBoundsBefore := ⟨xw_in 475 (by decide +kernel) rfl, xw_inP 15 (by decide +kernel) rfl⟩
theorem li_CT_allows : xc_LV qm_CT_allows := ⟨xw_in 478 (by decide +kernel) rfl, xw_in 479 (by decide +kernel) rfl⟩
theorem li_NL_covers : xc_LV qm_NL_covers := ⟨xw_in 482 (by decide +kernel) rfl, xw_in 483 (by decide +kernel) rfl⟩
theorem li_CT_hasUnknownCritical : xc_LV qm_CT_hasUnknownCritical := ⟨xw_in 487 (by decide +kernel) rfl, xw_in 488 (by decide +kernel) rfl⟩
theorem li_EX_isKnown : xc_LV qm_EX_isKnown := ⟨xw_in 491 (by decide +kernel) rfl, xw_in 492 (by decide +kernel) rfl⟩
theorem li_CT_brokenAsLast : xc_LV qm_CT_brokenAsLast := ⟨xw_in 495 (by decide +kernel) rfl, xw_in 496 (by decide +kernel) rfl⟩
theorem li_CT_brokenAsHolder : xc_LV qm_CT_brokenAsHolder := ⟨xw_in 499 (by decide +kernel) rfl, xw_in 500 (by decide +kernel) rfl⟩
theorem li_CT_restBehind : xc_LV qm_CT_restBehind := ⟨xw_in 504 (by decide +kernel) rfl, xw_in 505 (by decide +kernel) rfl⟩
theorem li_CP_reset : xc_LV qm_CP_reset := ⟨xw_in 508 (by decide +kernel) rfl, xw_in 509 (by decide +kernel) rfl⟩
theorem li_MD_feed : xc_LV qm_MD_feed := ⟨xw_in 648 (by decide +kernel) rfl, xw_in 649 (by decide +kernel) rfl⟩
theorem li_MD_set : xc_LV qm_MD_set := ⟨xw_in 652 (by decide +kernel) rfl, xw_in 653 (by decide +kernel) rfl⟩
theorem li_MD_trim : xc_LV qm_MD_trim := ⟨xw_in 656 (by decide +kernel) rfl, xw_in 657 (by decide +kernel) rfl⟩
theorem li_MD_length : xc_LV qm_MD_length := ⟨xw_in 660 (by decide +kernel) rfl, xw_in 661 (by decide +kernel) rfl⟩
theorem li_MD_byteAt : xc_LV qm_MD_byteAt := ⟨xw_in 664 (by decide +kernel) rfl, xw_in 665 (by decide +kernel) rfl⟩
theorem li_MD_hash : xc_LV qm_MD_hash := ⟨xw_in 668 (by decide +kernel) rfl, xw_in 669 (by decide +kernel) rfl⟩
theorem li_MD_hashed : xc_LV qm_MD_hashed := ⟨xw_in 673 (by decide +kernel) rfl, xw_inP 16 (by decide +kernel) rfl⟩
theorem li_MD_accept : xc_LV qm_MD_accept := ⟨xw_in 678 (by decide +kernel) rfl, xw_in 679 (by decide +kernel) rfl⟩
theorem li_MD_read : xc_LV qm_MD_read := ⟨xw_in 683 (by decide +kernel) rfl, xw_inP 17 (by decide +kernel) rfl⟩
theorem li_MD_enter : xc_LV qm_MD_enter := ⟨xw_in 687 (by decide +kernel) rfl, xw_inP 18 (by decide +kernel) rfl⟩
theorem li_MD_tagged : xc_LV qm_MD_tagged := ⟨xw_in 691 (by decide +kernel) rfl, xw_inP 19 (by decide +kernel) rfl⟩
theorem li_MD_body : xc_LV qm_MD_body := ⟨xw_in 695 (by decide +kernel) rfl, xw_inP 20 (by decide +kernel) rfl⟩
theorem li_MD_integer : xc_LV qm_MD_integer := ⟨xw_in 699 (by decide +kernel) rfl, xw_inP 21 (by decide +kernel) rfl⟩
theorem li_MD_name : xc_LV qm_MD_name := ⟨xw_in 703 (by decide +kernel) rfl, xw_inP 22 (by decide +kernel) rfl⟩
theorem li_MD_leave : xc_LV qm_MD_leave := ⟨xw_in 707 (by decide +kernel) rfl, xw_inP 23 (by decide +kernel) rfl⟩
theorem li_MD_key : xc_LV qm_MD_key := ⟨xw_in 711 (by decide +kernel) rfl, xw_inP 24 (by decide +kernel) rfl⟩
theorem li_MD_more : xc_LV qm_MD_more := ⟨xw_in 715 (by decide +kernel) rfl, xw_inP 25 (by decide +kernel) rfl⟩
theorem li_MD_extension : xc_LV qm_MD_extension := ⟨xw_in 719 (by decide +kernel) rfl, xw_inP 26 (by decide +kernel) rfl⟩
theorem li_MD_truth : xc_LV qm_MD_truth := ⟨xw_in 723 (by decide +kernel) rfl, xw_inP 27 (by decide +kernel) rfl⟩
theorem li_MD_basicContent : xc_LV qm_MD_basicContent := ⟨xw_in 727 (by decide +kernel) rfl, xw_inP 28 (by decide +kernel) rfl⟩
theorem li_MD_usageBits : xc_LV qm_MD_usageBits := ⟨xw_in 731 (by decide +kernel) rfl, xw_inP 29 (by decide +kernel) rfl⟩
theorem li_MD_bounds : xc_LV qm_MD_bounds := ⟨xw_in 735 (by decide +kernel) rfl, xw_inP 30 (by decide +kernel) rfl⟩
theorem li_MD_names : xc_LV qm_MD_names := ⟨xw_in 739 (by decide +kernel) rfl, xw_inP 31 (by decide +kernel) rfl⟩
theorem li_MD_count : xc_LV qm_MD_count := ⟨xw_in 742 (by decide +kernel) rfl, xw_in 743 (by decide +kernel) rfl⟩
theorem li_MD_field : xc_LV qm_MD_field := ⟨xw_in 746 (by decide +kernel) rfl, xw_in 747 (by decide +kernel) rfl⟩
theorem li_MD_fetch : xc_LV qm_MD_fetch := ⟨xw_in 751 (by decide +kernel) rfl, xw_inP 32 (by decide +kernel) rfl⟩
theorem li_MD_kept : xc_LV qm_MD_kept := ⟨xw_in 755 (by decide +kernel) rfl, xw_inP 33 (by decide +kernel) rfl⟩
theorem li_MD_within : xc_LV qm_MD_within := ⟨xw_in 758 (by decide +kernel) rfl, xw_in 759 (by decide +kernel) rfl⟩
theorem li_MD_inside : xc_LV qm_MD_inside := ⟨xw_in 763 (by decide +kernel) rfl, xw_inP 34 (by decide +kernel) rfl⟩
theorem li_MD_recode : xc_LV qm_MD_recode := ⟨xw_in 766 (by decide +kernel) rfl, xw_in 767 (by decide +kernel) rfl⟩
theorem li_MD_link : xc_LV qm_MD_link := ⟨xw_in 770 (by decide +kernel) rfl, xw_in 771 (by decide +kernel) rfl⟩
theorem li_MD_unlink : xc_LV qm_MD_unlink := ⟨xw_in 774 (by decide +kernel) rfl, xw_in 775 (by decide +kernel) rfl⟩
theorem li_MD_links : xc_LV qm_MD_links := ⟨xw_in 778 (by decide +kernel) rfl, xw_in 779 (by decide +kernel) rfl⟩
theorem li_MD_check : xc_LV qm_MD_check := ⟨xw_in 782 (by decide +kernel) rfl, xw_in 783 (by decide +kernel) rfl⟩
theorem li_MD_takeKey : xc_LV qm_MD_takeKey := ⟨xw_in 787 (by decide +kernel) rfl, xw_inP 35 (by decide +kernel) rfl⟩
theorem li_MD_broken : xc_LV qm_MD_broken := ⟨xw_in 791 (by decide +kernel) rfl, xw_inP 36 (by decide +kernel) rfl⟩
theorem li_MD_signedByKey : xc_LV qm_MD_signedByKey := ⟨xw_in 795 (by decide +kernel) rfl, xw_inP 37 (by decide +kernel) rfl⟩
theorem li_MD_equalNames : xc_LV qm_MD_equalNames := ⟨xw_in 799 (by decide +kernel) rfl, xw_inP 38 (by decide +kernel) rfl⟩
theorem li_MD_passes : xc_LV qm_MD_passes := ⟨xw_in 803 (by decide +kernel) rfl, xw_inP 39 (by decide +kernel) rfl⟩
theorem li_MD_some : xc_LV qm_MD_some := ⟨xw_in 807 (by decide +kernel) rfl, xw_inP 40 (by decide +kernel) rfl⟩
theorem li_MD_reset : xc_LV qm_MD_reset := ⟨xw_in 810 (by decide +kernel) rfl, xw_in 811 (by decide +kernel) rfl⟩
theorem kc_BR_19 : Cond.constant "CertificatePath$ByteRow" 19 (nI 1000003) ∈ xw_W := xw_in 234 (by decide +kernel) rfl
theorem kc_CT_132 : Cond.constant "CertificatePath$Certificate" 132 (nI 2147483647) ∈ xw_W := xw_in 255 (by decide +kernel) rfl
theorem kc_MD_26 : Cond.constantLong "CertificatePathModel" 26 (lN 263) ∈ xw_W := xw_in 675 (by decide +kernel) rfl
theorem kc_MD_28 : Cond.constantLong "CertificatePathModel" 28 (lN 1000003) ∈ xw_W := xw_in 676 (by decide +kernel) rfl
end
section
/-! The memory view: the cells of the whole run are places 0, 1, ..; a place's ints (and longs) are numbers M place slot; references are a fixed table. One world for everything: no cutting out, no putting back. -/
theorem xm_eq {M : xm_M} {p k v : Nat} : xm_set M p k v p k = v := by simp [xm_set]
theorem xm_np {M : xm_M} {p k v q j : Nat} (h : q ≠ p) : xm_set M p k v q j = M q j := by simp [xm_set, h]
theorem xm_nk {M : xm_M} {p k v q j : Nat} (h : j ≠ k) : xm_set M p k v q j = M q j := by
  unfold xm_set
  split
  · simp [h]
  · rfl
theorem xm_row {M : xm_M} {p k v : Nat} : xm_set M p k v p = fun j => if j = k then v else M p j := by
  funext j
  simp [xm_set]
theorem xm_oth {M : xm_M} {p k v q : Nat} (h : q ≠ p) : xm_set M p k v q = M q := by
  funext j
  simp [xm_set, h]
theorem xl_row {l : xl_L} {p k : Nat} {v : Option Nat} : xl_set l p k v p = fun j => if j = k then v else l p j := by
  funext j
  simp [xl_set]
theorem xl_oth {l : xl_L} {p k q : Nat} {v : Option Nat} (h : q ≠ p) : xl_set l p k v q = l q := by
  funext j
  simp [xl_set, h]
def xw_slot (ad : Nat → Nat) (b : Bool) (r : Option Nat) (n : Nat) : Value := if b then va_rf (r.map ad) else .int (nI n)
def xw_fs (ad : Nat → Nat) (rk : Nat → Bool) (r : Nat → Option Nat) (f : Nat → Nat) (n : Nat) : List Value := (List.range n).map (fun k => xw_slot ad (rk k) (r k) (f k))
/-- D, the arrays' classes, what may change, the addresses -/
abbrev xw_Y : Type := va_G × (Nat → ClassId) × (Nat → Prop) × (Nat → Nat)
def xw_of (Y : xw_Y) (r : Nat → Option Nat) (f : Nat → Nat) : Nat × Nat × Nat → va_E
  | (0, ci, n) => .inr (ci, xw_fs Y.2.2.2 (xw_rk ci) r f n)
  | (1, t, n) => .inl (Y.2.1 t, n, .inl (fun j => nI (f j)))
  | (2, t, n) => .inl (Y.2.1 t, n, .inr (.inl (fun j => lN (f j))))
  | (_, t, n) => .inl (Y.2.1 t, n, .inr (.inr (.inr (.inr (fun j => (r j).map Y.2.2.2)))))
def xw_cell (Y : xw_Y) (lk : xl_L) (M : xm_M) (q : Nat) : va_E := xw_of Y (lk q) (M q) (xw_K q)
def xw_ws (Y : xw_Y) (lk : xl_L) (M : xm_M) (N : Nat) : va_W := (List.range N).map (fun q => (Y.2.2.2 q, xw_cell Y lk M q))
def xw_tys (Y : xw_Y) : List (ClassId × FieldType) := [(Y.2.1 0, .int), (Y.2.1 1, .long), (Y.2.1 2, .object xw_A2), (Y.2.1 3, .object xw_A3), (Y.2.1 4, .object xw_A4)]
theorem xw_at {Y : xw_Y} {lk : xl_L} {M : xm_M} {N q : Nat} (h : q < N) : (xw_ws Y lk M N)[q]? = some (Y.2.2.2 q, xw_cell Y lk M q) := by
  simp [xw_ws, h]
theorem xw_set {Y : xw_Y} {lk lk' : xl_L} {M M' : xm_M} {N q : Nat} {e : va_E} (h0 : xw_cell Y lk' M' q = e) (h : ∀ z, z ≠ q → lk' z = lk z ∧ M' z = M z) : (xw_ws Y lk M N).set q (Y.2.2.2 q, e) = xw_ws Y lk' M' N := by
  apply List.ext_getElem?
  intro i
  by_cases hi : i = q
  · subst hi
    by_cases hN : i < N
    · rw [xw_at hN, h0, List.getElem?_set_self (by simpa [xw_ws] using hN)]
    · rw [List.getElem?_eq_none (by simp [xw_ws]; omega), List.getElem?_eq_none (by simp [xw_ws]; omega)]
  · rw [List.getElem?_set_ne (fun e => hi e.symm)]
    obtain ⟨a, b⟩ := h i hi
    by_cases hN : i < N
    · rw [xw_at hN, xw_at hN]
      unfold xw_cell
      rw [a, b]
    · rw [List.getElem?_eq_none (by simp [xw_ws]; omega), List.getElem?_eq_none (by simp [xw_ws]; omega)]
theorem xw_fs_get {ad : Nat → Nat} {rk : Nat → Bool} {r : Nat → Option Nat} {f : Nat → Nat} {n k : Nat} (h : k < n) : (xw_fs ad rk r f n)[k]? = some (xw_slot ad (rk k) (r k) (f k)) := by
  simp [xw_fs, h]
theorem xw_fs_len {ad : Nat → Nat} {rk : Nat → Bool} {r : Nat → Option Nat} {f : Nat → Nat} {n : Nat} : (xw_fs ad rk r f n).length = n := by
  simp [xw_fs]
theorem xw_fs_set {ad : Nat → Nat} {rk : Nat → Bool} {r r' : Nat → Option Nat} {f f' : Nat → Nat} {n k : Nat} {v : Value} (hv : xw_slot ad (rk k) (r' k) (f' k) = v) (h : ∀ j, j ≠ k → r' j = r j ∧ f' j = f j) : (xw_fs ad rk r f n).set k v = xw_fs ad rk r' f' n := by
  apply List.ext_getElem?
  intro i
  by_cases hi : i = k
  · subst hi
    by_cases hN : i < n
    · rw [xw_fs_get hN, hv, List.getElem?_set_self (by rw [xw_fs_len]; exact hN)]
    · rw [List.getElem?_eq_none (by simp [xw_fs]; omega), List.getElem?_eq_none (by simp [xw_fs]; omega)]
  · rw [List.getElem?_set_ne (fun e => hi e.symm)]
    obtain ⟨a, b⟩ := h i hi
    by_cases hN : i < n
    · rw [xw_fs_get hN, xw_fs_get hN, a, b]
    · rw [List.getElem?_eq_none (by simp [xw_fs]; omega), List.getElem?_eq_none (by simp [xw_fs]; omega)]
/-- the heap holds the memory -/
def xw_B (Y : xw_Y) (lk : xl_L) (N : Nat) (M : xm_M) (t : State) : Prop := va_P Y.1 xw_Cl (xw_ws Y lk M N) t.heap ∧ va_K Y.1 xw_Cl (xw_tys Y) t ∧ va_D Y.2.2.1 (xw_ws Y lk M N)
/-- the words between nest mates -/
def xw_nest (U : State) : Prop := ∀ w ∈ xw_NW, va_Nw w U
theorem xw_nest_same {u U : State} (h : u.vm = U.vm) (hN : xw_nest u) : xw_nest U := fun w hw => va_Nw.same (xw_NWt w hw) h (hN w hw)
theorem xw_nest_warm {s U : State} (hW : s.WarmedH U.vm) (hN : xw_nest s) : xw_nest U := by
  intro w hw
  rcases xw_NWf w hw with ⟨a, i, b, n, d, h, rfl⟩ | ⟨a, i, x, h, rfl⟩
  · exact va_Nw.warmF hW (hN _ hw)
  · exact va_Nw.warmM hW (hN _ hw)
def xw_P (Y : xw_Y) (M : xm_M) (U : State) : Prop := xw_B Y xw_lk xw_N M U ∧ xw_nest U
/-- the fixed things of a walk: program, launch, environment, room, start, method, arguments, below, method, code, what is aimed at -/
abbrev xv_X : Type := Program × Launch × Env × Room × State × MethodId × Array Value × List Frame × Method × Code × (State → Prop)
abbrev xv_p (X : xv_X) : Program := X.1
abbrev xv_l (X : xv_X) : Launch := X.2.1
abbrev xv_e (X : xv_X) : Env := X.2.2.1
abbrev xv_R (X : xv_X) : Room := X.2.2.2.1
abbrev xv_s (X : xv_X) : State := X.2.2.2.2.1
abbrev xv_m (X : xv_X) : MethodId := X.2.2.2.2.2.1
abbrev xv_args (X : xv_X) : Array Value := X.2.2.2.2.2.2.1
abbrev xv_below (X : xv_X) : List Frame := X.2.2.2.2.2.2.2.1
abbrev xv_meth (X : xv_X) : Method := X.2.2.2.2.2.2.2.2.1
abbrev xv_c (X : xv_X) : Code := X.2.2.2.2.2.2.2.2.2.1
abbrev xv_Q (X : xv_X) : State → Prop := X.2.2.2.2.2.2.2.2.2.2
/-- the walk stands at pc with locals L, operands st and memory M, and comes to what is aimed at -/
def xv_V (X : xv_X) (Y : xw_Y) (nL cells slots : Nat) (lk : xl_L) (N : Nat) (M : xm_M) (pc : Nat) (L : List (Nat × Value)) (st : List Value) : Prop :=
  ∀ (H : Heap) (locs : List Loc) (ls : Array Slot), va_P Y.1 xw_Cl (xw_ws Y lk M N) H → va_D Y.2.2.1 (xw_ws Y lk M N) → va_S Y.2.2.1 (xv_s X).heap H locs → lv_has ls nL L →
    W (xv_p X) (xv_l X) (xv_e X) (xv_R X) (xv_s X) (xv_m X) (xv_args X) (xv_below X) (xv_meth X) (xv_c X) H locs cells slots (xv_Q X) (F0 (xv_m X) pc ls st)
def xv_ok (X : xv_X) (Y : xw_Y) (cc : ByteArray) (own : String) (nL : Nat) (rm : Room) : Prop :=
  (xv_p X).tables.exec = Jvm.exec ∧ (xv_c X).code = cc ∧ (xv_c X).maxLocals = nL ∧ (xv_s X).vm.findClass own = some (xv_m X).cls ∧ (∀ w ∈ xw_W, w.before (xv_args X) (xv_s X) = true) ∧ va_K Y.1 xw_Cl (xw_tys Y) (xv_s X) ∧ (xv_meth X).locks = false ∧ xv_R X = rm ∧ xw_nest (xv_s X)
end
section
section XV
variable {X : xv_X} {Y : xw_Y} {cc : ByteArray} {own : String} {nL cells slots : Nat} {rm : Room} {lk : xl_L} {N : Nat} {M : xm_M} {pc pq : Nat} {L : List (Nat × Value)} {st : List Value}

theorem xv_iadd (hX : xv_ok X Y cc own nL rm) {a b v : Int32} (d : decode cc pc = .ok (.iadd, 1)) (hv : a + b = v) (e : pc + 1 = pq) (h : xv_V X Y nL cells slots lk N M pq L (.int v :: st)) : xv_V X Y nL cells slots lk N M pc L (.int b :: .int a :: st) := by
  subst e
  subst hv
  exact fun H locs ls hP hD hS hl => lv_iadd hX.1 hX.2.1 d (h H locs ls hP hD hS hl)
theorem xv_isub (hX : xv_ok X Y cc own nL rm) {a b v : Int32} (d : decode cc pc = .ok (.isub, 1)) (hv : a - b = v) (e : pc + 1 = pq) (h : xv_V X Y nL cells slots lk N M pq L (.int v :: st)) : xv_V X Y nL cells slots lk N M pc L (.int b :: .int a :: st) := by
  subst e
  subst hv
  exact fun H locs ls hP hD hS hl => lv_isub hX.1 hX.2.1 d (h H locs ls hP hD hS hl)
theorem xv_imul (hX : xv_ok X Y cc own nL rm) {a b v : Int32} (d : decode cc pc = .ok (.imul, 1)) (hv : a * b = v) (e : pc + 1 = pq) (h : xv_V X Y nL cells slots lk N M pq L (.int v :: st)) : xv_V X Y nL cells slots lk N M pc L (.int b :: .int a :: st) := by
  subst e
  subst hv
  exact fun H locs ls hP hD hS hl => lv_imul hX.1 hX.2.1 d (h H locs ls hP hD hS hl)
theorem xv_iand (hX : xv_ok X Y cc own nL rm) {a b v : Int32} (d : decode cc pc = .ok (.iand, 1)) (hv : a &&& b = v) (e : pc + 1 = pq) (h : xv_V X Y nL cells slots lk N M pq L (.int v :: st)) : xv_V X Y nL cells slots lk N M pc L (.int b :: .int a :: st) := by
  subst e
  subst hv
  exact fun H locs ls hP hD hS hl => lv_iand hX.1 hX.2.1 d (h H locs ls hP hD hS hl)
theorem xv_ior (hX : xv_ok X Y cc own nL rm) {a b v : Int32} (d : decode cc pc = .ok (.ior, 1)) (hv : a ||| b = v) (e : pc + 1 = pq) (h : xv_V X Y nL cells slots lk N M pq L (.int v :: st)) : xv_V X Y nL cells slots lk N M pc L (.int b :: .int a :: st) := by
  subst e
  subst hv
  exact fun H locs ls hP hD hS hl => lv_ior hX.1 hX.2.1 d (h H locs ls hP hD hS hl)
theorem xv_ishl (hX : xv_ok X Y cc own nL rm) {a b v : Int32} (d : decode cc pc = .ok (.ishl, 1)) (hv : a <<< (b &&& 31) = v) (e : pc + 1 = pq) (h : xv_V X Y nL cells slots lk N M pq L (.int v :: st)) : xv_V X Y nL cells slots lk N M pc L (.int b :: .int a :: st) := by
  subst e
  subst hv
  exact fun H locs ls hP hD hS hl => lv_ishl hX.1 hX.2.1 d (h H locs ls hP hD hS hl)
theorem xv_ishr (hX : xv_ok X Y cc own nL rm) {a b v : Int32} (d : decode cc pc = .ok (.ishr, 1)) (hv : a >>> (b &&& 31) = v) (e : pc + 1 = pq) (h : xv_V X Y nL cells slots lk N M pq L (.int v :: st)) : xv_V X Y nL cells slots lk N M pc L (.int b :: .int a :: st) := by
  subst e
  subst hv
  exact fun H locs ls hP hD hS hl => lv_ishr hX.1 hX.2.1 d (h H locs ls hP hD hS hl)
theorem xv_irem (hX : xv_ok X Y cc own nL rm) {a b v : Int32} (d : decode cc pc = .ok (.irem, 1)) (hne : ¬ b = 0) (hv : a - a / b * b = v) (e : pc + 1 = pq) (h : xv_V X Y nL cells slots lk N M pq L (.int v :: st)) : xv_V X Y nL cells slots lk N M pc L (.int b :: .int a :: st) := by
  subst e
  subst hv
  exact fun H locs ls hP hD hS hl => lv_irem hX.1 hX.2.1 d hne (h H locs ls hP hD hS hl)
theorem xv_ladd (hX : xv_ok X Y cc own nL rm) {a b v : Int64} (d : decode cc pc = .ok (.ladd, 1)) (hv : a + b = v) (e : pc + 1 = pq) (h : xv_V X Y nL cells slots lk N M pq L (.long v :: st)) : xv_V X Y nL cells slots lk N M pc L (.long b :: .long a :: st) := by
  subst e
  subst hv
  exact fun H locs ls hP hD hS hl => lv_ladd hX.1 hX.2.1 d (h H locs ls hP hD hS hl)
theorem xv_lmul (hX : xv_ok X Y cc own nL rm) {a b v : Int64} (d : decode cc pc = .ok (.lmul, 1)) (hv : a * b = v) (e : pc + 1 = pq) (h : xv_V X Y nL cells slots lk N M pq L (.long v :: st)) : xv_V X Y nL cells slots lk N M pc L (.long b :: .long a :: st) := by
  subst e
  subst hv
  exact fun H locs ls hP hD hS hl => lv_lmul hX.1 hX.2.1 d (h H locs ls hP hD hS hl)
theorem xv_lor (hX : xv_ok X Y cc own nL rm) {a b v : Int64} (d : decode cc pc = .ok (.lor, 1)) (hv : a ||| b = v) (e : pc + 1 = pq) (h : xv_V X Y nL cells slots lk N M pq L (.long v :: st)) : xv_V X Y nL cells slots lk N M pc L (.long b :: .long a :: st) := by
  subst e
  subst hv
  exact fun H locs ls hP hD hS hl => lv_lor hX.1 hX.2.1 d (h H locs ls hP hD hS hl)
theorem xv_lrem (hX : xv_ok X Y cc own nL rm) {a b v : Int64} (d : decode cc pc = .ok (.lrem, 1)) (hne : ¬ b = 0) (hv : a - a / b * b = v) (e : pc + 1 = pq) (h : xv_V X Y nL cells slots lk N M pq L (.long v :: st)) : xv_V X Y nL cells slots lk N M pc L (.long b :: .long a :: st) := by
  subst e
  subst hv
  exact fun H locs ls hP hD hS hl => lv_lrem hX.1 hX.2.1 d hne (h H locs ls hP hD hS hl)
theorem xv_ixor (hX : xv_ok X Y cc own nL rm) {a b v : Int32} (d : decode cc pc = .ok (.ixor, 1)) (hv : a ^^^ b = v) (e : pc + 1 = pq) (h : xv_V X Y nL cells slots lk N M pq L (.int v :: st)) : xv_V X Y nL cells slots lk N M pc L (.int b :: .int a :: st) := by
  subst e
  subst hv
  exact fun H locs ls hP hD hS hl => lv_ixor hX.1 hX.2.1 d (h H locs ls hP hD hS hl)
theorem xv_iushr (hX : xv_ok X Y cc own nL rm) {a b v : Int32} (d : decode cc pc = .ok (.iushr, 1)) (hv : (a.toUInt32 >>> (b.toUInt32 &&& Int32.toUInt32 31)).toInt32 = v) (e : pc + 1 = pq) (h : xv_V X Y nL cells slots lk N M pq L (.int v :: st)) : xv_V X Y nL cells slots lk N M pc L (.int b :: .int a :: st) := by
  subst e
  exact fun H locs ls hP hD hS hl => lv_iushr hX.1 hX.2.1 d hv (h H locs ls hP hD hS hl)
theorem xv_lushr (hX : xv_ok X Y cc own nL rm) {a v : Int64} {b : Int32} (d : decode cc pc = .ok (.lushr, 1)) (hv : (a.toUInt64 >>> (b.toInt64.toUInt64 &&& Int64.toUInt64 63)).toInt64 = v) (e : pc + 1 = pq) (h : xv_V X Y nL cells slots lk N M pq L (.long v :: st)) : xv_V X Y nL cells slots lk N M pc L (.int b :: .long a :: st) := by
  subst e
  exact fun H locs ls hP hD hS hl => lv_lushr hX.1 hX.2.1 d hv (h H locs ls hP hD hS hl)
theorem xv_lshl (hX : xv_ok X Y cc own nL rm) {a v : Int64} {b : Int32} (d : decode cc pc = .ok (.lshl, 1)) (hv : a <<< (b.toInt64 &&& 63) = v) (e : pc + 1 = pq) (h : xv_V X Y nL cells slots lk N M pq L (.long v :: st)) : xv_V X Y nL cells slots lk N M pc L (.int b :: .long a :: st) := by
  subst e
  exact fun H locs ls hP hD hS hl => lv_lshl hX.1 hX.2.1 d hv (h H locs ls hP hD hS hl)
theorem xv_i2l (hX : xv_ok X Y cc own nL rm) {a : Int32} {v : Int64} (d : decode cc pc = .ok (.i2l, 1)) (hv : a.toInt64 = v) (e : pc + 1 = pq) (h : xv_V X Y nL cells slots lk N M pq L (.long v :: st)) : xv_V X Y nL cells slots lk N M pc L (.int a :: st) := by
  subst e
  exact fun H locs ls hP hD hS hl => lv_i2l hX.1 hX.2.1 d hv (h H locs ls hP hD hS hl)
theorem xv_l2i (hX : xv_ok X Y cc own nL rm) {a : Int64} {v : Int32} (d : decode cc pc = .ok (.l2i, 1)) (hv : a.toInt32 = v) (e : pc + 1 = pq) (h : xv_V X Y nL cells slots lk N M pq L (.int v :: st)) : xv_V X Y nL cells slots lk N M pc L (.long a :: st) := by
  subst e
  exact fun H locs ls hP hD hS hl => lv_l2i hX.1 hX.2.1 d hv (h H locs ls hP hD hS hl)
theorem xv_iconst (hX : xv_ok X Y cc own nL rm) {n : Int} {v : Int32} (d : decode cc pc = .ok (.iconst n, 1)) (hv : Int32.ofInt n = v) (e : pc + 1 = pq) (h : xv_V X Y nL cells slots lk N M pq L (.int v :: st)) : xv_V X Y nL cells slots lk N M pc L st := by
  subst e
  exact fun H locs ls hP hD hS hl => lv_iconst hX.1 hX.2.1 d hv (h H locs ls hP hD hS hl)
theorem xv_bipush (hX : xv_ok X Y cc own nL rm) {n : Int} {v : Int32} (d : decode cc pc = .ok (.bipush n, 2)) (hv : (Int8.ofInt n).toInt32 = v) (e : pc + 2 = pq) (h : xv_V X Y nL cells slots lk N M pq L (.int v :: st)) : xv_V X Y nL cells slots lk N M pc L st := by
  subst e
  exact fun H locs ls hP hD hS hl => lv_bipush hX.1 hX.2.1 d hv (h H locs ls hP hD hS hl)
theorem xv_sipush (hX : xv_ok X Y cc own nL rm) {n : Int} {v : Int32} (d : decode cc pc = .ok (.sipush n, 3)) (hv : (Int16.ofInt n).toInt32 = v) (e : pc + 3 = pq) (h : xv_V X Y nL cells slots lk N M pq L (.int v :: st)) : xv_V X Y nL cells slots lk N M pc L st := by
  subst e
  exact fun H locs ls hP hD hS hl => lv_sipush hX.1 hX.2.1 d hv (h H locs ls hP hD hS hl)
theorem xv_lconst (hX : xv_ok X Y cc own nL rm) {n : Fin 2} {v : Int64} (d : decode cc pc = .ok (.lconst n, 1)) (hv : Int64.ofNat (n : Nat) = v) (e : pc + 1 = pq) (h : xv_V X Y nL cells slots lk N M pq L (.long v :: st)) : xv_V X Y nL cells slots lk N M pc L st := by
  subst e
  exact fun H locs ls hP hD hS hl => lv_lconst hX.1 hX.2.1 d hv (h H locs ls hP hD hS hl)
theorem xv_ldc (hX : xv_ok X Y cc own nL rm) {idx : Nat} {v : Int32} (hw : Jvm.Cond.constant own idx v ∈ xw_W) (d : decode cc pc = .ok (.ldc idx, 2)) (e : pc + 2 = pq) (h : xv_V X Y nL cells slots lk N M pq L (.int v :: st)) : xv_V X Y nL cells slots lk N M pc L st := by
  subst e
  exact fun H locs ls hP hD hS hl => lv_ldc hX.1 hX.2.1 hX.2.2.2.1 (hX.2.2.2.2.1 _ hw) d (h H locs ls hP hD hS hl)
theorem xv_ldc2 (hX : xv_ok X Y cc own nL rm) {idx : Nat} {v : Int64} (hw : Jvm.Cond.constantLong own idx v ∈ xw_W) (d : decode cc pc = .ok (.ldc2_w idx, 3)) (e : pc + 3 = pq) (h : xv_V X Y nL cells slots lk N M pq L (.long v :: st)) : xv_V X Y nL cells slots lk N M pc L st := by
  subst e
  exact fun H locs ls hP hD hS hl => lv_ldc2 hX.1 hX.2.1 hX.2.2.2.1 (hX.2.2.2.2.1 _ hw) d (h H locs ls hP hD hS hl)
theorem xv_iload_n (hX : xv_ok X Y cc own nL rm) {k : Fin 4} {x : Int32} (i : Nat) (d : decode cc pc = .ok (.iload_n k, 1)) (hk : L[i]? = some ((k : Nat), .int x)) (e : pc + 1 = pq) (h : xv_V X Y nL cells slots lk N M pq L (.int x :: st)) : xv_V X Y nL cells slots lk N M pc L st := by
  subst e
  exact fun H locs ls hP hD hS hl => lv_iload_n hX.1 hX.2.1 d rfl (lv_at hl i hk) (h H locs ls hP hD hS hl)
theorem xv_iload (hX : xv_ok X Y cc own nL rm) {k : Nat} {x : Int32} (i : Nat) (d : decode cc pc = .ok (.iload k, 2)) (hk : L[i]? = some (k, .int x)) (e : pc + 2 = pq) (h : xv_V X Y nL cells slots lk N M pq L (.int x :: st)) : xv_V X Y nL cells slots lk N M pc L st := by
  subst e
  exact fun H locs ls hP hD hS hl => lv_iload hX.1 hX.2.1 d (lv_at hl i hk) (h H locs ls hP hD hS hl)
theorem xv_lload_n (hX : xv_ok X Y cc own nL rm) {k : Fin 4} {x : Int64} (i : Nat) (d : decode cc pc = .ok (.lload_n k, 1)) (hk : L[i]? = some ((k : Nat), .long x)) (e : pc + 1 = pq) (h : xv_V X Y nL cells slots lk N M pq L (.long x :: st)) : xv_V X Y nL cells slots lk N M pc L st := by
  subst e
  exact fun H locs ls hP hD hS hl => lv_lload_n hX.1 hX.2.1 d rfl (lv_at hl i hk) (h H locs ls hP hD hS hl)
theorem xv_lload (hX : xv_ok X Y cc own nL rm) {k : Nat} {x : Int64} (i : Nat) (d : decode cc pc = .ok (.lload k, 2)) (hk : L[i]? = some (k, .long x)) (e : pc + 2 = pq) (h : xv_V X Y nL cells slots lk N M pq L (.long x :: st)) : xv_V X Y nL cells slots lk N M pc L st := by
  subst e
  exact fun H locs ls hP hD hS hl => lv_lload hX.1 hX.2.1 d (lv_at hl i hk) (h H locs ls hP hD hS hl)
theorem xv_aload_n (hX : xv_ok X Y cc own nL rm) {k : Fin 4} {x : Nat} (i : Nat) (d : decode cc pc = .ok (.aload_n k, 1)) (hk : L[i]? = some ((k : Nat), .ref x)) (e : pc + 1 = pq) (h : xv_V X Y nL cells slots lk N M pq L (.ref x :: st)) : xv_V X Y nL cells slots lk N M pc L st := by
  subst e
  exact fun H locs ls hP hD hS hl => lv_aload_n hX.1 hX.2.1 d rfl (lv_at hl i hk) (h H locs ls hP hD hS hl)
theorem xv_aload (hX : xv_ok X Y cc own nL rm) {k : Nat} {x : Nat} (i : Nat) (d : decode cc pc = .ok (.aload k, 2)) (hk : L[i]? = some (k, .ref x)) (e : pc + 2 = pq) (h : xv_V X Y nL cells slots lk N M pq L (.ref x :: st)) : xv_V X Y nL cells slots lk N M pc L st := by
  subst e
  exact fun H locs ls hP hD hS hl => lv_aload hX.1 hX.2.1 d (lv_at hl i hk) (h H locs ls hP hD hS hl)
theorem xv_istore_n (hX : xv_ok X Y cc own nL rm) {k : Fin 4} {x : Int32} {L' : List (Nat × Value)} (ks : List Nat) (d : decode cc pc = .ok (.istore_n k, 1)) (hn : (k : Nat) < nL) (hL : lv_pick (((k : Nat), Value.int x) :: L.filter (fun q => !(q.1 == (k : Nat)) && !(q.1 + 1 == (k : Nat) && q.2.category == 2))) ks = L') (e : pc + 1 = pq) (h : xv_V X Y nL cells slots lk N M pq L' st) : xv_V X Y nL cells slots lk N M pc L (.int x :: st) := by
  subst e
  exact fun H locs ls hP hD hS hl => lv_istore_n hX.1 hX.2.1 d rfl hl hn rfl (fun ls' hl' => h H locs ls' hP hD hS (lv_sub hl' ks hL))
theorem xv_istore (hX : xv_ok X Y cc own nL rm) {k : Nat} {x : Int32} {L' : List (Nat × Value)} (ks : List Nat) (d : decode cc pc = .ok (.istore k, 2)) (hn : k < nL) (hL : lv_pick ((k, Value.int x) :: L.filter (fun q => !(q.1 == k) && !(q.1 + 1 == k && q.2.category == 2))) ks = L') (e : pc + 2 = pq) (h : xv_V X Y nL cells slots lk N M pq L' st) : xv_V X Y nL cells slots lk N M pc L (.int x :: st) := by
  subst e
  exact fun H locs ls hP hD hS hl => lv_istore hX.1 hX.2.1 d hl hn rfl (fun ls' hl' => h H locs ls' hP hD hS (lv_sub hl' ks hL))
theorem xv_lstore_n (hX : xv_ok X Y cc own nL rm) {k : Fin 4} {x : Int64} {L' : List (Nat × Value)} (ks : List Nat) (d : decode cc pc = .ok (.lstore_n k, 1)) (hn : (k : Nat) + 1 < nL) (hL : lv_pick (((k : Nat), Value.long x) :: L.filter (fun q => !(q.1 == (k : Nat)) && (!(q.1 == (k : Nat) + 1) && !(q.1 + 1 == (k : Nat) && q.2.category == 2)))) ks = L') (e : pc + 1 = pq) (h : xv_V X Y nL cells slots lk N M pq L' st) : xv_V X Y nL cells slots lk N M pc L (.long x :: st) := by
  subst e
  exact fun H locs ls hP hD hS hl => lv_lstore_n hX.1 hX.2.1 d rfl hl hn rfl (fun ls' hl' => h H locs ls' hP hD hS (lv_sub hl' ks hL))
theorem xv_lstore (hX : xv_ok X Y cc own nL rm) {k : Nat} {x : Int64} {L' : List (Nat × Value)} (ks : List Nat) (d : decode cc pc = .ok (.lstore k, 2)) (hn : k + 1 < nL) (hL : lv_pick ((k, Value.long x) :: L.filter (fun q => !(q.1 == k) && (!(q.1 == k + 1) && !(q.1 + 1 == k && q.2.category == 2)))) ks = L') (e : pc + 2 = pq) (h : xv_V X Y nL cells slots lk N M pq L' st) : xv_V X Y nL cells slots lk N M pc L (.long x :: st) := by
  subst e
  exact fun H locs ls hP hD hS hl => lv_lstore hX.1 hX.2.1 d hl hn rfl (fun ls' hl' => h H locs ls' hP hD hS (lv_sub hl' ks hL))
theorem xv_astore_n (hX : xv_ok X Y cc own nL rm) {k : Fin 4} {x : Nat} {L' : List (Nat × Value)} (ks : List Nat) (d : decode cc pc = .ok (.astore_n k, 1)) (hn : (k : Nat) < nL) (hL : lv_pick (((k : Nat), Value.ref x) :: L.filter (fun q => !(q.1 == (k : Nat)) && !(q.1 + 1 == (k : Nat) && q.2.category == 2))) ks = L') (e : pc + 1 = pq) (h : xv_V X Y nL cells slots lk N M pq L' st) : xv_V X Y nL cells slots lk N M pc L (.ref x :: st) := by
  subst e
  exact fun H locs ls hP hD hS hl => lv_astore_n hX.1 hX.2.1 d rfl hl hn rfl (fun ls' hl' => h H locs ls' hP hD hS (lv_sub hl' ks hL))
theorem xv_astore (hX : xv_ok X Y cc own nL rm) {k : Nat} {x : Nat} {L' : List (Nat × Value)} (ks : List Nat) (d : decode cc pc = .ok (.astore k, 2)) (hn : k < nL) (hL : lv_pick ((k, Value.ref x) :: L.filter (fun q => !(q.1 == k) && !(q.1 + 1 == k && q.2.category == 2))) ks = L') (e : pc + 2 = pq) (h : xv_V X Y nL cells slots lk N M pq L' st) : xv_V X Y nL cells slots lk N M pc L (.ref x :: st) := by
  subst e
  exact fun H locs ls hP hD hS hl => lv_astore hX.1 hX.2.1 d hl hn rfl (fun ls' hl' => h H locs ls' hP hD hS (lv_sub hl' ks hL))
theorem xv_iinc (hX : xv_ok X Y cc own nL rm) {k : Nat} {n : Int} {x v : Int32} {L' : List (Nat × Value)} (i : Nat) (ks : List Nat) (d : decode cc pc = .ok (.iinc k n, 3)) (hk : L[i]? = some (k, .int x)) (hv : x + Int32.ofInt n = v) (hn : k < nL) (hL : lv_pick ((k, Value.int v) :: L.filter (fun q => !(q.1 == k) && !(q.1 + 1 == k && q.2.category == 2))) ks = L') (e : pc + 3 = pq) (h : xv_V X Y nL cells slots lk N M pq L' st) : xv_V X Y nL cells slots lk N M pc L st := by
  subst e
  exact fun H locs ls hP hD hS hl => lv_iinc hX.1 hX.2.1 d hl hk hv hn rfl (fun ls' hl' => h H locs ls' hP hD hS (lv_sub hl' ks hL))
theorem xv_sub {L' : List (Nat × Value)} (ks : List Nat) (hL : lv_pick L ks = L') (h : xv_V X Y nL cells slots lk N M pc L' st) : xv_V X Y nL cells slots lk N M pc L st := fun H locs ls hP hD hS hl => h H locs ls hP hD hS (lv_sub hl ks hL)
theorem xv_dup (hX : xv_ok X Y cc own nL rm) {v : Value} (d : decode cc pc = .ok (.dup, 1)) (hc : v.category = 1) (e : pc + 1 = pq) (h : xv_V X Y nL cells slots lk N M pq L (v :: v :: st)) : xv_V X Y nL cells slots lk N M pc L (v :: st) := by
  subst e
  exact fun H locs ls hP hD hS hl => lv_dup hX.1 hX.2.1 d hc (h H locs ls hP hD hS hl)
theorem xv_goto (hX : xv_ok X Y cc own nL rm) {off : Int} (d : decode cc pc = .ok (.goto off, 3)) (e : (pc : Int) + off = (pq : Int)) (h : xv_V X Y nL cells slots lk N M pq L st) : xv_V X Y nL cells slots lk N M pc L st := fun H locs ls hP hD hS hl => lv_goto hX.1 hX.2.1 d e (h H locs ls hP hD hS hl)
theorem xv_icmp_eq (hX : xv_ok X Y cc own nL rm) {x y : Int32} {xi yi : Int} (ha : x.toInt = xi) (hb : y.toInt = yi) {off : Int} {tgt : Nat} (d : decode cc pc = .ok (.if_icmp .eq off, 3)) (et : (pc : Int) + off = (tgt : Int)) (e : pc + 3 = pq) (kt : xi = yi → xv_V X Y nL cells slots lk N M tgt L st) (kf : xi ≠ yi → xv_V X Y nL cells slots lk N M pq L st) : xv_V X Y nL cells slots lk N M pc L (.int y :: .int x :: st) := by
  subst e
  exact fun H locs ls hP hD hS hl => lv_icmp_eq hX.1 hX.2.1 d et (fun q => kt (by rw [← ha, ← hb, q]) H locs ls hP hD hS hl) (fun q => kf (fun z => q (Int32.toInt_inj.mp (by rw [ha, hb, z]))) H locs ls hP hD hS hl)
theorem xv_if_eq (hX : xv_ok X Y cc own nL rm) {x : Int32} {xi : Int} (ha : x.toInt = xi) {off : Int} {tgt : Nat} (d : decode cc pc = .ok (.ifCond .eq off, 3)) (et : (pc : Int) + off = (tgt : Int)) (e : pc + 3 = pq) (kt : xi = 0 → xv_V X Y nL cells slots lk N M tgt L st) (kf : xi ≠ 0 → xv_V X Y nL cells slots lk N M pq L st) : xv_V X Y nL cells slots lk N M pc L (.int x :: st) := by
  subst e
  have hb : (0 : Int32).toInt = 0 := rfl
  exact fun H locs ls hP hD hS hl => lv_if_eq hX.1 hX.2.1 d et (fun q => kt (by rw [← ha, ← hb, q]) H locs ls hP hD hS hl) (fun q => kf (fun z => q (Int32.toInt_inj.mp (by rw [ha, hb, z]))) H locs ls hP hD hS hl)
theorem xv_icmp_ne (hX : xv_ok X Y cc own nL rm) {x y : Int32} {xi yi : Int} (ha : x.toInt = xi) (hb : y.toInt = yi) {off : Int} {tgt : Nat} (d : decode cc pc = .ok (.if_icmp .ne off, 3)) (et : (pc : Int) + off = (tgt : Int)) (e : pc + 3 = pq) (kt : xi ≠ yi → xv_V X Y nL cells slots lk N M tgt L st) (kf : xi = yi → xv_V X Y nL cells slots lk N M pq L st) : xv_V X Y nL cells slots lk N M pc L (.int y :: .int x :: st) := by
  subst e
  exact fun H locs ls hP hD hS hl => lv_icmp_ne hX.1 hX.2.1 d et (fun q => kt (fun z => q (Int32.toInt_inj.mp (by rw [ha, hb, z]))) H locs ls hP hD hS hl) (fun q => kf (by rw [← ha, ← hb]; exact congrArg Int32.toInt q) H locs ls hP hD hS hl)
theorem xv_if_ne (hX : xv_ok X Y cc own nL rm) {x : Int32} {xi : Int} (ha : x.toInt = xi) {off : Int} {tgt : Nat} (d : decode cc pc = .ok (.ifCond .ne off, 3)) (et : (pc : Int) + off = (tgt : Int)) (e : pc + 3 = pq) (kt : xi ≠ 0 → xv_V X Y nL cells slots lk N M tgt L st) (kf : xi = 0 → xv_V X Y nL cells slots lk N M pq L st) : xv_V X Y nL cells slots lk N M pc L (.int x :: st) := by
  subst e
  have hb : (0 : Int32).toInt = 0 := rfl
  exact fun H locs ls hP hD hS hl => lv_if_ne hX.1 hX.2.1 d et (fun q => kt (fun z => q (Int32.toInt_inj.mp (by rw [ha, hb, z]))) H locs ls hP hD hS hl) (fun q => kf (by rw [← ha, ← hb]; exact congrArg Int32.toInt q) H locs ls hP hD hS hl)
theorem xv_icmp_lt (hX : xv_ok X Y cc own nL rm) {x y : Int32} {xi yi : Int} (ha : x.toInt = xi) (hb : y.toInt = yi) {off : Int} {tgt : Nat} (d : decode cc pc = .ok (.if_icmp .lt off, 3)) (et : (pc : Int) + off = (tgt : Int)) (e : pc + 3 = pq) (kt : xi < yi → xv_V X Y nL cells slots lk N M tgt L st) (kf : yi ≤ xi → xv_V X Y nL cells slots lk N M pq L st) : xv_V X Y nL cells slots lk N M pc L (.int y :: .int x :: st) := by
  subst e
  exact fun H locs ls hP hD hS hl => lv_icmp_lt hX.1 hX.2.1 d et (fun q => kt (by have q := Int32.lt_iff_toInt_lt.mp q; rw [ha, hb] at q; exact q) H locs ls hP hD hS hl) (fun q => kf (by have q := mt Int32.lt_iff_toInt_lt.mpr q; rw [ha, hb] at q; omega) H locs ls hP hD hS hl)
theorem xv_if_lt (hX : xv_ok X Y cc own nL rm) {x : Int32} {xi : Int} (ha : x.toInt = xi) {off : Int} {tgt : Nat} (d : decode cc pc = .ok (.ifCond .lt off, 3)) (et : (pc : Int) + off = (tgt : Int)) (e : pc + 3 = pq) (kt : xi < 0 → xv_V X Y nL cells slots lk N M tgt L st) (kf : 0 ≤ xi → xv_V X Y nL cells slots lk N M pq L st) : xv_V X Y nL cells slots lk N M pc L (.int x :: st) := by
  subst e
  have hb : (0 : Int32).toInt = 0 := rfl
  exact fun H locs ls hP hD hS hl => lv_if_lt hX.1 hX.2.1 d et (fun q => kt (by have q := Int32.lt_iff_toInt_lt.mp q; rw [ha, hb] at q; exact q) H locs ls hP hD hS hl) (fun q => kf (by have q := mt Int32.lt_iff_toInt_lt.mpr q; rw [ha, hb] at q; omega) H locs ls hP hD hS hl)
theorem xv_icmp_ge (hX : xv_ok X Y cc own nL rm) {x y : Int32} {xi yi : Int} (ha : x.toInt = xi) (hb : y.toInt = yi) {off : Int} {tgt : Nat} (d : decode cc pc = .ok (.if_icmp .ge off, 3)) (et : (pc : Int) + off = (tgt : Int)) (e : pc + 3 = pq) (kt : yi ≤ xi → xv_V X Y nL cells slots lk N M tgt L st) (kf : xi < yi → xv_V X Y nL cells slots lk N M pq L st) : xv_V X Y nL cells slots lk N M pc L (.int y :: .int x :: st) := by
  subst e
  exact fun H locs ls hP hD hS hl => lv_icmp_ge hX.1 hX.2.1 d et (fun q => kt (by have q := Int32.le_iff_toInt_le.mp q; rw [ha, hb] at q; exact q) H locs ls hP hD hS hl) (fun q => kf (by have q := mt Int32.le_iff_toInt_le.mpr q; rw [ha, hb] at q; omega) H locs ls hP hD hS hl)
theorem xv_if_ge (hX : xv_ok X Y cc own nL rm) {x : Int32} {xi : Int} (ha : x.toInt = xi) {off : Int} {tgt : Nat} (d : decode cc pc = .ok (.ifCond .ge off, 3)) (et : (pc : Int) + off = (tgt : Int)) (e : pc + 3 = pq) (kt : 0 ≤ xi → xv_V X Y nL cells slots lk N M tgt L st) (kf : xi < 0 → xv_V X Y nL cells slots lk N M pq L st) : xv_V X Y nL cells slots lk N M pc L (.int x :: st) := by
  subst e
  have hb : (0 : Int32).toInt = 0 := rfl
  exact fun H locs ls hP hD hS hl => lv_if_ge hX.1 hX.2.1 d et (fun q => kt (by have q := Int32.le_iff_toInt_le.mp q; rw [ha, hb] at q; exact q) H locs ls hP hD hS hl) (fun q => kf (by have q := mt Int32.le_iff_toInt_le.mpr q; rw [ha, hb] at q; omega) H locs ls hP hD hS hl)
theorem xv_icmp_gt (hX : xv_ok X Y cc own nL rm) {x y : Int32} {xi yi : Int} (ha : x.toInt = xi) (hb : y.toInt = yi) {off : Int} {tgt : Nat} (d : decode cc pc = .ok (.if_icmp .gt off, 3)) (et : (pc : Int) + off = (tgt : Int)) (e : pc + 3 = pq) (kt : yi < xi → xv_V X Y nL cells slots lk N M tgt L st) (kf : xi ≤ yi → xv_V X Y nL cells slots lk N M pq L st) : xv_V X Y nL cells slots lk N M pc L (.int y :: .int x :: st) := by
  subst e
  exact fun H locs ls hP hD hS hl => lv_icmp_gt hX.1 hX.2.1 d et (fun q => kt (by have q := Int32.lt_iff_toInt_lt.mp q; rw [ha, hb] at q; exact q) H locs ls hP hD hS hl) (fun q => kf (by have q := mt Int32.lt_iff_toInt_lt.mpr q; rw [ha, hb] at q; omega) H locs ls hP hD hS hl)
theorem xv_if_gt (hX : xv_ok X Y cc own nL rm) {x : Int32} {xi : Int} (ha : x.toInt = xi) {off : Int} {tgt : Nat} (d : decode cc pc = .ok (.ifCond .gt off, 3)) (et : (pc : Int) + off = (tgt : Int)) (e : pc + 3 = pq) (kt : 0 < xi → xv_V X Y nL cells slots lk N M tgt L st) (kf : xi ≤ 0 → xv_V X Y nL cells slots lk N M pq L st) : xv_V X Y nL cells slots lk N M pc L (.int x :: st) := by
  subst e
  have hb : (0 : Int32).toInt = 0 := rfl
  exact fun H locs ls hP hD hS hl => lv_if_gt hX.1 hX.2.1 d et (fun q => kt (by have q := Int32.lt_iff_toInt_lt.mp q; rw [ha, hb] at q; exact q) H locs ls hP hD hS hl) (fun q => kf (by have q := mt Int32.lt_iff_toInt_lt.mpr q; rw [ha, hb] at q; omega) H locs ls hP hD hS hl)
theorem xv_icmp_le (hX : xv_ok X Y cc own nL rm) {x y : Int32} {xi yi : Int} (ha : x.toInt = xi) (hb : y.toInt = yi) {off : Int} {tgt : Nat} (d : decode cc pc = .ok (.if_icmp .le off, 3)) (et : (pc : Int) + off = (tgt : Int)) (e : pc + 3 = pq) (kt : xi ≤ yi → xv_V X Y nL cells slots lk N M tgt L st) (kf : yi < xi → xv_V X Y nL cells slots lk N M pq L st) : xv_V X Y nL cells slots lk N M pc L (.int y :: .int x :: st) := by
  subst e
  exact fun H locs ls hP hD hS hl => lv_icmp_le hX.1 hX.2.1 d et (fun q => kt (by have q := Int32.le_iff_toInt_le.mp q; rw [ha, hb] at q; exact q) H locs ls hP hD hS hl) (fun q => kf (by have q := mt Int32.le_iff_toInt_le.mpr q; rw [ha, hb] at q; omega) H locs ls hP hD hS hl)
theorem xv_if_le (hX : xv_ok X Y cc own nL rm) {x : Int32} {xi : Int} (ha : x.toInt = xi) {off : Int} {tgt : Nat} (d : decode cc pc = .ok (.ifCond .le off, 3)) (et : (pc : Int) + off = (tgt : Int)) (e : pc + 3 = pq) (kt : xi ≤ 0 → xv_V X Y nL cells slots lk N M tgt L st) (kf : 0 < xi → xv_V X Y nL cells slots lk N M pq L st) : xv_V X Y nL cells slots lk N M pc L (.int x :: st) := by
  subst e
  have hb : (0 : Int32).toInt = 0 := rfl
  exact fun H locs ls hP hD hS hl => lv_if_le hX.1 hX.2.1 d et (fun q => kt (by have q := Int32.le_iff_toInt_le.mp q; rw [ha, hb] at q; exact q) H locs ls hP hD hS hl) (fun q => kf (by have q := mt Int32.le_iff_toInt_le.mpr q; rw [ha, hb] at q; omega) H locs ls hP hD hS hl)
theorem xv_lcmp (hX : xv_ok X Y cc own nL rm) {a b : Int64} (d : decode cc pc = .ok (.lcmp, 1)) (e : pc + 1 = pq) (h : xv_V X Y nL cells slots lk N M pq L (.int (lg_cmp a b) :: st)) : xv_V X Y nL cells slots lk N M pc L (.long b :: .long a :: st) := by
  subst e
  exact fun H locs ls hP hD hS hl => W.lcmp hX.1 hX.2.1 d (h H locs ls hP hD hS hl)
theorem xv_getv (hX : xv_ok X Y cc own nL rm) {q ci n k idx : Nat} {fin : Bool} {ty : FieldType} (hf : xf_L own idx ci n k fin ty) (hk : xw_K q = (0, ci, n)) (hq : q < N) {v : Value} (hv : xw_slot Y.2.2.2 (xw_rk ci k) (lk q k) (M q k) = v) (d : decode cc pc = .ok (.getfield idx, 3)) (e : pc + 3 = pq) (h : xv_V X Y nL cells slots lk N M pq L (v :: st)) : xv_V X Y nL cells slots lk N M pc L (.ref (Y.2.2.2 q) :: st) := by
  subst e
  obtain ⟨C, T, tf, hc, hkn, hw, hl, -⟩ := hf
  intro H locs ls hP hD hS hls
  have he : (xw_ws Y lk M N)[q]? = some (Y.2.2.2 q, .inr (ci, xw_fs Y.2.2.2 (xw_rk ci) (lk q) (M q) n)) := by
    rw [xw_at hq]; unfold xw_cell; rw [hk]; rfl
  rcases hl with hl | ⟨host, hl⟩
  · exact va_get hX.1 hX.2.1 hX.2.2.2.2.1 hw hX.2.2.2.1 hX.2.2.2.2.2.1 hP q he hc k hkn (hX.2.2.2.2.1 _ hl) (fun _ h9 => h9) (by rw [xw_fs_get hkn, hv]) d (h H locs ls hP hD hS hls)
  · exact va_getN hX.1 hX.2.1 hX.2.2.2.2.1 hw hX.2.2.2.1 hX.2.2.2.2.2.1 hP q he hc k hkn (va_Nw.use rfl (hX.2.2.2.2.2.2.2.2 _ hl)) (fun _ h9 => h9) (by rw [xw_fs_get hkn, hv]) d (h H locs ls hP hD hS hls)
theorem xv_geti (hX : xv_ok X Y cc own nL rm) {q ci n k idx v : Nat} {fin : Bool} {ty : FieldType} (hf : xf_L own idx ci n k fin ty) (hr : xw_rk ci k = false) (hk : xw_K q = (0, ci, n)) (hq : q < N) (hv : M q k = v) (d : decode cc pc = .ok (.getfield idx, 3)) (e : pc + 3 = pq) (h : xv_V X Y nL cells slots lk N M pq L (.int (nI v) :: st)) : xv_V X Y nL cells slots lk N M pc L (.ref (Y.2.2.2 q) :: st) :=
  xv_getv hX hf hk hq (by rw [hr, hv]; rfl) d e h
theorem xv_getr (hX : xv_ok X Y cc own nL rm) {q ci n k idx v : Nat} {fin : Bool} {ty : FieldType} (hf : xf_L own idx ci n k fin ty) (hr : xw_rk ci k = true) (hk : xw_K q = (0, ci, n)) (hq : q < N) (hv : lk q k = some v) (d : decode cc pc = .ok (.getfield idx, 3)) (e : pc + 3 = pq) (h : xv_V X Y nL cells slots lk N M pq L (.ref (Y.2.2.2 v) :: st)) : xv_V X Y nL cells slots lk N M pc L (.ref (Y.2.2.2 q) :: st) :=
  xv_getv hX hf hk hq (by rw [hr, hv]; rfl) d e h
theorem xv_putv (hX : xv_ok X Y cc own nL rm) {q ci n k idx : Nat} {ty : FieldType} {lk' : xl_L} {M' : xm_M} (hf : xf_L own idx ci n k false ty) (hk : xw_K q = (0, ci, n)) (hq : q < N) {v : Value} (hn : narrow ty v = v) (hfit : fits ty v = true) (h0 : (xw_fs Y.2.2.2 (xw_rk ci) (lk q) (M q) n).set k v = xw_fs Y.2.2.2 (xw_rk ci) (lk' q) (M' q) n) (ho : ∀ z, z ≠ q → lk' z = lk z ∧ M' z = M z) (d : decode cc pc = .ok (.putfield idx, 3)) (e : pc + 3 = pq) (h : xv_V X Y nL cells slots lk' N M' pq L st) : xv_V X Y nL cells slots lk N M pc L (v :: .ref (Y.2.2.2 q) :: st) := by
  subst e
  obtain ⟨C, T, tf, hc, hkn, hw, hl, hfin, hd, hty, hnm⟩ := hf
  intro H locs ls hP hD hS hls
  have he : (xw_ws Y lk M N)[q]? = some (Y.2.2.2 q, .inr (ci, xw_fs Y.2.2.2 (xw_rk ci) (lk q) (M q) n)) := by
    rw [xw_at hq]; unfold xw_cell; rw [hk]; rfl
  have hset : (xw_ws Y lk M N).set q (Y.2.2.2 q, .inr (ci, (xw_fs Y.2.2.2 (xw_rk ci) (lk q) (M q) n).set k v)) = xw_ws Y lk' M' N :=
    xw_set (by unfold xw_cell; rw [hk, h0]; rfl) ho
  rcases hl with hl | ⟨host, hl⟩
  · refine va_put hX.1 hX.2.1 hX.2.2.2.2.1 hw tf hty hnm hX.2.2.2.1 hX.2.2.2.2.2.1 hP hD hS q he hc k hkn (hX.2.2.2.2.1 _ hl) (fun _ h9 => h9) hfin hd hn hfit (by rw [xw_fs_len]; exact hkn) d (fun H1 locs1 hP1 hD1 hS1 => ?_)
    rw [hset] at hP1 hD1
    exact h H1 locs1 ls hP1 hD1 hS1 hls
  · refine va_putN hX.1 hX.2.1 hX.2.2.2.2.1 hw tf hty hnm hX.2.2.2.1 hX.2.2.2.2.2.1 hP hD hS q he hc k hkn (va_Nw.use rfl (hX.2.2.2.2.2.2.2.2 _ hl)) (fun _ h9 => h9) hfin hd hn hfit (by rw [xw_fs_len]; exact hkn) d (fun H1 locs1 hP1 hD1 hS1 => ?_)
    rw [hset] at hP1 hD1
    exact h H1 locs1 ls hP1 hD1 hS1 hls
theorem xw_seti {ad : Nat → Nat} {rk : Nat → Bool} {r : Nat → Option Nat} {M : xm_M} {q n k v : Nat} (hr : rk k = false) : (xw_fs ad rk r (M q) n).set k (.int (nI v)) = xw_fs ad rk r (xm_set M q k v q) n :=
  xw_fs_set (by rw [hr, xm_eq]; rfl) (fun j hj => ⟨rfl, xm_nk hj⟩)
theorem xv_puti (hX : xv_ok X Y cc own nL rm) {q ci n k idx v : Nat} (hf : xf_L own idx ci n k false .int) (hr : xw_rk ci k = false) (hk : xw_K q = (0, ci, n)) (hq : q < N) (d : decode cc pc = .ok (.putfield idx, 3)) (e : pc + 3 = pq) (h : xv_V X Y nL cells slots lk N (xm_set M q k v) pq L st) : xv_V X Y nL cells slots lk N M pc L (.int (nI v) :: .ref (Y.2.2.2 q) :: st) :=
  xv_putv hX hf hk hq rfl rfl (xw_seti hr) (fun z hz => ⟨rfl, xm_oth hz⟩) d e h
theorem xv_putz (hX : xv_ok X Y cc own nL rm) {q ci n k idx v : Nat} (hf : xf_L own idx ci n k false .boolean) (hr : xw_rk ci k = false) (hk : xw_K q = (0, ci, n)) (hq : q < N) (hv : v < 2) (d : decode cc pc = .ok (.putfield idx, 3)) (e : pc + 3 = pq) (h : xv_V X Y nL cells slots lk N (xm_set M q k v) pq L st) : xv_V X Y nL cells slots lk N M pc L (.int (nI v) :: .ref (Y.2.2.2 q) :: st) :=
  xv_putv hX hf hk hq (by rcases (show v = 0 ∨ v = 1 by omega) with rfl | rfl <;> decide) (by rcases (show v = 0 ∨ v = 1 by omega) with rfl | rfl <;> decide) (xw_seti hr) (fun z hz => ⟨rfl, xm_oth hz⟩) d e h
theorem xv_iald (hX : xv_ok X Y cc own nL rm) {q n i v : Nat} (hk : xw_K q = (1, 0, n)) (hq : q < N) (hi : i < n) (hn : n < 2 ^ 31) (hv : M q i = v) (d : decode cc pc = .ok (.iaload, 1)) (e : pc + 1 = pq) (h : xv_V X Y nL cells slots lk N M pq L (.int (nI v) :: st)) : xv_V X Y nL cells slots lk N M pc L (.int (nI i) :: .ref (Y.2.2.2 q) :: st) := by
  subst e
  subst hv
  intro H locs ls hP hD hS hls
  refine va_iald hX.1 hX.2.1 hX.2.2.2.2.2.1 hP q 0 (cA := Y.2.1 0) (n := n) (f := fun j => nI (M q j)) (by rw [xw_at hq]; unfold xw_cell; rw [hk]; rfl) rfl (vp_in_nI hi hn) d ?_
  rw [nI_clamp (by omega)]
  exact h H locs ls hP hD hS hls
theorem xv_lald (hX : xv_ok X Y cc own nL rm) {q n i v : Nat} (hk : xw_K q = (2, 1, n)) (hq : q < N) (hi : i < n) (hn : n < 2 ^ 31) (hv : M q i = v) (d : decode cc pc = .ok (.laload, 1)) (e : pc + 1 = pq) (h : xv_V X Y nL cells slots lk N M pq L (.long (lN v) :: st)) : xv_V X Y nL cells slots lk N M pc L (.int (nI i) :: .ref (Y.2.2.2 q) :: st) := by
  subst e
  subst hv
  intro H locs ls hP hD hS hls
  refine va_lald hX.1 hX.2.1 hX.2.2.2.2.2.1 hP q 1 (cA := Y.2.1 1) (n := n) (f := fun j => lN (M q j)) (by rw [xw_at hq]; unfold xw_cell; rw [hk]; rfl) rfl (vp_in_nI hi hn) d ?_
  rw [nI_clamp (by omega)]
  exact h H locs ls hP hD hS hls
theorem xv_aald (hX : xv_ok X Y cc own nL rm) {q t n i v : Nat} {C : String} (hk : xw_K q = (3, t, n)) (ht : (xw_tys Y)[t]? = some (Y.2.1 t, .object C)) (hq : q < N) (hi : i < n) (hn : n < 2 ^ 31) (hv : lk q i = some v) (d : decode cc pc = .ok (.aaload, 1)) (e : pc + 1 = pq) (h : xv_V X Y nL cells slots lk N M pq L (.ref (Y.2.2.2 v) :: st)) : xv_V X Y nL cells slots lk N M pc L (.int (nI i) :: .ref (Y.2.2.2 q) :: st) := by
  subst e
  intro H locs ls hP hD hS hls
  refine va_aldq hX.1 hX.2.1 hX.2.2.2.2.2.1 hP q t (cA := Y.2.1 t) (n := n) (f := fun j => (lk q j).map Y.2.2.2) (by rw [xw_at hq]; unfold xw_cell; rw [hk]; rfl) ht (vp_in_nI hi hn) d ?_
  rw [nI_clamp (by omega), hv]
  exact h H locs ls hP hD hS hls
theorem xv_iast (hX : xv_ok X Y cc own nL rm) {q n i v : Nat} (hk : xw_K q = (1, 0, n)) (hq : q < N) (hi : i < n) (hn : n < 2 ^ 31) (d : decode cc pc = .ok (.iastore, 1)) (e : pc + 1 = pq) (h : xv_V X Y nL cells slots lk N (xm_set M q i v) pq L st) : xv_V X Y nL cells slots lk N M pc L (.int (nI v) :: .int (nI i) :: .ref (Y.2.2.2 q) :: st) := by
  subst e
  intro H locs ls hP hD hS hls
  refine va_iast hX.1 hX.2.1 hX.2.2.2.2.2.1 hP hD hS q 0 (cA := Y.2.1 0) (n := n) (f := fun j => nI (M q j)) (by rw [xw_at hq]; unfold xw_cell; rw [hk]; rfl) rfl (vp_in_nI hi hn) d (fun H1 locs1 hP1 hD1 hS1 => ?_)
  have hset : (xw_ws Y lk M N).set q (Y.2.2.2 q, .inl (Y.2.1 0, n, .inl (upd (fun j => nI (M q j)) (nI i).toNatClampNeg (nI v)))) = xw_ws Y lk (xm_set M q i v) N := by
    refine xw_set ?_ (fun z hz => ⟨rfl, xm_oth hz⟩)
    unfold xw_cell
    rw [hk, xm_row, nI_clamp (by omega)]
    have hfn : (fun j => nI (if j = i then v else M q j)) = upd (fun j => nI (M q j)) i (nI v) := by
      funext j
      unfold upd
      split <;> rfl
    show Sum.inl (Y.2.1 0, n, Sum.inl (fun j => nI (if j = i then v else M q j))) = _
    rw [hfn]
  rw [hset] at hP1 hD1
  exact h H1 locs1 ls hP1 hD1 hS1 hls
theorem xv_last (hX : xv_ok X Y cc own nL rm) {q n i v : Nat} (hk : xw_K q = (2, 1, n)) (hq : q < N) (hi : i < n) (hn : n < 2 ^ 31) (d : decode cc pc = .ok (.lastore, 1)) (e : pc + 1 = pq) (h : xv_V X Y nL cells slots lk N (xm_set M q i v) pq L st) : xv_V X Y nL cells slots lk N M pc L (.long (lN v) :: .int (nI i) :: .ref (Y.2.2.2 q) :: st) := by
  subst e
  intro H locs ls hP hD hS hls
  refine va_last hX.1 hX.2.1 hX.2.2.2.2.2.1 hP hD hS q 1 (cA := Y.2.1 1) (n := n) (f := fun j => lN (M q j)) (by rw [xw_at hq]; unfold xw_cell; rw [hk]; rfl) rfl (vp_in_nI hi hn) d (fun H1 locs1 hP1 hD1 hS1 => ?_)
  have hset : (xw_ws Y lk M N).set q (Y.2.2.2 q, .inl (Y.2.1 1, n, .inr (.inl (vp_updL (fun j => lN (M q j)) (nI i).toNatClampNeg (lN v))))) = xw_ws Y lk (xm_set M q i v) N := by
    refine xw_set ?_ (fun z hz => ⟨rfl, xm_oth hz⟩)
    unfold xw_cell
    rw [hk, xm_row, nI_clamp (by omega)]
    have hfn : (fun j => lN (if j = i then v else M q j)) = vp_updL (fun j => lN (M q j)) i (lN v) := by
      funext j
      unfold vp_updL
      split <;> rfl
    show Sum.inl (Y.2.1 1, n, Sum.inr (Sum.inl (fun j => lN (if j = i then v else M q j)))) = _
    rw [hfn]
  rw [hset] at hP1 hD1
  exact h H1 locs1 ls hP1 hD1 hS1 hls
theorem xv_alen (hX : xv_ok X Y cc own nL rm) {q t n : Nat} {tg : Nat} (hk : xw_K q = (tg + 1, t, n)) (ht : ∃ ty, (xw_tys Y)[t]? = some (Y.2.1 t, ty)) (hq : q < N) (d : decode cc pc = .ok (.arraylength, 1)) (e : pc + 1 = pq) (h : xv_V X Y nL cells slots lk N M pq L (.int (nI n) :: st)) : xv_V X Y nL cells slots lk N M pc L (.ref (Y.2.2.2 q) :: st) := by
  subst e
  obtain ⟨ty, ht⟩ := ht
  intro H locs ls hP hD hS hls
  have he : ∃ x : vp_A, x.1 = n ∧ (xw_ws Y lk M N)[q]? = some (Y.2.2.2 q, .inl (Y.2.1 t, x)) := by
    rw [xw_at hq]; unfold xw_cell; rw [hk]
    rcases tg with _ | _ | tg
    · exact ⟨_, rfl, rfl⟩
    · exact ⟨_, rfl, rfl⟩
    · exact ⟨(n, .inr (.inr (.inr (.inr (fun j => (lk q j).map Y.2.2.2))))), rfl, rfl⟩
  obtain ⟨x, hx, he⟩ := he
  exact va_alen hX.1 hX.2.1 hX.2.2.2.2.2.1 hP q t he ht (by rw [hx]; rfl) d (h H locs ls hP hD hS hls)
end XV
end
section
/-! contracts over the memory: no cell is made -/
abbrev xc_rm (d : Nat) : Room := { frames := d, cells := 0, slots := 0, locals := 64 * d }
abbrev xc_ws (q : xc_q) : List Cond := Cond.code q.1 q.2.1 q.2.2.1 q.2.2.2 :: xw_W
/-- a method with an int (or boolean) answer -/
def xc_i (l : Launch) (q : xc_q) (d : Nat) (Y : xw_Y) (av : List Value) (M : xm_M) (post : Int32 → xm_M → Prop) : Prop := Met l q.1 (xc_ws q) (xc_rm d) (va_Pc av (xw_P Y M)) (va_Qi post (xw_B Y xw_lk xw_N) Y.2.2.1) 0 0 Y.2.2.1
/-- a method without an answer -/
def xc_v (l : Launch) (q : xc_q) (d : Nat) (Y : xw_Y) (av : List Value) (M : xm_M) (post : xm_M → Prop) : Prop := Met l q.1 (xc_ws q) (xc_rm d) (va_Pc av (xw_P Y M)) (va_Qv post (xw_B Y xw_lk xw_N) Y.2.2.1) 0 0 Y.2.2.1
/-- a method that answers a place -/
def xc_r (l : Launch) (q : xc_q) (d : Nat) (Y : xw_Y) (av : List Value) (M : xm_M) (post : xm_M × Nat → Prop) : Prop := Met l q.1 (xc_ws q) (xc_rm d) (va_Pc av (xw_P Y M)) (va_Qr post (fun u a t => a = Y.2.2.2 u.2 ∧ xw_B Y xw_lk xw_N u.1 t) Y.2.2.1) 0 0 Y.2.2.1
def xr_i (X : xv_X) (Y : xw_Y) (post : Int32 → xm_M → Prop) (ty : FieldType) : Prop := xv_Q X = MQ (xv_below X) (va_Qi post (xw_B Y xw_lk xw_N) Y.2.2.1) (xv_args X) (xv_s X) 0 0 Y.2.2.1 ∧ (xv_meth X).sig.returnType = some ty
def xr_v (X : xv_X) (Y : xw_Y) (post : xm_M → Prop) : Prop := xv_Q X = MQ (xv_below X) (va_Qv post (xw_B Y xw_lk xw_N) Y.2.2.1) (xv_args X) (xv_s X) 0 0 Y.2.2.1 ∧ (xv_meth X).sig.returnType = none
def xr_r (X : xv_X) (Y : xw_Y) (post : xm_M × Nat → Prop) (C : String) : Prop := xv_Q X = MQ (xv_below X) (va_Qr post (fun u a t => a = Y.2.2.2 u.2 ∧ xw_B Y xw_lk xw_N u.1 t) Y.2.2.1) (xv_args X) (xv_s X) 0 0 Y.2.2.1 ∧ (xv_meth X).sig.returnType = some (.object C)
theorem xc_i.mk {l : Launch} {q : xc_q} {d : Nat} {Y : xw_Y} {av : List Value} {M : xm_M} {post : Int32 → xm_M → Prop} (ty : FieldType) (hty : q.2.2.2 = some ty) (hq : plainName q.1.cls = true) (hL : (lg_sl av).length ≤ q.2.2.1)
    (body : ∀ X : xv_X, xv_l X = l → xv_ok X Y q.2.1 q.1.cls q.2.2.1 (xc_rm d) → xr_i X Y post ty → xv_V X Y q.2.2.1 0 0 xw_lk xw_N M 0 (lv_args 0 av) []) : xc_i l q d Y av M post := by
  refine Met.ofW (cc := q.2.1) (maxL := q.2.2.1) (ret := q.2.2.2) hq rfl ?_
  intro p e s m args below meth c s₁ B hml hv
  obtain ⟨rfl, ⟨hP, hK, hD⟩, hN⟩ := hv
  have hts := atoms_spec (ws := xc_ws q) B.pre
  have hr := B.returns
  rw [hty] at hr
  have hl := lv_entry av (n := q.2.2.1) hL
  rw [lg_entry_eq]
  exact body (p, l, e, (headSpec (xc_ws q) (xc_rm d)).room, s, m, _, below, meth, c, _) rfl ⟨B.exec, B.bytes, hml, findClass_of_methodNamed B.named, fun w hw => hts w (List.mem_cons_of_mem _ hw), hK, B.notSynchronized, rfl, hN⟩ ⟨rfl, hr⟩ s.heap [] _ hP hD va_S.rf hl
theorem xc_v.mk {l : Launch} {q : xc_q} {d : Nat} {Y : xw_Y} {av : List Value} {M : xm_M} {post : xm_M → Prop} (hty : q.2.2.2 = none) (hq : plainName q.1.cls = true) (hL : (lg_sl av).length ≤ q.2.2.1)
    (body : ∀ X : xv_X, xv_l X = l → xv_ok X Y q.2.1 q.1.cls q.2.2.1 (xc_rm d) → xr_v X Y post → xv_V X Y q.2.2.1 0 0 xw_lk xw_N M 0 (lv_args 0 av) []) : xc_v l q d Y av M post := by
  refine Met.ofW (cc := q.2.1) (maxL := q.2.2.1) (ret := q.2.2.2) hq rfl ?_
  intro p e s m args below meth c s₁ B hml hv
  obtain ⟨rfl, ⟨hP, hK, hD⟩, hN⟩ := hv
  have hts := atoms_spec (ws := xc_ws q) B.pre
  have hr := B.returns
  rw [hty] at hr
  have hl := lv_entry av (n := q.2.2.1) hL
  rw [lg_entry_eq]
  exact body (p, l, e, (headSpec (xc_ws q) (xc_rm d)).room, s, m, _, below, meth, c, _) rfl ⟨B.exec, B.bytes, hml, findClass_of_methodNamed B.named, fun w hw => hts w (List.mem_cons_of_mem _ hw), hK, B.notSynchronized, rfl, hN⟩ ⟨rfl, hr⟩ s.heap [] _ hP hD va_S.rf hl
theorem xc_r.mk {l : Launch} {q : xc_q} {d : Nat} {Y : xw_Y} {av : List Value} {M : xm_M} {post : xm_M × Nat → Prop} (C : String) (hty : q.2.2.2 = some (.object C)) (hq : plainName q.1.cls = true) (hL : (lg_sl av).length ≤ q.2.2.1)
    (body : ∀ X : xv_X, xv_l X = l → xv_ok X Y q.2.1 q.1.cls q.2.2.1 (xc_rm d) → xr_r X Y post C → xv_V X Y q.2.2.1 0 0 xw_lk xw_N M 0 (lv_args 0 av) []) : xc_r l q d Y av M post := by
  refine Met.ofW (cc := q.2.1) (maxL := q.2.2.1) (ret := q.2.2.2) hq rfl ?_
  intro p e s m args below meth c s₁ B hml hv
  obtain ⟨rfl, ⟨hP, hK, hD⟩, hN⟩ := hv
  have hts := atoms_spec (ws := xc_ws q) B.pre
  have hr := B.returns
  rw [hty] at hr
  have hl := lv_entry av (n := q.2.2.1) hL
  rw [lg_entry_eq]
  exact body (p, l, e, (headSpec (xc_ws q) (xc_rm d)).room, s, m, _, below, meth, c, _) rfl ⟨B.exec, B.bytes, hml, findClass_of_methodNamed B.named, fun w hw => hts w (List.mem_cons_of_mem _ hw), hK, B.notSynchronized, rfl, hN⟩ ⟨rfl, hr⟩ s.heap [] _ hP hD va_S.rf hl
section XR
variable {X : xv_X} {Y : xw_Y} {cc : ByteArray} {own : String} {nL : Nat} {rm : Room} {M : xm_M} {pc : Nat} {L : List (Nat × Value)}
theorem xv_reti {post : Int32 → xm_M → Prop} {ty : FieldType} {v : Int32} (hX : xv_ok X Y cc own nL rm) (hR : xr_i X Y post ty) (hn : narrow ty (.int v) = .int v) (d : decode cc pc = .ok (.ireturn, 1)) (hp : post v M) : xv_V X Y nL 0 0 xw_lk xw_N M pc L [.int v] := by
  intro H locs ls hP hD hS hl
  rw [hR.1]
  exact W.zret hX.1 hX.2.1 hR.2 hn (fun t ht hW => ⟨⟨v, M, rfl, hp, by rw [ht]; exact hP, va_K.moved hW.alike hX.2.2.2.2.2.1, hD⟩, hS.F ht⟩) hS.2.2 d hX.2.2.2.2.2.2.1
theorem xv_retv {post : xm_M → Prop} (hX : xv_ok X Y cc own nL rm) (hR : xr_v X Y post) (d : decode cc pc = .ok (.return_, 1)) (hp : post M) : xv_V X Y nL 0 0 xw_lk xw_N M pc L [] := by
  intro H locs ls hP hD hS hl
  rw [hR.1]
  exact W.vret hX.1 hX.2.1 hR.2 (fun t ht hW => ⟨⟨M, rfl, hp, by rw [ht]; exact hP, va_K.moved hW.alike hX.2.2.2.2.2.1, hD⟩, hS.F ht⟩) hS.2.2 d hX.2.2.2.2.2.2.1
theorem xv_retr {post : xm_M × Nat → Prop} {C : String} {q : Nat} (hX : xv_ok X Y cc own nL rm) (hR : xr_r X Y post C) (d : decode cc pc = .ok (.areturn, 1)) (hp : post (M, q)) : xv_V X Y nL 0 0 xw_lk xw_N M pc L [.ref (Y.2.2.2 q)] := by
  intro H locs ls hP hD hS hl
  rw [hR.1]
  exact W.aret hX.1 hX.2.1 hR.2 (Or.inl ⟨_, rfl⟩) (Or.inr ⟨_, rfl⟩) (fun t ht hW => ⟨⟨(M, q), _, rfl, hp, rfl, by rw [ht]; exact hP, va_K.moved hW.alike hX.2.2.2.2.2.1, hD⟩, hS.F ht⟩) hS.2.2 d hX.2.2.2.2.2.2.1
end XR
theorem xc_good (q : xc_q) (h : Cond.code q.1 q.2.1 q.2.2.1 q.2.2.2 ∈ xw_W) : GoodIn xw_W (xc_ws q) := by
  intro w hw
  rcases List.mem_cons.mp hw with rfl | hw
  · exact ⟨h, Or.inl rfl⟩
  · exact xw_good w hw
theorem xw_blind (Y : xw_Y) (av : List Value) (M : xm_M) : FrameBlind (va_Pc av (xw_P Y M)) := by
  intro a U g mk h
  obtain ⟨q0, ⟨qP, qK, qD⟩, qN⟩ := h
  exact ⟨q0, ⟨qP, va_K.moved (u := U) (U := U.calling g mk a) (Vm.Alike.refl U.vm) qK, qD⟩, xw_nest_same (u := U) (U := U.calling g mk a) rfl qN⟩
section XK
variable {X : xv_X} {Y : xw_Y} {cc : ByteArray} {own : String} {nL cells slots : Nat} {rm : Room} {M : xm_M} {pc pq : Nat} {L : List (Nat × Value)}
theorem xv_runV (hX : xv_ok X Y cc own nL rm) {q : xc_q} {dz : Nat} {av As rest st0 : List Value} {Qc : Array Value → State → Outcome → State → Prop} {free : Addr → Prop} (hM : Met (xv_l X) q.1 (xc_ws q) (xc_rm dz) (va_Pc av (xw_P Y M)) Qc 0 0 free) {idx b ci n : Nat} {T : u_T} (hl : xc_L own idx q As.length) (hv : xc_LV q) (hb : xw_K b = (0, ci, n)) (hbN : b < xw_N) (hc : xw_Cl[ci]? = some (q.1.cls, T, n)) (hav : av = .ref (Y.2.2.2 b) :: As) (hst : st0 = As.reverse ++ .ref (Y.2.2.2 b) :: rest)
    (hz : q.2.2.1 ≤ 45) (hR : dz + 1 ≤ rm.frames ∧ 64 * dz + 64 ≤ rm.locals) (hf : cells ≤ rm.cells ∧ slots ≤ rm.slots) (hW : (rest.map fun v => v.category).sum ≤ 8) (d : decode cc pc = .ok (.invokevirtual idx, 3)) {H : Heap} {locs : List Loc} {ls : Array Slot} (hP : va_P Y.1 xw_Cl (xw_ws Y xw_lk M xw_N) H) (hD : va_D Y.2.2.1 (xw_ws Y xw_lk M xw_N)) (hs : lv_has ls nL L) :
    va_Run (xv_p X) (xv_l X) (xv_e X) (xv_R X) (xv_s X) (xv_m X) (xv_args X) (xv_below X) (xv_meth X) (xv_c X) H locs cells slots 0 0 (F0 (xv_m X) pc ls st0) rest (Qc (Value.ref (Y.2.2.2 b) :: As).toArray) free := by
  obtain ⟨hx, hcc, hml, hown, hts, hK, hlk, hrm, hN⟩ := hX
  obtain ⟨hli, hini, hcode, hmh, hpar⟩ := hl
  have hG := xc_good q hcode
  have hR' : (xc_rm dz).frames + 1 ≤ (xv_R X).frames ∧ 8 + (q.2.2.1 + 11) + (xc_rm dz).locals ≤ (xv_R X).locals := by
    rw [hrm]
    refine ⟨hR.1, ?_⟩
    have := hR.2
    show 8 + (q.2.2.1 + 11) + 64 * dz ≤ rm.locals
    omega
  have hcells : cells + 0 ≤ (xv_R X).cells ∧ slots + 0 ≤ (xv_R X).slots := by
    rw [hrm]
    exact hf
  have he : (xw_ws Y xw_lk M xw_N)[b]? = some (Y.2.2.2 b, .inr (ci, xw_fs Y.2.2.2 (xw_rk ci) (xw_lk b) (M b) n)) := by
    rw [xw_at hbN]; unfold xw_cell; rw [hb]; rfl
  have hrecv := va_recv hK hP hc he
  have hp : PreV (xv_s X) H q.1.cls (Y.2.2.2 b) (va_Pc av (xw_P Y M)) As :=
    ⟨xw_blind Y av M, hrecv, fun U hU hWm => ⟨by rw [hav], ⟨by rw [hU]; exact hP, va_K.moved hWm.alike hK, hD⟩, xw_nest_warm hWm hN⟩⟩
  rcases hli with hli | ⟨host, hli⟩
  · exact va_runV (Ts := xw_W) ⟨hx, hcc, hml, hown, hts⟩ hM ⟨callB_of (Ts := xw_W) As.length hts hG rfl rfl rfl (hts _ hini) (hts _ hli) ⟨hmh.1, hmh.2, hpar⟩ hR', hts _ hv.1, hts _ hv.2⟩ hp rfl rfl hs.1 hst (lv_room hW) d hcells
  · exact va_runVN (Ts := xw_W) ⟨hx, hcc, hml, hown, hts⟩ hM ⟨va_cnB (Ts := xw_W) As.length hts hG rfl rfl rfl (hN _ hli) (hts _ hini) ⟨hmh.1, hmh.2, hpar⟩ hR', hts _ hv.1, hts _ hv.2⟩ hp rfl rfl hs.1 hst (lv_room hW) d hcells
theorem xv_runS (hX : xv_ok X Y cc own nL rm) {q : xc_q} {dz : Nat} {As rest st0 : List Value} {Qc : Array Value → State → Outcome → State → Prop} {free : Addr → Prop} (hM : Met (xv_l X) q.1 (xc_ws q) (xc_rm dz) (va_Pc As (xw_P Y M)) Qc 0 0 free) {idx : Nat} (hl : xc_L own idx q As.length) (hv : xc_LS q) (hst : st0 = As.reverse ++ rest)
    (hz : q.2.2.1 ≤ 45) (hR : dz + 1 ≤ rm.frames ∧ 64 * dz + 64 ≤ rm.locals) (hf : cells ≤ rm.cells ∧ slots ≤ rm.slots) (hW : (rest.map fun v => v.category).sum ≤ 8) (d : decode cc pc = .ok (.invokestatic idx, 3)) {H : Heap} {locs : List Loc} {ls : Array Slot} (hP : va_P Y.1 xw_Cl (xw_ws Y xw_lk M xw_N) H) (hD : va_D Y.2.2.1 (xw_ws Y xw_lk M xw_N)) (hs : lv_has ls nL L) :
    va_Run (xv_p X) (xv_l X) (xv_e X) (xv_R X) (xv_s X) (xv_m X) (xv_args X) (xv_below X) (xv_meth X) (xv_c X) H locs cells slots 0 0 (F0 (xv_m X) pc ls st0) rest (Qc As.toArray) free := by
  obtain ⟨hx, hcc, hml, hown, hts, hK, hlk, hrm, hN⟩ := hX
  obtain ⟨hli, hini, hcode, hmh, hpar⟩ := hl
  have hG := xc_good q hcode
  have hR' : (xc_rm dz).frames + 1 ≤ (xv_R X).frames ∧ 8 + (q.2.2.1 + 11) + (xc_rm dz).locals ≤ (xv_R X).locals := by
    rw [hrm]
    refine ⟨hR.1, ?_⟩
    have := hR.2
    show 8 + (q.2.2.1 + 11) + 64 * dz ≤ rm.locals
    omega
  have hcells : cells + 0 ≤ (xv_R X).cells ∧ slots + 0 ≤ (xv_R X).slots := by
    rw [hrm]
    exact hf
  have hp : PreS (xv_s X) H (va_Pc As (xw_P Y M)) As :=
    ⟨xw_blind Y As M, fun U hU hWm => ⟨rfl, ⟨by rw [hU]; exact hP, va_K.moved hWm.alike hK, hD⟩, xw_nest_warm hWm hN⟩⟩
  rcases hli with hli | ⟨host, hli⟩
  · exact va_runS (Ts := xw_W) ⟨hx, hcc, hml, hown, hts⟩ hM ⟨callB_of (Ts := xw_W) As.length hts hG rfl rfl rfl (hts _ hini) (hts _ hli) ⟨hmh.1, hmh.2, hpar⟩ hR', hts _ hv⟩ hp rfl rfl hs.1 hst (lv_room hW) d hcells
  · exact va_runSN (Ts := xw_W) ⟨hx, hcc, hml, hown, hts⟩ hM ⟨va_cnB (Ts := xw_W) As.length hts hG rfl rfl rfl (hN _ hli) (hts _ hini) ⟨hmh.1, hmh.2, hpar⟩ hR', hts _ hv, trivial⟩ hp rfl rfl hs.1 hst (lv_room hW) d hcells
/-- a call with an int answer -/
theorem xv_calli (hX : xv_ok X Y cc own nL rm) {q : xc_q} {dz : Nat} {av As rest st0 : List Value} {post : Int32 → xm_M → Prop} (hM : xc_i (xv_l X) q dz Y av M post) {idx b ci n : Nat} {T : u_T} (hl : xc_L own idx q As.length) (hv : xc_LV q) (hb : xw_K b = (0, ci, n)) (hbN : b < xw_N) (hc : xw_Cl[ci]? = some (q.1.cls, T, n)) (hav : av = .ref (Y.2.2.2 b) :: As) (hst : st0 = As.reverse ++ .ref (Y.2.2.2 b) :: rest)
    (hz : q.2.2.1 ≤ 45) (hR : dz + 1 ≤ rm.frames ∧ 64 * dz + 64 ≤ rm.locals) (hf : cells ≤ rm.cells ∧ slots ≤ rm.slots) (hW : (rest.map fun v => v.category).sum ≤ 8) (d : decode cc pc = .ok (.invokevirtual idx, 3)) (e : pc + 3 = pq)
    (h : ∀ (r : Int32) (M' : xm_M), post r M' → xv_V X Y nL cells slots xw_lk xw_N M' pq L (.int r :: rest)) : xv_V X Y nL cells slots xw_lk xw_N M pc L st0 := by
  subst e
  intro H locs ls hP hD hS hs
  refine va_calli (xv_runV hX hM hl hv hb hbN hc hav hst hz hR hf hW d hP hD hs) hS (fun q _ h => h) (fun q h => h) (fun r u t H1 locs1 ht hvm hp hB hz1 hk1 hS1 => ?_)
  obtain ⟨hP1, -, hD1⟩ := hB
  rw [ht] at hP1
  exact h r u hp H1 locs1 ls hP1 hD1 hS1 hs
/-- a call without an answer -/
theorem xv_callv (hX : xv_ok X Y cc own nL rm) {q : xc_q} {dz : Nat} {av As rest st0 : List Value} {post : xm_M → Prop} (hM : xc_v (xv_l X) q dz Y av M post) {idx b ci n : Nat} {T : u_T} (hl : xc_L own idx q As.length) (hv : xc_LV q) (hb : xw_K b = (0, ci, n)) (hbN : b < xw_N) (hc : xw_Cl[ci]? = some (q.1.cls, T, n)) (hav : av = .ref (Y.2.2.2 b) :: As) (hst : st0 = As.reverse ++ .ref (Y.2.2.2 b) :: rest)
    (hz : q.2.2.1 ≤ 45) (hR : dz + 1 ≤ rm.frames ∧ 64 * dz + 64 ≤ rm.locals) (hf : cells ≤ rm.cells ∧ slots ≤ rm.slots) (hW : (rest.map fun v => v.category).sum ≤ 8) (d : decode cc pc = .ok (.invokevirtual idx, 3)) (e : pc + 3 = pq)
    (h : ∀ (M' : xm_M), post M' → xv_V X Y nL cells slots xw_lk xw_N M' pq L rest) : xv_V X Y nL cells slots xw_lk xw_N M pc L st0 := by
  subst e
  intro H locs ls hP hD hS hs
  refine va_callv (xv_runV hX hM hl hv hb hbN hc hav hst hz hR hf hW d hP hD hs) hS (fun q _ h => h) (fun q h => h) (fun u t H1 locs1 ht hvm hp hB hz1 hk1 hS1 => ?_)
  obtain ⟨hP1, -, hD1⟩ := hB
  rw [ht] at hP1
  exact h u hp H1 locs1 ls hP1 hD1 hS1 hs
/-- a call that answers a place -/
theorem xv_callr (hX : xv_ok X Y cc own nL rm) {q : xc_q} {dz : Nat} {av As rest st0 : List Value} {post : xm_M × Nat → Prop} (hM : xc_r (xv_l X) q dz Y av M post) {idx b ci n : Nat} {T : u_T} (hl : xc_L own idx q As.length) (hv : xc_LV q) (hb : xw_K b = (0, ci, n)) (hbN : b < xw_N) (hc : xw_Cl[ci]? = some (q.1.cls, T, n)) (hav : av = .ref (Y.2.2.2 b) :: As) (hst : st0 = As.reverse ++ .ref (Y.2.2.2 b) :: rest)
    (hz : q.2.2.1 ≤ 45) (hR : dz + 1 ≤ rm.frames ∧ 64 * dz + 64 ≤ rm.locals) (hf : cells ≤ rm.cells ∧ slots ≤ rm.slots) (hW : (rest.map fun v => v.category).sum ≤ 8) (d : decode cc pc = .ok (.invokevirtual idx, 3)) (e : pc + 3 = pq)
    (h : ∀ (M' : xm_M) (z : Nat), post (M', z) → xv_V X Y nL cells slots xw_lk xw_N M' pq L (.ref (Y.2.2.2 z) :: rest)) : xv_V X Y nL cells slots xw_lk xw_N M pc L st0 := by
  subst e
  intro H locs ls hP hD hS hs
  refine va_callr (xv_runV hX hM hl hv hb hbN hc hav hst hz hR hf hW d hP hD hs) hS (fun q _ h => h) (fun q h => h) (fun u ra t H1 locs1 ht hvm hp hB hz1 hk1 hS1 => ?_)
  obtain ⟨ha, hP1, -, hD1⟩ := hB
  subst ha
  rw [ht] at hP1
  exact h u.1 u.2 hp H1 locs1 ls hP1 hD1 hS1 hs
/-- a static call with an int answer -/
theorem xv_callsi (hX : xv_ok X Y cc own nL rm) {q : xc_q} {dz : Nat} {As rest st0 : List Value} {post : Int32 → xm_M → Prop} (hM : xc_i (xv_l X) q dz Y As M post) {idx : Nat} (hl : xc_L own idx q As.length) (hv : xc_LS q) (hst : st0 = As.reverse ++ rest)
    (hz : q.2.2.1 ≤ 45) (hR : dz + 1 ≤ rm.frames ∧ 64 * dz + 64 ≤ rm.locals) (hf : cells ≤ rm.cells ∧ slots ≤ rm.slots) (hW : (rest.map fun v => v.category).sum ≤ 8) (d : decode cc pc = .ok (.invokestatic idx, 3)) (e : pc + 3 = pq)
    (h : ∀ (r : Int32) (M' : xm_M), post r M' → xv_V X Y nL cells slots xw_lk xw_N M' pq L (.int r :: rest)) : xv_V X Y nL cells slots xw_lk xw_N M pc L st0 := by
  subst e
  intro H locs ls hP hD hS hs
  refine va_calli (xv_runS hX hM hl hv hst hz hR hf hW d hP hD hs) hS (fun q _ h => h) (fun q h => h) (fun r u t H1 locs1 ht hvm hp hB hz1 hk1 hS1 => ?_)
  obtain ⟨hP1, -, hD1⟩ := hB
  rw [ht] at hP1
  exact h r u hp H1 locs1 ls hP1 hD1 hS1 hs
end XK
end
section
/-! numbers -/
def xi_pred : Nat → Int32
  | 0 => -1
  | t + 1 => nI t
theorem xi_ofInt (n : Nat) : Int32.ofInt (n : Int) = nI n := by
  apply Int32.toBitVec_inj.mp
  simp [nI, Int32.ofInt, Int32.ofNat]
theorem xi_inc (x n : Nat) : nI x + Int32.ofInt (n : Int) = nI (x + n) := by
  rw [xi_ofInt, nI_add]
theorem xi_dec (t : Nat) : nI t + Int32.ofInt (-1) = xi_pred t := by
  cases t with
  | zero => decide
  | succ t => exact pk_m1 t
theorem xi_z {v : Nat} (h : v < 2) : narrow .boolean (.int (nI v)) = .int (nI v) := by
  rcases (show v = 0 ∨ v = 1 by omega) with rfl | rfl <;> decide
theorem xi_bv (n : Nat) : (nI n).toBitVec = BitVec.ofNat 32 n := rfl
theorem xi_tn (n : Nat) : (nI n).toBitVec.toNat = n % 4294967296 := by
  rw [xi_bv, BitVec.toNat_ofNat]
theorem xi_ext {x y : Int32} (h : x.toBitVec.toNat = y.toBitVec.toNat) : x = y := Int32.toBitVec_inj.mp (BitVec.eq_of_toNat_eq h)
theorem xi_mod (n : Nat) : nI n = nI (n % 4294967296) := by
  apply xi_ext
  rw [xi_tn, xi_tn]
  omega
theorem xi_shl8 (v : Nat) : nI v <<< ((nI 8) &&& 31) = nI (v * 256) := by
  apply xi_ext
  rw [pk_shl _ _ 8 (by decide), xi_tn, xi_tn]
  omega
set_option maxRecDepth 100000 in
theorem xi_or8 {v b : Nat} (hb : b < 256) : nI (v * 256) ||| nI b = nI (v * 256 + b) := by
  apply xi_ext
  show ((nI (v * 256)).toBitVec ||| (nI b).toBitVec).toNat = _
  rw [BitVec.toNat_or, xi_tn, xi_tn, xi_tn]
  have h1 : v * 256 % 4294967296 = 2 ^ 8 * (v % 16777216) := by omega
  have h2 : (v * 256 + b) % 4294967296 = 2 ^ 8 * (v % 16777216) + b := by omega
  have h3 : b % 4294967296 = b := by omega
  rw [h1, h2, h3]
  exact (Nat.two_pow_add_eq_or_of_lt hb _).symm
end
section
/-! what each instruction is: rows and reader -/
theorem dc_BR_init_0 : decode prog_2_method_1_code 0 = .ok (.aload_n 0, 1) := by decide +kernel
theorem dc_BR_init_1 : decode prog_2_method_1_code 1 = .ok (.invokespecial 3, 3) := by decide +kernel
theorem dc_BR_init_4 : decode prog_2_method_1_code 4 = .ok (.aload_n 0, 1) := by decide +kernel
theorem dc_BR_init_5 : decode prog_2_method_1_code 5 = .ok (.sipush 160, 3) := by decide +kernel
theorem dc_BR_init_8 : decode prog_2_method_1_code 8 = .ok (.newarray .int, 2) := by decide +kernel
theorem dc_BR_init_10 : decode prog_2_method_1_code 10 = .ok (.putfield 9, 3) := by decide +kernel
theorem dc_BR_init_13 : decode prog_2_method_1_code 13 = .ok (.aload_n 0, 1) := by decide +kernel
theorem dc_BR_init_14 : decode prog_2_method_1_code 14 = .ok (.iconst 0, 1) := by decide +kernel
theorem dc_BR_init_15 : decode prog_2_method_1_code 15 = .ok (.putfield 15, 3) := by decide +kernel
theorem dc_BR_init_18 : decode prog_2_method_1_code 18 = .ok (.return_, 1) := by decide +kernel
theorem dc_BR_has_0 : decode prog_2_method_2_code 0 = .ok (.iload_n 1, 1) := by decide +kernel
theorem dc_BR_has_1 : decode prog_2_method_2_code 1 = .ok (.ifCond .lt 15, 3) := by decide +kernel
theorem dc_BR_has_4 : decode prog_2_method_2_code 4 = .ok (.iload_n 1, 1) := by decide +kernel
theorem dc_BR_has_5 : decode prog_2_method_2_code 5 = .ok (.aload_n 0, 1) := by decide +kernel
theorem dc_BR_has_6 : decode prog_2_method_2_code 6 = .ok (.getfield 15, 3) := by decide +kernel
theorem dc_BR_has_9 : decode prog_2_method_2_code 9 = .ok (.if_icmp .ge 7, 3) := by decide +kernel
theorem dc_BR_has_12 : decode prog_2_method_2_code 12 = .ok (.iconst 1, 1) := by decide +kernel
theorem dc_BR_has_13 : decode prog_2_method_2_code 13 = .ok (.goto 4, 3) := by decide +kernel
theorem dc_BR_has_16 : decode prog_2_method_2_code 16 = .ok (.iconst 0, 1) := by decide +kernel
theorem dc_BR_has_17 : decode prog_2_method_2_code 17 = .ok (.ireturn, 1) := by decide +kernel
theorem dc_BR_hashBetween_0 : decode prog_2_method_3_code 0 = .ok (.iconst 0, 1) := by decide +kernel
theorem dc_BR_hashBetween_1 : decode prog_2_method_3_code 1 = .ok (.istore_n 3, 1) := by decide +kernel
theorem dc_BR_hashBetween_2 : decode prog_2_method_3_code 2 = .ok (.iload_n 1, 1) := by decide +kernel
theorem dc_BR_hashBetween_3 : decode prog_2_method_3_code 3 = .ok (.istore 4, 2) := by decide +kernel
theorem dc_BR_hashBetween_5 : decode prog_2_method_3_code 5 = .ok (.iload 4, 2) := by decide +kernel
theorem dc_BR_hashBetween_7 : decode prog_2_method_3_code 7 = .ok (.iload_n 2, 1) := by decide +kernel
theorem dc_BR_hashBetween_8 : decode prog_2_method_3_code 8 = .ok (.if_icmp .ge 28, 3) := by decide +kernel
theorem dc_BR_hashBetween_11 : decode prog_2_method_3_code 11 = .ok (.sipush 263, 3) := by decide +kernel
theorem dc_BR_hashBetween_14 : decode prog_2_method_3_code 14 = .ok (.iload_n 3, 1) := by decide +kernel
theorem dc_BR_hashBetween_15 : decode prog_2_method_3_code 15 = .ok (.imul, 1) := by decide +kernel
theorem dc_BR_hashBetween_16 : decode prog_2_method_3_code 16 = .ok (.aload_n 0, 1) := by decide +kernel
theorem dc_BR_hashBetween_17 : decode prog_2_method_3_code 17 = .ok (.getfield 9, 3) := by decide +kernel
theorem dc_BR_hashBetween_20 : decode prog_2_method_3_code 20 = .ok (.iload 4, 2) := by decide +kernel
theorem dc_BR_hashBetween_22 : decode prog_2_method_3_code 22 = .ok (.iaload, 1) := by decide +kernel
theorem dc_BR_hashBetween_23 : decode prog_2_method_3_code 23 = .ok (.iadd, 1) := by decide +kernel
theorem dc_BR_hashBetween_24 : decode prog_2_method_3_code 24 = .ok (.iconst 1, 1) := by decide +kernel
theorem dc_BR_hashBetween_25 : decode prog_2_method_3_code 25 = .ok (.iadd, 1) := by decide +kernel
theorem dc_BR_hashBetween_26 : decode prog_2_method_3_code 26 = .ok (.ldc 19, 2) := by decide +kernel
theorem dc_BR_hashBetween_28 : decode prog_2_method_3_code 28 = .ok (.irem, 1) := by decide +kernel
theorem dc_BR_hashBetween_29 : decode prog_2_method_3_code 29 = .ok (.istore_n 3, 1) := by decide +kernel
theorem dc_BR_hashBetween_30 : decode prog_2_method_3_code 30 = .ok (.iinc 4 1, 3) := by decide +kernel
theorem dc_BR_hashBetween_33 : decode prog_2_method_3_code 33 = .ok (.goto (-28), 3) := by decide +kernel
theorem dc_BR_hashBetween_36 : decode prog_2_method_3_code 36 = .ok (.iload_n 3, 1) := by decide +kernel
theorem dc_BR_hashBetween_37 : decode prog_2_method_3_code 37 = .ok (.ireturn, 1) := by decide +kernel
theorem dc_BR_append_0 : decode prog_2_method_4_code 0 = .ok (.aload_n 0, 1) := by decide +kernel
theorem dc_BR_append_1 : decode prog_2_method_4_code 1 = .ok (.getfield 15, 3) := by decide +kernel
theorem dc_BR_append_4 : decode prog_2_method_4_code 4 = .ok (.aload_n 0, 1) := by decide +kernel
theorem dc_BR_append_5 : decode prog_2_method_4_code 5 = .ok (.getfield 9, 3) := by decide +kernel
theorem dc_BR_append_8 : decode prog_2_method_4_code 8 = .ok (.arraylength, 1) := by decide +kernel
theorem dc_BR_append_9 : decode prog_2_method_4_code 9 = .ok (.if_icmp .ge 23, 3) := by decide +kernel
theorem dc_BR_append_12 : decode prog_2_method_4_code 12 = .ok (.aload_n 0, 1) := by decide +kernel
theorem dc_BR_append_13 : decode prog_2_method_4_code 13 = .ok (.getfield 9, 3) := by decide +kernel
theorem dc_BR_append_16 : decode prog_2_method_4_code 16 = .ok (.aload_n 0, 1) := by decide +kernel
theorem dc_BR_append_17 : decode prog_2_method_4_code 17 = .ok (.getfield 15, 3) := by decide +kernel
theorem dc_BR_append_20 : decode prog_2_method_4_code 20 = .ok (.iload_n 1, 1) := by decide +kernel
theorem dc_BR_append_21 : decode prog_2_method_4_code 21 = .ok (.iastore, 1) := by decide +kernel
theorem dc_BR_append_22 : decode prog_2_method_4_code 22 = .ok (.aload_n 0, 1) := by decide +kernel
theorem dc_BR_append_23 : decode prog_2_method_4_code 23 = .ok (.dup, 1) := by decide +kernel
theorem dc_BR_append_24 : decode prog_2_method_4_code 24 = .ok (.getfield 15, 3) := by decide +kernel
theorem dc_BR_append_27 : decode prog_2_method_4_code 27 = .ok (.iconst 1, 1) := by decide +kernel
theorem dc_BR_append_28 : decode prog_2_method_4_code 28 = .ok (.iadd, 1) := by decide +kernel
theorem dc_BR_append_29 : decode prog_2_method_4_code 29 = .ok (.putfield 15, 3) := by decide +kernel
theorem dc_BR_append_32 : decode prog_2_method_4_code 32 = .ok (.aload_n 0, 1) := by decide +kernel
theorem dc_BR_append_33 : decode prog_2_method_4_code 33 = .ok (.getfield 15, 3) := by decide +kernel
theorem dc_BR_append_36 : decode prog_2_method_4_code 36 = .ok (.ireturn, 1) := by decide +kernel
theorem dc_BR_insertLength_0 : decode prog_2_method_5_code 0 = .ok (.aload_n 0, 1) := by decide +kernel
theorem dc_BR_insertLength_1 : decode prog_2_method_5_code 1 = .ok (.getfield 15, 3) := by decide +kernel
theorem dc_BR_insertLength_4 : decode prog_2_method_5_code 4 = .ok (.iload_n 1, 1) := by decide +kernel
theorem dc_BR_insertLength_5 : decode prog_2_method_5_code 5 = .ok (.isub, 1) := by decide +kernel
theorem dc_BR_insertLength_6 : decode prog_2_method_5_code 6 = .ok (.istore_n 2, 1) := by decide +kernel
theorem dc_BR_insertLength_7 : decode prog_2_method_5_code 7 = .ok (.iload_n 2, 1) := by decide +kernel
theorem dc_BR_insertLength_8 : decode prog_2_method_5_code 8 = .ok (.bipush 127, 2) := by decide +kernel
theorem dc_BR_insertLength_10 : decode prog_2_method_5_code 10 = .ok (.if_icmp .le 7, 3) := by decide +kernel
theorem dc_BR_insertLength_13 : decode prog_2_method_5_code 13 = .ok (.iconst 2, 1) := by decide +kernel
theorem dc_BR_insertLength_14 : decode prog_2_method_5_code 14 = .ok (.goto 4, 3) := by decide +kernel
theorem dc_BR_insertLength_17 : decode prog_2_method_5_code 17 = .ok (.iconst 1, 1) := by decide +kernel
theorem dc_BR_insertLength_18 : decode prog_2_method_5_code 18 = .ok (.istore_n 3, 1) := by decide +kernel
theorem dc_BR_insertLength_19 : decode prog_2_method_5_code 19 = .ok (.iload_n 1, 1) := by decide +kernel
theorem dc_BR_insertLength_20 : decode prog_2_method_5_code 20 = .ok (.ifCond .lt 21, 3) := by decide +kernel
theorem dc_BR_insertLength_23 : decode prog_2_method_5_code 23 = .ok (.iload_n 2, 1) := by decide +kernel
theorem dc_BR_insertLength_24 : decode prog_2_method_5_code 24 = .ok (.ifCond .lt 17, 3) := by decide +kernel
theorem dc_BR_insertLength_27 : decode prog_2_method_5_code 27 = .ok (.iload_n 3, 1) := by decide +kernel
theorem dc_BR_insertLength_28 : decode prog_2_method_5_code 28 = .ok (.aload_n 0, 1) := by decide +kernel
theorem dc_BR_insertLength_29 : decode prog_2_method_5_code 29 = .ok (.getfield 9, 3) := by decide +kernel
theorem dc_BR_insertLength_32 : decode prog_2_method_5_code 32 = .ok (.arraylength, 1) := by decide +kernel
theorem dc_BR_insertLength_33 : decode prog_2_method_5_code 33 = .ok (.aload_n 0, 1) := by decide +kernel
theorem dc_BR_insertLength_34 : decode prog_2_method_5_code 34 = .ok (.getfield 15, 3) := by decide +kernel
theorem dc_BR_insertLength_37 : decode prog_2_method_5_code 37 = .ok (.isub, 1) := by decide +kernel
theorem dc_BR_insertLength_38 : decode prog_2_method_5_code 38 = .ok (.if_icmp .le 4, 3) := by decide +kernel
theorem dc_BR_insertLength_41 : decode prog_2_method_5_code 41 = .ok (.return_, 1) := by decide +kernel
theorem dc_BR_insertLength_42 : decode prog_2_method_5_code 42 = .ok (.aload_n 0, 1) := by decide +kernel
theorem dc_BR_insertLength_43 : decode prog_2_method_5_code 43 = .ok (.getfield 15, 3) := by decide +kernel
theorem dc_BR_insertLength_46 : decode prog_2_method_5_code 46 = .ok (.iconst 1, 1) := by decide +kernel
theorem dc_BR_insertLength_47 : decode prog_2_method_5_code 47 = .ok (.isub, 1) := by decide +kernel
theorem dc_BR_insertLength_48 : decode prog_2_method_5_code 48 = .ok (.istore 4, 2) := by decide +kernel
theorem dc_BR_insertLength_50 : decode prog_2_method_5_code 50 = .ok (.iload 4, 2) := by decide +kernel
theorem dc_BR_insertLength_52 : decode prog_2_method_5_code 52 = .ok (.iload_n 1, 1) := by decide +kernel
theorem dc_BR_insertLength_53 : decode prog_2_method_5_code 53 = .ok (.if_icmp .lt 25, 3) := by decide +kernel
theorem dc_BR_insertLength_56 : decode prog_2_method_5_code 56 = .ok (.aload_n 0, 1) := by decide +kernel
theorem dc_BR_insertLength_57 : decode prog_2_method_5_code 57 = .ok (.getfield 9, 3) := by decide +kernel
theorem dc_BR_insertLength_60 : decode prog_2_method_5_code 60 = .ok (.iload 4, 2) := by decide +kernel
theorem dc_BR_insertLength_62 : decode prog_2_method_5_code 62 = .ok (.iload_n 3, 1) := by decide +kernel
theorem dc_BR_insertLength_63 : decode prog_2_method_5_code 63 = .ok (.iadd, 1) := by decide +kernel
theorem dc_BR_insertLength_64 : decode prog_2_method_5_code 64 = .ok (.aload_n 0, 1) := by decide +kernel
theorem dc_BR_insertLength_65 : decode prog_2_method_5_code 65 = .ok (.getfield 9, 3) := by decide +kernel
theorem dc_BR_insertLength_68 : decode prog_2_method_5_code 68 = .ok (.iload 4, 2) := by decide +kernel
theorem dc_BR_insertLength_70 : decode prog_2_method_5_code 70 = .ok (.iaload, 1) := by decide +kernel
theorem dc_BR_insertLength_71 : decode prog_2_method_5_code 71 = .ok (.iastore, 1) := by decide +kernel
theorem dc_BR_insertLength_72 : decode prog_2_method_5_code 72 = .ok (.iinc 4 (-1), 3) := by decide +kernel
theorem dc_BR_insertLength_75 : decode prog_2_method_5_code 75 = .ok (.goto (-25), 3) := by decide +kernel
theorem dc_BR_insertLength_78 : decode prog_2_method_5_code 78 = .ok (.aload_n 0, 1) := by decide +kernel
theorem dc_BR_insertLength_79 : decode prog_2_method_5_code 79 = .ok (.dup, 1) := by decide +kernel
theorem dc_BR_insertLength_80 : decode prog_2_method_5_code 80 = .ok (.getfield 15, 3) := by decide +kernel
theorem dc_BR_insertLength_83 : decode prog_2_method_5_code 83 = .ok (.iload_n 3, 1) := by decide +kernel
theorem dc_BR_insertLength_84 : decode prog_2_method_5_code 84 = .ok (.iadd, 1) := by decide +kernel
theorem dc_BR_insertLength_85 : decode prog_2_method_5_code 85 = .ok (.putfield 15, 3) := by decide +kernel
theorem dc_BR_insertLength_88 : decode prog_2_method_5_code 88 = .ok (.aload_n 0, 1) := by decide +kernel
theorem dc_BR_insertLength_89 : decode prog_2_method_5_code 89 = .ok (.getfield 9, 3) := by decide +kernel
theorem dc_BR_insertLength_92 : decode prog_2_method_5_code 92 = .ok (.iload_n 1, 1) := by decide +kernel
theorem dc_BR_insertLength_93 : decode prog_2_method_5_code 93 = .ok (.iload_n 3, 1) := by decide +kernel
theorem dc_BR_insertLength_94 : decode prog_2_method_5_code 94 = .ok (.iadd, 1) := by decide +kernel
theorem dc_BR_insertLength_95 : decode prog_2_method_5_code 95 = .ok (.iconst 1, 1) := by decide +kernel
theorem dc_BR_insertLength_96 : decode prog_2_method_5_code 96 = .ok (.isub, 1) := by decide +kernel
theorem dc_BR_insertLength_97 : decode prog_2_method_5_code 97 = .ok (.iload_n 2, 1) := by decide +kernel
theorem dc_BR_insertLength_98 : decode prog_2_method_5_code 98 = .ok (.iastore, 1) := by decide +kernel
theorem dc_BR_insertLength_99 : decode prog_2_method_5_code 99 = .ok (.iload_n 3, 1) := by decide +kernel
theorem dc_BR_insertLength_100 : decode prog_2_method_5_code 100 = .ok (.iconst 2, 1) := by decide +kernel
theorem dc_BR_insertLength_101 : decode prog_2_method_5_code 101 = .ok (.if_icmp .ne 12, 3) := by decide +kernel
theorem dc_BR_insertLength_104 : decode prog_2_method_5_code 104 = .ok (.aload_n 0, 1) := by decide +kernel
theorem dc_BR_insertLength_105 : decode prog_2_method_5_code 105 = .ok (.getfield 9, 3) := by decide +kernel
theorem dc_BR_insertLength_108 : decode prog_2_method_5_code 108 = .ok (.iload_n 1, 1) := by decide +kernel
theorem dc_BR_insertLength_109 : decode prog_2_method_5_code 109 = .ok (.sipush 129, 3) := by decide +kernel
theorem dc_BR_insertLength_112 : decode prog_2_method_5_code 112 = .ok (.iastore, 1) := by decide +kernel
theorem dc_BR_insertLength_113 : decode prog_2_method_5_code 113 = .ok (.return_, 1) := by decide +kernel
theorem dc_BR_appendInteger_0 : decode prog_2_method_6_code 0 = .ok (.aload_n 0, 1) := by decide +kernel
theorem dc_BR_appendInteger_1 : decode prog_2_method_6_code 1 = .ok (.iconst 2, 1) := by decide +kernel
theorem dc_BR_appendInteger_2 : decode prog_2_method_6_code 2 = .ok (.invokevirtual 20, 3) := by decide +kernel
theorem dc_BR_appendInteger_5 : decode prog_2_method_6_code 5 = .ok (.istore_n 2, 1) := by decide +kernel
theorem dc_BR_appendInteger_6 : decode prog_2_method_6_code 6 = .ok (.iconst 1, 1) := by decide +kernel
theorem dc_BR_appendInteger_7 : decode prog_2_method_6_code 7 = .ok (.istore_n 3, 1) := by decide +kernel
theorem dc_BR_appendInteger_8 : decode prog_2_method_6_code 8 = .ok (.iload_n 3, 1) := by decide +kernel
theorem dc_BR_appendInteger_9 : decode prog_2_method_6_code 9 = .ok (.iconst 4, 1) := by decide +kernel
theorem dc_BR_appendInteger_10 : decode prog_2_method_6_code 10 = .ok (.if_icmp .ge 20, 3) := by decide +kernel
theorem dc_BR_appendInteger_13 : decode prog_2_method_6_code 13 = .ok (.iload_n 1, 1) := by decide +kernel
theorem dc_BR_appendInteger_14 : decode prog_2_method_6_code 14 = .ok (.bipush 8, 2) := by decide +kernel
theorem dc_BR_appendInteger_16 : decode prog_2_method_6_code 16 = .ok (.iload_n 3, 1) := by decide +kernel
theorem dc_BR_appendInteger_17 : decode prog_2_method_6_code 17 = .ok (.imul, 1) := by decide +kernel
theorem dc_BR_appendInteger_18 : decode prog_2_method_6_code 18 = .ok (.iconst 1, 1) := by decide +kernel
theorem dc_BR_appendInteger_19 : decode prog_2_method_6_code 19 = .ok (.isub, 1) := by decide +kernel
theorem dc_BR_appendInteger_20 : decode prog_2_method_6_code 20 = .ok (.iushr, 1) := by decide +kernel
theorem dc_BR_appendInteger_21 : decode prog_2_method_6_code 21 = .ok (.ifCond .eq 9, 3) := by decide +kernel
theorem dc_BR_appendInteger_24 : decode prog_2_method_6_code 24 = .ok (.iinc 3 1, 3) := by decide +kernel
theorem dc_BR_appendInteger_27 : decode prog_2_method_6_code 27 = .ok (.goto (-19), 3) := by decide +kernel
theorem dc_BR_appendInteger_30 : decode prog_2_method_6_code 30 = .ok (.iload_n 3, 1) := by decide +kernel
theorem dc_BR_appendInteger_31 : decode prog_2_method_6_code 31 = .ok (.iconst 1, 1) := by decide +kernel
theorem dc_BR_appendInteger_32 : decode prog_2_method_6_code 32 = .ok (.isub, 1) := by decide +kernel
theorem dc_BR_appendInteger_33 : decode prog_2_method_6_code 33 = .ok (.istore 4, 2) := by decide +kernel
theorem dc_BR_appendInteger_35 : decode prog_2_method_6_code 35 = .ok (.iload 4, 2) := by decide +kernel
theorem dc_BR_appendInteger_37 : decode prog_2_method_6_code 37 = .ok (.ifCond .lt 25, 3) := by decide +kernel
theorem dc_BR_appendInteger_40 : decode prog_2_method_6_code 40 = .ok (.aload_n 0, 1) := by decide +kernel
theorem dc_BR_appendInteger_41 : decode prog_2_method_6_code 41 = .ok (.iload_n 1, 1) := by decide +kernel
theorem dc_BR_appendInteger_42 : decode prog_2_method_6_code 42 = .ok (.bipush 8, 2) := by decide +kernel
theorem dc_BR_appendInteger_44 : decode prog_2_method_6_code 44 = .ok (.iload 4, 2) := by decide +kernel
theorem dc_BR_appendInteger_46 : decode prog_2_method_6_code 46 = .ok (.imul, 1) := by decide +kernel
theorem dc_BR_appendInteger_47 : decode prog_2_method_6_code 47 = .ok (.iushr, 1) := by decide +kernel
theorem dc_BR_appendInteger_48 : decode prog_2_method_6_code 48 = .ok (.sipush 255, 3) := by decide +kernel
theorem dc_BR_appendInteger_51 : decode prog_2_method_6_code 51 = .ok (.iand, 1) := by decide +kernel
theorem dc_BR_appendInteger_52 : decode prog_2_method_6_code 52 = .ok (.invokevirtual 20, 3) := by decide +kernel
theorem dc_BR_appendInteger_55 : decode prog_2_method_6_code 55 = .ok (.pop, 1) := by decide +kernel
theorem dc_BR_appendInteger_56 : decode prog_2_method_6_code 56 = .ok (.iinc 4 (-1), 3) := by decide +kernel
theorem dc_BR_appendInteger_59 : decode prog_2_method_6_code 59 = .ok (.goto (-24), 3) := by decide +kernel
theorem dc_BR_appendInteger_62 : decode prog_2_method_6_code 62 = .ok (.aload_n 0, 1) := by decide +kernel
theorem dc_BR_appendInteger_63 : decode prog_2_method_6_code 63 = .ok (.iload_n 2, 1) := by decide +kernel
theorem dc_BR_appendInteger_64 : decode prog_2_method_6_code 64 = .ok (.invokevirtual 24, 3) := by decide +kernel
theorem dc_BR_appendInteger_67 : decode prog_2_method_6_code 67 = .ok (.return_, 1) := by decide +kernel
theorem dc_BR_appendTrue_0 : decode prog_2_method_7_code 0 = .ok (.aload_n 0, 1) := by decide +kernel
theorem dc_BR_appendTrue_1 : decode prog_2_method_7_code 1 = .ok (.iconst 1, 1) := by decide +kernel
theorem dc_BR_appendTrue_2 : decode prog_2_method_7_code 2 = .ok (.invokevirtual 20, 3) := by decide +kernel
theorem dc_BR_appendTrue_5 : decode prog_2_method_7_code 5 = .ok (.istore_n 1, 1) := by decide +kernel
theorem dc_BR_appendTrue_6 : decode prog_2_method_7_code 6 = .ok (.aload_n 0, 1) := by decide +kernel
theorem dc_BR_appendTrue_7 : decode prog_2_method_7_code 7 = .ok (.sipush 255, 3) := by decide +kernel
theorem dc_BR_appendTrue_10 : decode prog_2_method_7_code 10 = .ok (.invokevirtual 20, 3) := by decide +kernel
theorem dc_BR_appendTrue_13 : decode prog_2_method_7_code 13 = .ok (.pop, 1) := by decide +kernel
theorem dc_BR_appendTrue_14 : decode prog_2_method_7_code 14 = .ok (.aload_n 0, 1) := by decide +kernel
theorem dc_BR_appendTrue_15 : decode prog_2_method_7_code 15 = .ok (.iload_n 1, 1) := by decide +kernel
theorem dc_BR_appendTrue_16 : decode prog_2_method_7_code 16 = .ok (.invokevirtual 24, 3) := by decide +kernel
theorem dc_BR_appendTrue_19 : decode prog_2_method_7_code 19 = .ok (.return_, 1) := by decide +kernel
theorem dc_RD_init_0 : decode prog_7_method_1_code 0 = .ok (.aload_n 0, 1) := by decide +kernel
theorem dc_RD_init_1 : decode prog_7_method_1_code 1 = .ok (.invokespecial 3, 3) := by decide +kernel
theorem dc_RD_init_4 : decode prog_7_method_1_code 4 = .ok (.aload_n 0, 1) := by decide +kernel
theorem dc_RD_init_5 : decode prog_7_method_1_code 5 = .ok (.new 9, 3) := by decide +kernel
theorem dc_RD_init_8 : decode prog_7_method_1_code 8 = .ok (.dup, 1) := by decide +kernel
theorem dc_RD_init_9 : decode prog_7_method_1_code 9 = .ok (.invokespecial 11, 3) := by decide +kernel
theorem dc_RD_init_12 : decode prog_7_method_1_code 12 = .ok (.putfield 12, 3) := by decide +kernel
theorem dc_RD_init_15 : decode prog_7_method_1_code 15 = .ok (.aload_n 0, 1) := by decide +kernel
theorem dc_RD_init_16 : decode prog_7_method_1_code 16 = .ok (.bipush 11, 2) := by decide +kernel
theorem dc_RD_init_18 : decode prog_7_method_1_code 18 = .ok (.newarray .int, 2) := by decide +kernel
theorem dc_RD_init_20 : decode prog_7_method_1_code 20 = .ok (.putfield 18, 3) := by decide +kernel
theorem dc_RD_init_23 : decode prog_7_method_1_code 23 = .ok (.aload_n 0, 1) := by decide +kernel
theorem dc_RD_init_24 : decode prog_7_method_1_code 24 = .ok (.iconst 0, 1) := by decide +kernel
theorem dc_RD_init_25 : decode prog_7_method_1_code 25 = .ok (.putfield 22, 3) := by decide +kernel
theorem dc_RD_init_28 : decode prog_7_method_1_code 28 = .ok (.aload_n 0, 1) := by decide +kernel
theorem dc_RD_init_29 : decode prog_7_method_1_code 29 = .ok (.iconst 0, 1) := by decide +kernel
theorem dc_RD_init_30 : decode prog_7_method_1_code 30 = .ok (.putfield 26, 3) := by decide +kernel
theorem dc_RD_init_33 : decode prog_7_method_1_code 33 = .ok (.aload_n 0, 1) := by decide +kernel
theorem dc_RD_init_34 : decode prog_7_method_1_code 34 = .ok (.iconst 0, 1) := by decide +kernel
theorem dc_RD_init_35 : decode prog_7_method_1_code 35 = .ok (.putfield 29, 3) := by decide +kernel
theorem dc_RD_init_38 : decode prog_7_method_1_code 38 = .ok (.return_, 1) := by decide +kernel
theorem dc_RD_start_0 : decode prog_7_method_2_code 0 = .ok (.aload_n 0, 1) := by decide +kernel
theorem dc_RD_start_1 : decode prog_7_method_2_code 1 = .ok (.iconst 0, 1) := by decide +kernel
theorem dc_RD_start_2 : decode prog_7_method_2_code 2 = .ok (.putfield 22, 3) := by decide +kernel
theorem dc_RD_start_5 : decode prog_7_method_2_code 5 = .ok (.aload_n 0, 1) := by decide +kernel
theorem dc_RD_start_6 : decode prog_7_method_2_code 6 = .ok (.getfield 18, 3) := by decide +kernel
theorem dc_RD_start_9 : decode prog_7_method_2_code 9 = .ok (.iconst 0, 1) := by decide +kernel
theorem dc_RD_start_10 : decode prog_7_method_2_code 10 = .ok (.aload_n 0, 1) := by decide +kernel
theorem dc_RD_start_11 : decode prog_7_method_2_code 11 = .ok (.getfield 12, 3) := by decide +kernel
theorem dc_RD_start_14 : decode prog_7_method_2_code 14 = .ok (.getfield 33, 3) := by decide +kernel
theorem dc_RD_start_17 : decode prog_7_method_2_code 17 = .ok (.iastore, 1) := by decide +kernel
theorem dc_RD_start_18 : decode prog_7_method_2_code 18 = .ok (.aload_n 0, 1) := by decide +kernel
theorem dc_RD_start_19 : decode prog_7_method_2_code 19 = .ok (.iconst 0, 1) := by decide +kernel
theorem dc_RD_start_20 : decode prog_7_method_2_code 20 = .ok (.putfield 26, 3) := by decide +kernel
theorem dc_RD_start_23 : decode prog_7_method_2_code 23 = .ok (.aload_n 0, 1) := by decide +kernel
theorem dc_RD_start_24 : decode prog_7_method_2_code 24 = .ok (.iconst 1, 1) := by decide +kernel
theorem dc_RD_start_25 : decode prog_7_method_2_code 25 = .ok (.putfield 29, 3) := by decide +kernel
theorem dc_RD_start_28 : decode prog_7_method_2_code 28 = .ok (.return_, 1) := by decide +kernel
theorem dc_RD_refuse_0 : decode prog_7_method_3_code 0 = .ok (.aload_n 0, 1) := by decide +kernel
theorem dc_RD_refuse_1 : decode prog_7_method_3_code 1 = .ok (.iconst 0, 1) := by decide +kernel
theorem dc_RD_refuse_2 : decode prog_7_method_3_code 2 = .ok (.putfield 29, 3) := by decide +kernel
theorem dc_RD_refuse_5 : decode prog_7_method_3_code 5 = .ok (.return_, 1) := by decide +kernel
theorem dc_RD_isAtEndOfRow_0 : decode prog_7_method_4_code 0 = .ok (.aload_n 0, 1) := by decide +kernel
theorem dc_RD_isAtEndOfRow_1 : decode prog_7_method_4_code 1 = .ok (.getfield 29, 3) := by decide +kernel
theorem dc_RD_isAtEndOfRow_4 : decode prog_7_method_4_code 4 = .ok (.ifCond .eq 27, 3) := by decide +kernel
theorem dc_RD_isAtEndOfRow_7 : decode prog_7_method_4_code 7 = .ok (.aload_n 0, 1) := by decide +kernel
theorem dc_RD_isAtEndOfRow_8 : decode prog_7_method_4_code 8 = .ok (.getfield 22, 3) := by decide +kernel
theorem dc_RD_isAtEndOfRow_11 : decode prog_7_method_4_code 11 = .ok (.ifCond .ne 20, 3) := by decide +kernel
theorem dc_RD_isAtEndOfRow_14 : decode prog_7_method_4_code 14 = .ok (.aload_n 0, 1) := by decide +kernel
theorem dc_RD_isAtEndOfRow_15 : decode prog_7_method_4_code 15 = .ok (.getfield 26, 3) := by decide +kernel
theorem dc_RD_isAtEndOfRow_18 : decode prog_7_method_4_code 18 = .ok (.aload_n 0, 1) := by decide +kernel
theorem dc_RD_isAtEndOfRow_19 : decode prog_7_method_4_code 19 = .ok (.getfield 18, 3) := by decide +kernel
theorem dc_RD_isAtEndOfRow_22 : decode prog_7_method_4_code 22 = .ok (.iconst 0, 1) := by decide +kernel
theorem dc_RD_isAtEndOfRow_23 : decode prog_7_method_4_code 23 = .ok (.iaload, 1) := by decide +kernel
theorem dc_RD_isAtEndOfRow_24 : decode prog_7_method_4_code 24 = .ok (.if_icmp .ne 7, 3) := by decide +kernel
theorem dc_RD_isAtEndOfRow_27 : decode prog_7_method_4_code 27 = .ok (.iconst 1, 1) := by decide +kernel
theorem dc_RD_isAtEndOfRow_28 : decode prog_7_method_4_code 28 = .ok (.goto 4, 3) := by decide +kernel
theorem dc_RD_isAtEndOfRow_31 : decode prog_7_method_4_code 31 = .ok (.iconst 0, 1) := by decide +kernel
theorem dc_RD_isAtEndOfRow_32 : decode prog_7_method_4_code 32 = .ok (.ireturn, 1) := by decide +kernel
theorem dc_RD_remaining_0 : decode prog_7_method_5_code 0 = .ok (.aload_n 0, 1) := by decide +kernel
theorem dc_RD_remaining_1 : decode prog_7_method_5_code 1 = .ok (.getfield 29, 3) := by decide +kernel
theorem dc_RD_remaining_4 : decode prog_7_method_5_code 4 = .ok (.ifCond .eq 20, 3) := by decide +kernel
theorem dc_RD_remaining_7 : decode prog_7_method_5_code 7 = .ok (.aload_n 0, 1) := by decide +kernel
theorem dc_RD_remaining_8 : decode prog_7_method_5_code 8 = .ok (.getfield 18, 3) := by decide +kernel
theorem dc_RD_remaining_11 : decode prog_7_method_5_code 11 = .ok (.aload_n 0, 1) := by decide +kernel
theorem dc_RD_remaining_12 : decode prog_7_method_5_code 12 = .ok (.getfield 22, 3) := by decide +kernel
theorem dc_RD_remaining_15 : decode prog_7_method_5_code 15 = .ok (.iaload, 1) := by decide +kernel
theorem dc_RD_remaining_16 : decode prog_7_method_5_code 16 = .ok (.aload_n 0, 1) := by decide +kernel
theorem dc_RD_remaining_17 : decode prog_7_method_5_code 17 = .ok (.getfield 26, 3) := by decide +kernel
theorem dc_RD_remaining_20 : decode prog_7_method_5_code 20 = .ok (.isub, 1) := by decide +kernel
theorem dc_RD_remaining_21 : decode prog_7_method_5_code 21 = .ok (.goto 4, 3) := by decide +kernel
theorem dc_RD_remaining_24 : decode prog_7_method_5_code 24 = .ok (.iconst 0, 1) := by decide +kernel
theorem dc_RD_remaining_25 : decode prog_7_method_5_code 25 = .ok (.ireturn, 1) := by decide +kernel
theorem dc_RD_hashSince_0 : decode prog_7_method_6_code 0 = .ok (.aload_n 0, 1) := by decide +kernel
theorem dc_RD_hashSince_1 : decode prog_7_method_6_code 1 = .ok (.getfield 12, 3) := by decide +kernel
theorem dc_RD_hashSince_4 : decode prog_7_method_6_code 4 = .ok (.iload_n 1, 1) := by decide +kernel
theorem dc_RD_hashSince_5 : decode prog_7_method_6_code 5 = .ok (.aload_n 0, 1) := by decide +kernel
theorem dc_RD_hashSince_6 : decode prog_7_method_6_code 6 = .ok (.getfield 26, 3) := by decide +kernel
theorem dc_RD_hashSince_9 : decode prog_7_method_6_code 9 = .ok (.invokevirtual 36, 3) := by decide +kernel
theorem dc_RD_hashSince_12 : decode prog_7_method_6_code 12 = .ok (.ireturn, 1) := by decide +kernel
theorem dc_RD_nextIs_0 : decode prog_7_method_7_code 0 = .ok (.aload_n 0, 1) := by decide +kernel
theorem dc_RD_nextIs_1 : decode prog_7_method_7_code 1 = .ok (.getfield 29, 3) := by decide +kernel
theorem dc_RD_nextIs_4 : decode prog_7_method_7_code 4 = .ok (.ifCond .eq 39, 3) := by decide +kernel
theorem dc_RD_nextIs_7 : decode prog_7_method_7_code 7 = .ok (.aload_n 0, 1) := by decide +kernel
theorem dc_RD_nextIs_8 : decode prog_7_method_7_code 8 = .ok (.getfield 26, 3) := by decide +kernel
theorem dc_RD_nextIs_11 : decode prog_7_method_7_code 11 = .ok (.aload_n 0, 1) := by decide +kernel
theorem dc_RD_nextIs_12 : decode prog_7_method_7_code 12 = .ok (.getfield 18, 3) := by decide +kernel
theorem dc_RD_nextIs_15 : decode prog_7_method_7_code 15 = .ok (.aload_n 0, 1) := by decide +kernel
theorem dc_RD_nextIs_16 : decode prog_7_method_7_code 16 = .ok (.getfield 22, 3) := by decide +kernel
theorem dc_RD_nextIs_19 : decode prog_7_method_7_code 19 = .ok (.iaload, 1) := by decide +kernel
theorem dc_RD_nextIs_20 : decode prog_7_method_7_code 20 = .ok (.if_icmp .ge 23, 3) := by decide +kernel
theorem dc_RD_nextIs_23 : decode prog_7_method_7_code 23 = .ok (.aload_n 0, 1) := by decide +kernel
theorem dc_RD_nextIs_24 : decode prog_7_method_7_code 24 = .ok (.getfield 12, 3) := by decide +kernel
theorem dc_RD_nextIs_27 : decode prog_7_method_7_code 27 = .ok (.getfield 40, 3) := by decide +kernel
theorem dc_RD_nextIs_30 : decode prog_7_method_7_code 30 = .ok (.aload_n 0, 1) := by decide +kernel
theorem dc_RD_nextIs_31 : decode prog_7_method_7_code 31 = .ok (.getfield 26, 3) := by decide +kernel
theorem dc_RD_nextIs_34 : decode prog_7_method_7_code 34 = .ok (.iaload, 1) := by decide +kernel
theorem dc_RD_nextIs_35 : decode prog_7_method_7_code 35 = .ok (.iload_n 1, 1) := by decide +kernel
theorem dc_RD_nextIs_36 : decode prog_7_method_7_code 36 = .ok (.if_icmp .ne 7, 3) := by decide +kernel
theorem dc_RD_nextIs_39 : decode prog_7_method_7_code 39 = .ok (.iconst 1, 1) := by decide +kernel
theorem dc_RD_nextIs_40 : decode prog_7_method_7_code 40 = .ok (.goto 4, 3) := by decide +kernel
theorem dc_RD_nextIs_43 : decode prog_7_method_7_code 43 = .ok (.iconst 0, 1) := by decide +kernel
theorem dc_RD_nextIs_44 : decode prog_7_method_7_code 44 = .ok (.ireturn, 1) := by decide +kernel
theorem dc_RD_readByte_0 : decode prog_7_method_8_code 0 = .ok (.aload_n 0, 1) := by decide +kernel
theorem dc_RD_readByte_1 : decode prog_7_method_8_code 1 = .ok (.getfield 29, 3) := by decide +kernel
theorem dc_RD_readByte_4 : decode prog_7_method_8_code 4 = .ok (.ifCond .eq 19, 3) := by decide +kernel
theorem dc_RD_readByte_7 : decode prog_7_method_8_code 7 = .ok (.aload_n 0, 1) := by decide +kernel
theorem dc_RD_readByte_8 : decode prog_7_method_8_code 8 = .ok (.getfield 26, 3) := by decide +kernel
theorem dc_RD_readByte_11 : decode prog_7_method_8_code 11 = .ok (.aload_n 0, 1) := by decide +kernel
theorem dc_RD_readByte_12 : decode prog_7_method_8_code 12 = .ok (.getfield 18, 3) := by decide +kernel
theorem dc_RD_readByte_15 : decode prog_7_method_8_code 15 = .ok (.aload_n 0, 1) := by decide +kernel
theorem dc_RD_readByte_16 : decode prog_7_method_8_code 16 = .ok (.getfield 22, 3) := by decide +kernel
theorem dc_RD_readByte_19 : decode prog_7_method_8_code 19 = .ok (.iaload, 1) := by decide +kernel
theorem dc_RD_readByte_20 : decode prog_7_method_8_code 20 = .ok (.if_icmp .lt 10, 3) := by decide +kernel
theorem dc_RD_readByte_23 : decode prog_7_method_8_code 23 = .ok (.aload_n 0, 1) := by decide +kernel
theorem dc_RD_readByte_24 : decode prog_7_method_8_code 24 = .ok (.iconst 0, 1) := by decide +kernel
theorem dc_RD_readByte_25 : decode prog_7_method_8_code 25 = .ok (.putfield 29, 3) := by decide +kernel
theorem dc_RD_readByte_28 : decode prog_7_method_8_code 28 = .ok (.iconst 0, 1) := by decide +kernel
theorem dc_RD_readByte_29 : decode prog_7_method_8_code 29 = .ok (.ireturn, 1) := by decide +kernel
theorem dc_RD_readByte_30 : decode prog_7_method_8_code 30 = .ok (.aload_n 0, 1) := by decide +kernel
theorem dc_RD_readByte_31 : decode prog_7_method_8_code 31 = .ok (.dup, 1) := by decide +kernel
theorem dc_RD_readByte_32 : decode prog_7_method_8_code 32 = .ok (.getfield 26, 3) := by decide +kernel
theorem dc_RD_readByte_35 : decode prog_7_method_8_code 35 = .ok (.iconst 1, 1) := by decide +kernel
theorem dc_RD_readByte_36 : decode prog_7_method_8_code 36 = .ok (.iadd, 1) := by decide +kernel
theorem dc_RD_readByte_37 : decode prog_7_method_8_code 37 = .ok (.putfield 26, 3) := by decide +kernel
theorem dc_RD_readByte_40 : decode prog_7_method_8_code 40 = .ok (.aload_n 0, 1) := by decide +kernel
theorem dc_RD_readByte_41 : decode prog_7_method_8_code 41 = .ok (.getfield 12, 3) := by decide +kernel
theorem dc_RD_readByte_44 : decode prog_7_method_8_code 44 = .ok (.getfield 40, 3) := by decide +kernel
theorem dc_RD_readByte_47 : decode prog_7_method_8_code 47 = .ok (.aload_n 0, 1) := by decide +kernel
theorem dc_RD_readByte_48 : decode prog_7_method_8_code 48 = .ok (.getfield 26, 3) := by decide +kernel
theorem dc_RD_readByte_51 : decode prog_7_method_8_code 51 = .ok (.iconst 1, 1) := by decide +kernel
theorem dc_RD_readByte_52 : decode prog_7_method_8_code 52 = .ok (.isub, 1) := by decide +kernel
theorem dc_RD_readByte_53 : decode prog_7_method_8_code 53 = .ok (.iaload, 1) := by decide +kernel
theorem dc_RD_readByte_54 : decode prog_7_method_8_code 54 = .ok (.ireturn, 1) := by decide +kernel
theorem dc_RD_open_0 : decode prog_7_method_9_code 0 = .ok (.aload_n 0, 1) := by decide +kernel
theorem dc_RD_open_1 : decode prog_7_method_9_code 1 = .ok (.getfield 18, 3) := by decide +kernel
theorem dc_RD_open_4 : decode prog_7_method_9_code 4 = .ok (.aload_n 0, 1) := by decide +kernel
theorem dc_RD_open_5 : decode prog_7_method_9_code 5 = .ok (.getfield 22, 3) := by decide +kernel
theorem dc_RD_open_8 : decode prog_7_method_9_code 8 = .ok (.iaload, 1) := by decide +kernel
theorem dc_RD_open_9 : decode prog_7_method_9_code 9 = .ok (.istore_n 2, 1) := by decide +kernel
theorem dc_RD_open_10 : decode prog_7_method_9_code 10 = .ok (.aload_n 0, 1) := by decide +kernel
theorem dc_RD_open_11 : decode prog_7_method_9_code 11 = .ok (.getfield 29, 3) := by decide +kernel
theorem dc_RD_open_14 : decode prog_7_method_9_code 14 = .ok (.ifCond .eq 43, 3) := by decide +kernel
theorem dc_RD_open_17 : decode prog_7_method_9_code 17 = .ok (.aload_n 0, 1) := by decide +kernel
theorem dc_RD_open_18 : decode prog_7_method_9_code 18 = .ok (.getfield 22, 3) := by decide +kernel
theorem dc_RD_open_21 : decode prog_7_method_9_code 21 = .ok (.iconst 1, 1) := by decide +kernel
theorem dc_RD_open_22 : decode prog_7_method_9_code 22 = .ok (.iadd, 1) := by decide +kernel
theorem dc_RD_open_23 : decode prog_7_method_9_code 23 = .ok (.aload_n 0, 1) := by decide +kernel
theorem dc_RD_open_24 : decode prog_7_method_9_code 24 = .ok (.getfield 18, 3) := by decide +kernel
theorem dc_RD_open_27 : decode prog_7_method_9_code 27 = .ok (.arraylength, 1) := by decide +kernel
theorem dc_RD_open_28 : decode prog_7_method_9_code 28 = .ok (.if_icmp .ge 29, 3) := by decide +kernel
theorem dc_RD_open_31 : decode prog_7_method_9_code 31 = .ok (.iload_n 2, 1) := by decide +kernel
theorem dc_RD_open_32 : decode prog_7_method_9_code 32 = .ok (.aload_n 0, 1) := by decide +kernel
theorem dc_RD_open_33 : decode prog_7_method_9_code 33 = .ok (.getfield 26, 3) := by decide +kernel
theorem dc_RD_open_36 : decode prog_7_method_9_code 36 = .ok (.isub, 1) := by decide +kernel
theorem dc_RD_open_37 : decode prog_7_method_9_code 37 = .ok (.iconst 2, 1) := by decide +kernel
theorem dc_RD_open_38 : decode prog_7_method_9_code 38 = .ok (.if_icmp .lt 19, 3) := by decide +kernel
theorem dc_RD_open_41 : decode prog_7_method_9_code 41 = .ok (.aload_n 0, 1) := by decide +kernel
theorem dc_RD_open_42 : decode prog_7_method_9_code 42 = .ok (.getfield 12, 3) := by decide +kernel
theorem dc_RD_open_45 : decode prog_7_method_9_code 45 = .ok (.getfield 40, 3) := by decide +kernel
theorem dc_RD_open_48 : decode prog_7_method_9_code 48 = .ok (.aload_n 0, 1) := by decide +kernel
theorem dc_RD_open_49 : decode prog_7_method_9_code 49 = .ok (.getfield 26, 3) := by decide +kernel
theorem dc_RD_open_52 : decode prog_7_method_9_code 52 = .ok (.iaload, 1) := by decide +kernel
theorem dc_RD_open_53 : decode prog_7_method_9_code 53 = .ok (.iload_n 1, 1) := by decide +kernel
theorem dc_RD_open_54 : decode prog_7_method_9_code 54 = .ok (.if_icmp .eq 9, 3) := by decide +kernel
theorem dc_RD_open_57 : decode prog_7_method_9_code 57 = .ok (.aload_n 0, 1) := by decide +kernel
theorem dc_RD_open_58 : decode prog_7_method_9_code 58 = .ok (.iconst 0, 1) := by decide +kernel
theorem dc_RD_open_59 : decode prog_7_method_9_code 59 = .ok (.putfield 29, 3) := by decide +kernel
theorem dc_RD_open_62 : decode prog_7_method_9_code 62 = .ok (.return_, 1) := by decide +kernel
theorem dc_RD_open_63 : decode prog_7_method_9_code 63 = .ok (.aload_n 0, 1) := by decide +kernel
theorem dc_RD_open_64 : decode prog_7_method_9_code 64 = .ok (.getfield 12, 3) := by decide +kernel
theorem dc_RD_open_67 : decode prog_7_method_9_code 67 = .ok (.getfield 40, 3) := by decide +kernel
theorem dc_RD_open_70 : decode prog_7_method_9_code 70 = .ok (.aload_n 0, 1) := by decide +kernel
theorem dc_RD_open_71 : decode prog_7_method_9_code 71 = .ok (.getfield 26, 3) := by decide +kernel
theorem dc_RD_open_74 : decode prog_7_method_9_code 74 = .ok (.iconst 1, 1) := by decide +kernel
theorem dc_RD_open_75 : decode prog_7_method_9_code 75 = .ok (.iadd, 1) := by decide +kernel
theorem dc_RD_open_76 : decode prog_7_method_9_code 76 = .ok (.iaload, 1) := by decide +kernel
theorem dc_RD_open_77 : decode prog_7_method_9_code 77 = .ok (.istore_n 3, 1) := by decide +kernel
theorem dc_RD_open_78 : decode prog_7_method_9_code 78 = .ok (.aload_n 0, 1) := by decide +kernel
theorem dc_RD_open_79 : decode prog_7_method_9_code 79 = .ok (.getfield 26, 3) := by decide +kernel
theorem dc_RD_open_82 : decode prog_7_method_9_code 82 = .ok (.iconst 2, 1) := by decide +kernel
theorem dc_RD_open_83 : decode prog_7_method_9_code 83 = .ok (.iadd, 1) := by decide +kernel
theorem dc_RD_open_84 : decode prog_7_method_9_code 84 = .ok (.istore 4, 2) := by decide +kernel
theorem dc_RD_open_86 : decode prog_7_method_9_code 86 = .ok (.iload_n 3, 1) := by decide +kernel
theorem dc_RD_open_87 : decode prog_7_method_9_code 87 = .ok (.bipush 127, 2) := by decide +kernel
theorem dc_RD_open_89 : decode prog_7_method_9_code 89 = .ok (.if_icmp .le 51, 3) := by decide +kernel
theorem dc_RD_open_92 : decode prog_7_method_9_code 92 = .ok (.iload_n 3, 1) := by decide +kernel
theorem dc_RD_open_93 : decode prog_7_method_9_code 93 = .ok (.sipush 129, 3) := by decide +kernel
theorem dc_RD_open_96 : decode prog_7_method_9_code 96 = .ok (.if_icmp .ne 24, 3) := by decide +kernel
theorem dc_RD_open_99 : decode prog_7_method_9_code 99 = .ok (.iload 4, 2) := by decide +kernel
theorem dc_RD_open_101 : decode prog_7_method_9_code 101 = .ok (.iload_n 2, 1) := by decide +kernel
theorem dc_RD_open_102 : decode prog_7_method_9_code 102 = .ok (.if_icmp .ge 18, 3) := by decide +kernel
theorem dc_RD_open_105 : decode prog_7_method_9_code 105 = .ok (.aload_n 0, 1) := by decide +kernel
theorem dc_RD_open_106 : decode prog_7_method_9_code 106 = .ok (.getfield 12, 3) := by decide +kernel
theorem dc_RD_open_109 : decode prog_7_method_9_code 109 = .ok (.getfield 40, 3) := by decide +kernel
theorem dc_RD_open_112 : decode prog_7_method_9_code 112 = .ok (.iload 4, 2) := by decide +kernel
theorem dc_RD_open_114 : decode prog_7_method_9_code 114 = .ok (.iaload, 1) := by decide +kernel
theorem dc_RD_open_115 : decode prog_7_method_9_code 115 = .ok (.bipush 127, 2) := by decide +kernel
theorem dc_RD_open_117 : decode prog_7_method_9_code 117 = .ok (.if_icmp .gt 9, 3) := by decide +kernel
theorem dc_RD_open_120 : decode prog_7_method_9_code 120 = .ok (.aload_n 0, 1) := by decide +kernel
theorem dc_RD_open_121 : decode prog_7_method_9_code 121 = .ok (.iconst 0, 1) := by decide +kernel
theorem dc_RD_open_122 : decode prog_7_method_9_code 122 = .ok (.putfield 29, 3) := by decide +kernel
theorem dc_RD_open_125 : decode prog_7_method_9_code 125 = .ok (.return_, 1) := by decide +kernel
theorem dc_RD_open_126 : decode prog_7_method_9_code 126 = .ok (.aload_n 0, 1) := by decide +kernel
theorem dc_RD_open_127 : decode prog_7_method_9_code 127 = .ok (.getfield 12, 3) := by decide +kernel
theorem dc_RD_open_130 : decode prog_7_method_9_code 130 = .ok (.getfield 40, 3) := by decide +kernel
theorem dc_RD_open_133 : decode prog_7_method_9_code 133 = .ok (.iload 4, 2) := by decide +kernel
theorem dc_RD_open_135 : decode prog_7_method_9_code 135 = .ok (.iaload, 1) := by decide +kernel
theorem dc_RD_open_136 : decode prog_7_method_9_code 136 = .ok (.istore_n 3, 1) := by decide +kernel
theorem dc_RD_open_137 : decode prog_7_method_9_code 137 = .ok (.iinc 4 1, 3) := by decide +kernel
theorem dc_RD_open_140 : decode prog_7_method_9_code 140 = .ok (.iload_n 3, 1) := by decide +kernel
theorem dc_RD_open_141 : decode prog_7_method_9_code 141 = .ok (.iload_n 2, 1) := by decide +kernel
theorem dc_RD_open_142 : decode prog_7_method_9_code 142 = .ok (.iload 4, 2) := by decide +kernel
theorem dc_RD_open_144 : decode prog_7_method_9_code 144 = .ok (.isub, 1) := by decide +kernel
theorem dc_RD_open_145 : decode prog_7_method_9_code 145 = .ok (.if_icmp .le 9, 3) := by decide +kernel
theorem dc_RD_open_148 : decode prog_7_method_9_code 148 = .ok (.aload_n 0, 1) := by decide +kernel
theorem dc_RD_open_149 : decode prog_7_method_9_code 149 = .ok (.iconst 0, 1) := by decide +kernel
theorem dc_RD_open_150 : decode prog_7_method_9_code 150 = .ok (.putfield 29, 3) := by decide +kernel
theorem dc_RD_open_153 : decode prog_7_method_9_code 153 = .ok (.return_, 1) := by decide +kernel
theorem dc_RD_open_154 : decode prog_7_method_9_code 154 = .ok (.aload_n 0, 1) := by decide +kernel
theorem dc_RD_open_155 : decode prog_7_method_9_code 155 = .ok (.iload 4, 2) := by decide +kernel
theorem dc_RD_open_157 : decode prog_7_method_9_code 157 = .ok (.putfield 26, 3) := by decide +kernel
theorem dc_RD_open_160 : decode prog_7_method_9_code 160 = .ok (.aload_n 0, 1) := by decide +kernel
theorem dc_RD_open_161 : decode prog_7_method_9_code 161 = .ok (.dup, 1) := by decide +kernel
theorem dc_RD_open_162 : decode prog_7_method_9_code 162 = .ok (.getfield 22, 3) := by decide +kernel
theorem dc_RD_open_165 : decode prog_7_method_9_code 165 = .ok (.iconst 1, 1) := by decide +kernel
theorem dc_RD_open_166 : decode prog_7_method_9_code 166 = .ok (.iadd, 1) := by decide +kernel
theorem dc_RD_open_167 : decode prog_7_method_9_code 167 = .ok (.putfield 22, 3) := by decide +kernel
theorem dc_RD_open_170 : decode prog_7_method_9_code 170 = .ok (.aload_n 0, 1) := by decide +kernel
theorem dc_RD_open_171 : decode prog_7_method_9_code 171 = .ok (.getfield 18, 3) := by decide +kernel
theorem dc_RD_open_174 : decode prog_7_method_9_code 174 = .ok (.aload_n 0, 1) := by decide +kernel
theorem dc_RD_open_175 : decode prog_7_method_9_code 175 = .ok (.getfield 22, 3) := by decide +kernel
theorem dc_RD_open_178 : decode prog_7_method_9_code 178 = .ok (.iload 4, 2) := by decide +kernel
theorem dc_RD_open_180 : decode prog_7_method_9_code 180 = .ok (.iload_n 3, 1) := by decide +kernel
theorem dc_RD_open_181 : decode prog_7_method_9_code 181 = .ok (.iadd, 1) := by decide +kernel
theorem dc_RD_open_182 : decode prog_7_method_9_code 182 = .ok (.iastore, 1) := by decide +kernel
theorem dc_RD_open_183 : decode prog_7_method_9_code 183 = .ok (.return_, 1) := by decide +kernel
theorem dc_RD_close_0 : decode prog_7_method_10_code 0 = .ok (.aload_n 0, 1) := by decide +kernel
theorem dc_RD_close_1 : decode prog_7_method_10_code 1 = .ok (.getfield 29, 3) := by decide +kernel
theorem dc_RD_close_4 : decode prog_7_method_10_code 4 = .ok (.ifCond .eq 26, 3) := by decide +kernel
theorem dc_RD_close_7 : decode prog_7_method_10_code 7 = .ok (.aload_n 0, 1) := by decide +kernel
theorem dc_RD_close_8 : decode prog_7_method_10_code 8 = .ok (.getfield 22, 3) := by decide +kernel
theorem dc_RD_close_11 : decode prog_7_method_10_code 11 = .ok (.ifCond .eq 19, 3) := by decide +kernel
theorem dc_RD_close_14 : decode prog_7_method_10_code 14 = .ok (.aload_n 0, 1) := by decide +kernel
theorem dc_RD_close_15 : decode prog_7_method_10_code 15 = .ok (.getfield 26, 3) := by decide +kernel
theorem dc_RD_close_18 : decode prog_7_method_10_code 18 = .ok (.aload_n 0, 1) := by decide +kernel
theorem dc_RD_close_19 : decode prog_7_method_10_code 19 = .ok (.getfield 18, 3) := by decide +kernel
theorem dc_RD_close_22 : decode prog_7_method_10_code 22 = .ok (.aload_n 0, 1) := by decide +kernel
theorem dc_RD_close_23 : decode prog_7_method_10_code 23 = .ok (.getfield 22, 3) := by decide +kernel
theorem dc_RD_close_26 : decode prog_7_method_10_code 26 = .ok (.iaload, 1) := by decide +kernel
theorem dc_RD_close_27 : decode prog_7_method_10_code 27 = .ok (.if_icmp .eq 9, 3) := by decide +kernel
theorem dc_RD_close_30 : decode prog_7_method_10_code 30 = .ok (.aload_n 0, 1) := by decide +kernel
theorem dc_RD_close_31 : decode prog_7_method_10_code 31 = .ok (.iconst 0, 1) := by decide +kernel
theorem dc_RD_close_32 : decode prog_7_method_10_code 32 = .ok (.putfield 29, 3) := by decide +kernel
theorem dc_RD_close_35 : decode prog_7_method_10_code 35 = .ok (.return_, 1) := by decide +kernel
theorem dc_RD_close_36 : decode prog_7_method_10_code 36 = .ok (.aload_n 0, 1) := by decide +kernel
theorem dc_RD_close_37 : decode prog_7_method_10_code 37 = .ok (.dup, 1) := by decide +kernel
theorem dc_RD_close_38 : decode prog_7_method_10_code 38 = .ok (.getfield 22, 3) := by decide +kernel
theorem dc_RD_close_41 : decode prog_7_method_10_code 41 = .ok (.iconst 1, 1) := by decide +kernel
theorem dc_RD_close_42 : decode prog_7_method_10_code 42 = .ok (.isub, 1) := by decide +kernel
theorem dc_RD_close_43 : decode prog_7_method_10_code 43 = .ok (.putfield 22, 3) := by decide +kernel
theorem dc_RD_close_46 : decode prog_7_method_10_code 46 = .ok (.return_, 1) := by decide +kernel
theorem dc_RD_readInteger_0 : decode prog_7_method_11_code 0 = .ok (.aload_n 0, 1) := by decide +kernel
theorem dc_RD_readInteger_1 : decode prog_7_method_11_code 1 = .ok (.iconst 2, 1) := by decide +kernel
theorem dc_RD_readInteger_2 : decode prog_7_method_11_code 2 = .ok (.invokevirtual 43, 3) := by decide +kernel
theorem dc_RD_readInteger_5 : decode prog_7_method_11_code 5 = .ok (.aload_n 0, 1) := by decide +kernel
theorem dc_RD_readInteger_6 : decode prog_7_method_11_code 6 = .ok (.invokevirtual 47, 3) := by decide +kernel
theorem dc_RD_readInteger_9 : decode prog_7_method_11_code 9 = .ok (.istore_n 3, 1) := by decide +kernel
theorem dc_RD_readInteger_10 : decode prog_7_method_11_code 10 = .ok (.iload_n 3, 1) := by decide +kernel
theorem dc_RD_readInteger_11 : decode prog_7_method_11_code 11 = .ok (.iconst 1, 1) := by decide +kernel
theorem dc_RD_readInteger_12 : decode prog_7_method_11_code 12 = .ok (.if_icmp .lt 8, 3) := by decide +kernel
theorem dc_RD_readInteger_15 : decode prog_7_method_11_code 15 = .ok (.iload_n 3, 1) := by decide +kernel
theorem dc_RD_readInteger_16 : decode prog_7_method_11_code 16 = .ok (.iconst 4, 1) := by decide +kernel
theorem dc_RD_readInteger_17 : decode prog_7_method_11_code 17 = .ok (.if_icmp .le 9, 3) := by decide +kernel
theorem dc_RD_readInteger_20 : decode prog_7_method_11_code 20 = .ok (.aload_n 0, 1) := by decide +kernel
theorem dc_RD_readInteger_21 : decode prog_7_method_11_code 21 = .ok (.invokevirtual 51, 3) := by decide +kernel
theorem dc_RD_readInteger_24 : decode prog_7_method_11_code 24 = .ok (.iload_n 1, 1) := by decide +kernel
theorem dc_RD_readInteger_25 : decode prog_7_method_11_code 25 = .ok (.ireturn, 1) := by decide +kernel
theorem dc_RD_readInteger_26 : decode prog_7_method_11_code 26 = .ok (.aload_n 0, 1) := by decide +kernel
theorem dc_RD_readInteger_27 : decode prog_7_method_11_code 27 = .ok (.invokevirtual 54, 3) := by decide +kernel
theorem dc_RD_readInteger_30 : decode prog_7_method_11_code 30 = .ok (.istore 4, 2) := by decide +kernel
theorem dc_RD_readInteger_32 : decode prog_7_method_11_code 32 = .ok (.iload 4, 2) := by decide +kernel
theorem dc_RD_readInteger_34 : decode prog_7_method_11_code 34 = .ok (.istore 5, 2) := by decide +kernel
theorem dc_RD_readInteger_36 : decode prog_7_method_11_code 36 = .ok (.iconst 1, 1) := by decide +kernel
theorem dc_RD_readInteger_37 : decode prog_7_method_11_code 37 = .ok (.istore 6, 2) := by decide +kernel
theorem dc_RD_readInteger_39 : decode prog_7_method_11_code 39 = .ok (.iload 6, 2) := by decide +kernel
theorem dc_RD_readInteger_41 : decode prog_7_method_11_code 41 = .ok (.iload_n 3, 1) := by decide +kernel
theorem dc_RD_readInteger_42 : decode prog_7_method_11_code 42 = .ok (.if_icmp .ge 48, 3) := by decide +kernel
theorem dc_RD_readInteger_45 : decode prog_7_method_11_code 45 = .ok (.aload_n 0, 1) := by decide +kernel
theorem dc_RD_readInteger_46 : decode prog_7_method_11_code 46 = .ok (.invokevirtual 54, 3) := by decide +kernel
theorem dc_RD_readInteger_49 : decode prog_7_method_11_code 49 = .ok (.istore 7, 2) := by decide +kernel
theorem dc_RD_readInteger_51 : decode prog_7_method_11_code 51 = .ok (.iload 6, 2) := by decide +kernel
theorem dc_RD_readInteger_53 : decode prog_7_method_11_code 53 = .ok (.iconst 1, 1) := by decide +kernel
theorem dc_RD_readInteger_54 : decode prog_7_method_11_code 54 = .ok (.if_icmp .ne 20, 3) := by decide +kernel
theorem dc_RD_readInteger_57 : decode prog_7_method_11_code 57 = .ok (.iload 4, 2) := by decide +kernel
theorem dc_RD_readInteger_59 : decode prog_7_method_11_code 59 = .ok (.ifCond .ne 15, 3) := by decide +kernel
theorem dc_RD_readInteger_62 : decode prog_7_method_11_code 62 = .ok (.iload 7, 2) := by decide +kernel
theorem dc_RD_readInteger_64 : decode prog_7_method_11_code 64 = .ok (.sipush 128, 3) := by decide +kernel
theorem dc_RD_readInteger_67 : decode prog_7_method_11_code 67 = .ok (.if_icmp .ge 7, 3) := by decide +kernel
theorem dc_RD_readInteger_70 : decode prog_7_method_11_code 70 = .ok (.aload_n 0, 1) := by decide +kernel
theorem dc_RD_readInteger_71 : decode prog_7_method_11_code 71 = .ok (.invokevirtual 51, 3) := by decide +kernel
theorem dc_RD_readInteger_74 : decode prog_7_method_11_code 74 = .ok (.iload 5, 2) := by decide +kernel
theorem dc_RD_readInteger_76 : decode prog_7_method_11_code 76 = .ok (.bipush 8, 2) := by decide +kernel
theorem dc_RD_readInteger_78 : decode prog_7_method_11_code 78 = .ok (.ishl, 1) := by decide +kernel
theorem dc_RD_readInteger_79 : decode prog_7_method_11_code 79 = .ok (.iload 7, 2) := by decide +kernel
theorem dc_RD_readInteger_81 : decode prog_7_method_11_code 81 = .ok (.ior, 1) := by decide +kernel
theorem dc_RD_readInteger_82 : decode prog_7_method_11_code 82 = .ok (.istore 5, 2) := by decide +kernel
theorem dc_RD_readInteger_84 : decode prog_7_method_11_code 84 = .ok (.iinc 6 1, 3) := by decide +kernel
theorem dc_RD_readInteger_87 : decode prog_7_method_11_code 87 = .ok (.goto (-48), 3) := by decide +kernel
theorem dc_RD_readInteger_90 : decode prog_7_method_11_code 90 = .ok (.aload_n 0, 1) := by decide +kernel
theorem dc_RD_readInteger_91 : decode prog_7_method_11_code 91 = .ok (.invokevirtual 57, 3) := by decide +kernel
theorem dc_RD_readInteger_94 : decode prog_7_method_11_code 94 = .ok (.iload 4, 2) := by decide +kernel
theorem dc_RD_readInteger_96 : decode prog_7_method_11_code 96 = .ok (.bipush 127, 2) := by decide +kernel
theorem dc_RD_readInteger_98 : decode prog_7_method_11_code 98 = .ok (.if_icmp .gt 15, 3) := by decide +kernel
theorem dc_RD_readInteger_101 : decode prog_7_method_11_code 101 = .ok (.iload 5, 2) := by decide +kernel
theorem dc_RD_readInteger_103 : decode prog_7_method_11_code 103 = .ok (.iload_n 1, 1) := by decide +kernel
theorem dc_RD_readInteger_104 : decode prog_7_method_11_code 104 = .ok (.if_icmp .lt 9, 3) := by decide +kernel
theorem dc_RD_readInteger_107 : decode prog_7_method_11_code 107 = .ok (.iload 5, 2) := by decide +kernel
theorem dc_RD_readInteger_109 : decode prog_7_method_11_code 109 = .ok (.iload_n 2, 1) := by decide +kernel
theorem dc_RD_readInteger_110 : decode prog_7_method_11_code 110 = .ok (.if_icmp .le 9, 3) := by decide +kernel
theorem dc_RD_readInteger_113 : decode prog_7_method_11_code 113 = .ok (.aload_n 0, 1) := by decide +kernel
theorem dc_RD_readInteger_114 : decode prog_7_method_11_code 114 = .ok (.invokevirtual 51, 3) := by decide +kernel
theorem dc_RD_readInteger_117 : decode prog_7_method_11_code 117 = .ok (.iload_n 1, 1) := by decide +kernel
theorem dc_RD_readInteger_118 : decode prog_7_method_11_code 118 = .ok (.ireturn, 1) := by decide +kernel
theorem dc_RD_readInteger_119 : decode prog_7_method_11_code 119 = .ok (.iload 5, 2) := by decide +kernel
theorem dc_RD_readInteger_121 : decode prog_7_method_11_code 121 = .ok (.ireturn, 1) := by decide +kernel
theorem dc_RD_readTrueIfThere_0 : decode prog_7_method_12_code 0 = .ok (.aload_n 0, 1) := by decide +kernel
theorem dc_RD_readTrueIfThere_1 : decode prog_7_method_12_code 1 = .ok (.iconst 1, 1) := by decide +kernel
theorem dc_RD_readTrueIfThere_2 : decode prog_7_method_12_code 2 = .ok (.invokevirtual 60, 3) := by decide +kernel
theorem dc_RD_readTrueIfThere_5 : decode prog_7_method_12_code 5 = .ok (.ifCond .ne 5, 3) := by decide +kernel
theorem dc_RD_readTrueIfThere_8 : decode prog_7_method_12_code 8 = .ok (.iconst 0, 1) := by decide +kernel
theorem dc_RD_readTrueIfThere_9 : decode prog_7_method_12_code 9 = .ok (.ireturn, 1) := by decide +kernel
theorem dc_RD_readTrueIfThere_10 : decode prog_7_method_12_code 10 = .ok (.aload_n 0, 1) := by decide +kernel
theorem dc_RD_readTrueIfThere_11 : decode prog_7_method_12_code 11 = .ok (.iconst 1, 1) := by decide +kernel
theorem dc_RD_readTrueIfThere_12 : decode prog_7_method_12_code 12 = .ok (.invokevirtual 43, 3) := by decide +kernel
theorem dc_RD_readTrueIfThere_15 : decode prog_7_method_12_code 15 = .ok (.aload_n 0, 1) := by decide +kernel
theorem dc_RD_readTrueIfThere_16 : decode prog_7_method_12_code 16 = .ok (.invokevirtual 54, 3) := by decide +kernel
theorem dc_RD_readTrueIfThere_19 : decode prog_7_method_12_code 19 = .ok (.sipush 255, 3) := by decide +kernel
theorem dc_RD_readTrueIfThere_22 : decode prog_7_method_12_code 22 = .ok (.if_icmp .eq 7, 3) := by decide +kernel
theorem dc_RD_readTrueIfThere_25 : decode prog_7_method_12_code 25 = .ok (.aload_n 0, 1) := by decide +kernel
theorem dc_RD_readTrueIfThere_26 : decode prog_7_method_12_code 26 = .ok (.invokevirtual 51, 3) := by decide +kernel
theorem dc_RD_readTrueIfThere_29 : decode prog_7_method_12_code 29 = .ok (.aload_n 0, 1) := by decide +kernel
theorem dc_RD_readTrueIfThere_30 : decode prog_7_method_12_code 30 = .ok (.invokevirtual 57, 3) := by decide +kernel
theorem dc_RD_readTrueIfThere_33 : decode prog_7_method_12_code 33 = .ok (.iconst 1, 1) := by decide +kernel
theorem dc_RD_readTrueIfThere_34 : decode prog_7_method_12_code 34 = .ok (.ireturn, 1) := by decide +kernel
end
section
/-! What the document calls an encoding, as functions of the bytes b, a place i and a limit: none where the bytes are wrong. -/
abbrev ps_N : Type := List (List Nat)
def ps_sl (b : Nat → Nat) (f g : Nat) : List Nat := (List.range (g - f)).map (fun j => b (f + j))
def ps_hd (b : Nat → Nat) (tag i lim : Nat) : Option (Nat × Nat) :=
  if i + 2 ≤ lim ∧ b i = tag then
    if b (i + 1) ≤ 127 then
      if i + 2 + b (i + 1) ≤ lim then some (i + 2, i + 2 + b (i + 1)) else none
    else if b (i + 1) = 129 ∧ i + 3 ≤ lim ∧ 128 ≤ b (i + 2) then
      if i + 3 + b (i + 2) ≤ lim then some (i + 3, i + 3 + b (i + 2)) else none
    else none
  else none
def ps_be (b : Nat → Nat) (f : Nat) : Nat → Nat
  | 0 => 0
  | n + 1 => 256 * ps_be b f n + b (f + n)
def ps_int (b : Nat → Nat) (i lim : Nat) : Option (Nat × Nat) :=
  match ps_hd b 2 i lim with
  | none => none
  | some (f, e) => if 1 ≤ e - f ∧ e - f ≤ 4 ∧ b f ≤ 127 ∧ ¬ (1 < e - f ∧ b f = 0 ∧ b (f + 1) < 128) then some (ps_be b f (e - f), e) else none
/-- perhaps TRUE -/
def ps_tru (b : Nat → Nat) (i lim : Nat) : Option (Bool × Nat) :=
  if i < lim ∧ b i = 1 then
    match ps_hd b 1 i lim with
    | none => none
    | some (f, e) => if e = f + 1 ∧ b f = 255 then some (true, e) else none
  else some (false, i)
def ps_abc (l : List Nat) : Bool := l.all (fun x => decide (97 ≤ x) && decide (x ≤ 122))
def ps_label (b : Nat → Nat) (i lim : Nat) : Option (List Nat × Nat) :=
  match ps_hd b 19 i lim with
  | none => none
  | some (f, g) => if 1 ≤ g - f ∧ g - f ≤ 8 ∧ ps_abc (ps_sl b f g) = true then some (ps_sl b f g, g) else none
/-- labels up to e, at most so many -/
def ps_labels (b : Nat → Nat) (e : Nat) : Nat → Nat → Option ps_N
  | 0, i => if i = e then some [] else none
  | n + 1, i =>
    if i = e then some [] else
    match ps_label b i e with
    | none => none
    | some (x, j) => match ps_labels b e n j with
      | none => none
      | some l => some (x :: l)
def ps_name (b : Nat → Nat) (i lim : Nat) : Option (ps_N × Nat) :=
  match ps_hd b 48 i lim with
  | none => none
  | some (f, e) => match ps_labels b e 4 f with
    | none => none
    | some l => some (l, e)
/-- names up to e, at most so many -/
def ps_names (b : Nat → Nat) (e : Nat) : Nat → Nat → Option (List ps_N)
  | 0, i => if i = e then some [] else none
  | n + 1, i =>
    if i = e then some [] else
    match ps_name b i e with
    | none => none
    | some (x, j) => match ps_names b e n j with
      | none => none
      | some l => some (x :: l)
/-- perhaps a list of 1 to 3 names -/
def ps_list (b : Nat → Nat) (tag i lim : Nat) : Option (List ps_N × Nat) :=
  if i < lim ∧ b i = tag then
    match ps_hd b tag i lim with
    | none => none
    | some (f, e) => if f = e then none else match ps_names b e 3 f with
      | none => none
      | some l => some (l, e)
  else some ([], i)
def ps_bounds (b : Nat → Nat) (i lim : Nat) : Option ((List ps_N × List ps_N) × Nat) :=
  match ps_hd b 48 i lim with
  | none => none
  | some (f, e) => match ps_list b 160 f e with
    | none => none
    | some (p, j) => match ps_list b 161 j e with
      | none => none
      | some (x, k) => if k = e ∧ ¬ (p = [] ∧ x = []) then some ((p, x), e) else none
/-- how many bits lie behind the lowest one set, of the bits from k on; n bits are looked at -/
def ps_tz (x : Nat) : Nat → Nat → Nat
  | 0, k => k
  | n + 1, k => if x / 2 ^ k % 2 = 0 then ps_tz x n (k + 1) else k
/-- the lowest n bits, read backwards -/
def ps_mir (x : Nat) : Nat → Nat
  | 0 => 0
  | n + 1 => 2 * ps_mir x n + x / 2 ^ n % 2
def ps_bits (b : Nat → Nat) (i lim : Nat) : Option (Nat × Nat) :=
  match ps_hd b 3 i lim with
  | none => none
  | some (f, e) =>
    if e = f + 1 ∧ b f = 0 then some (0, e)
    else if e = f + 2 ∧ b (f + 1) ≠ 0 ∧ b f = ps_tz (b (f + 1)) 8 0 then some (b (f + 1), e)
    else none
def ps_basic (b : Nat → Nat) (i lim : Nat) : Option ((Bool × Option Nat) × Nat) :=
  match ps_hd b 48 i lim with
  | none => none
  | some (f, e) => match ps_tru b f e with
    | none => none
    | some (t, j) =>
      if t = true ∧ j < e then
        match ps_int b j e with
        | none => none
        | some (v, k) => if k = e then some ((true, some v), e) else none
      else if j = e then some ((t, none), e) else none
/-- what the extensions say: number, critical, octets of each; authority, reach, the byte of the usage, names permitted, names excluded -/
abbrev ps_E : Type := List (Nat × Bool × List Nat) × Bool × Option Nat × Option Nat × List ps_N × List ps_N
def ps_E0 : ps_E := ([], false, none, none, [], [])
/-- the content of the octets of an extension -/
def ps_octets (b : Nat → Nat) (num : Nat) (c : Bool) (g h : Nat) (E : ps_E) : Option ps_E :=
  if num = 1 then
    match ps_basic b g h with
    | none => none
    | some ((t, r), k) => if k = h then some (E.1 ++ [(num, c, [])], t, r, E.2.2.2) else none
  else if num = 2 then
    match ps_bits b g h with
    | none => none
    | some (u, k) => if k = h then some (E.1 ++ [(num, c, [])], E.2.1, E.2.2.1, some u, E.2.2.2.2) else none
  else if num = 3 then
    match ps_bounds b g h with
    | none => none
    | some ((p, x), k) => if k = h then some (E.1 ++ [(num, c, [])], E.2.1, E.2.2.1, E.2.2.2.1, p, x) else none
  else if h - g ≤ 20 then some (E.1 ++ [(num, c, ps_sl b g h)], E.2) else none
def ps_ext (b : Nat → Nat) (i lim : Nat) (E : ps_E) : Option (ps_E × Nat) :=
  match ps_hd b 48 i lim with
  | none => none
  | some (f, e) => match ps_int b f e with
    | none => none
    | some (num, j) =>
      if 255 < num ∨ (E.1.any (fun x => x.1 == num)) = true then none else
      match ps_tru b j e with
      | none => none
      | some (c, k) => match ps_hd b 4 k e with
        | none => none
        | some (g, h) => match ps_octets b num c g h E with
          | none => none
          | some E' => if h = e then some (E', e) else none
/-- extensions up to e, at most so many -/
def ps_exts (b : Nat → Nat) (e : Nat) : Nat → Nat → ps_E → Option ps_E
  | 0, i, E => if i = e then some E else none
  | n + 1, i, E =>
    if i = e then some E else
    match ps_ext b i e E with
    | none => none
    | some (E', j) => ps_exts b e n j E'
/-- perhaps a FOURTH -/
def ps_more (b : Nat → Nat) (i lim : Nat) : Option (ps_E × Nat) :=
  if i < lim then
    match ps_hd b 163 i lim with
    | none => none
    | some (f, e) => match ps_hd b 48 f e with
      | none => none
      | some (g, h) => if g = h then none else match ps_exts b h 4 g ps_E0 with
        | none => none
        | some E => if h = e then some (E, e) else none
  else some (ps_E0, i)
/-- two INTEGERs in a SEQUENCE -/
def ps_two (b : Nat → Nat) (i lim : Nat) : Option ((Nat × Nat) × Nat) :=
  match ps_hd b 48 i lim with
  | none => none
  | some (f, e) => match ps_int b f e with
    | none => none
    | some (x, j) => match ps_int b j e with
      | none => none
      | some (y, k) => if k = e then some ((x, y), e) else none
/-- serial, issuer, (from, to), subject, (modulus, exponent) -/
abbrev ps_H : Type := Nat × ps_N × (Nat × Nat) × ps_N × (Nat × Nat)
def ps_head (b : Nat → Nat) (i lim : Nat) : Option (ps_H × Nat) :=
  match ps_int b i lim with
  | none => none
  | some (se, j) => match ps_name b j lim with
    | none => none
    | some (is, k) => match ps_two b k lim with
      | none => none
      | some (ft, m) => match ps_name b m lim with
        | none => none
        | some (su, n) => match ps_two b n lim with
          | none => none
          | some (me, o) => if 2 ≤ me.1 ∧ 1 ≤ me.2 ∧ me.2 ≤ 1000 then some ((se, is, ft, su, me), o) else none
/-- head, extensions, signature, the body's bytes from .. to -/
abbrev ps_C : Type := ps_H × ps_E × Nat × Nat × Nat
def ps_cert (b : Nat → Nat) (i lim : Nat) : Option ps_C :=
  match ps_hd b 48 i lim with
  | none => none
  | some (f, e) => match ps_hd b 48 f e with
    | none => none
    | some (g, h) => match ps_head b g h with
      | none => none
      | some (H, j) => match ps_more b j h with
        | none => none
        | some (E, k) => if k = h then
            match ps_int b h e with
            | none => none
            | some (sg, m) => if m = e ∧ e = lim then some (H, E, sg, f, h) else none
          else none
def ps_hash (b : Nat → Nat) (f : Nat) : Nat → Nat
  | 0 => 0
  | n + 1 => (263 * ps_hash b f n + b (f + n) + 1) % 1000003
theorem ps_hash_lt (b : Nat → Nat) (f n : Nat) : ps_hash b f n < 1000003 := by
  cases n with
  | zero => simp [ps_hash]
  | succ n => exact Nat.mod_lt _ (by decide)
theorem ps_hd_some {b : Nat → Nat} {tag i lim f e : Nat} (h : ps_hd b tag i lim = some (f, e)) : i + 2 ≤ f ∧ f ≤ i + 3 ∧ f ≤ e ∧ e ≤ lim ∧ b i = tag ∧ i < lim := by
  unfold ps_hd at h
  repeat' split at h
  all_goals first
    | (cases h; done)
    | (simp only [Option.some.injEq, Prod.mk.injEq] at h; omega)
end
section
/-! The reader: none after a fault, else the place and the limits of what is open, the innermost first -/
abbrev rd_S : Type := Option (Nat × List Nat)
def rd_lims (f : Nat → Nat) : Nat → List Nat
  | 0 => [f 0]
  | d + 1 => f (d + 1) :: rd_lims f d
def rd_of (M : xm_M) : rd_S := if M 1 4 = 1 then some (M 1 3, rd_lims (M 4) (M 1 2)) else none
/-- the reader's numbers are in their bounds -/
def rd_I (M : xm_M) : Prop := M 2 1 ≤ 160 ∧ (∀ j, j < 160 → M 3 j < 256) ∧ M 1 2 ≤ 10 ∧ M 1 3 ≤ M 2 1 ∧ M 1 4 ≤ 1 ∧ (∀ j, j ≤ M 1 2 → M 4 j ≤ M 2 1) ∧ (M 1 4 = 1 → M 1 3 ≤ M 4 (M 1 2) ∧ ∀ j, j < M 1 2 → M 4 (j + 1) ≤ M 4 j)
/-- only the reader's own cells are other ones -/
def rd_F (M M' : xm_M) : Prop := ∀ q, q ≠ 1 → q ≠ 4 → M' q = M q
theorem rd_F.rf (M : xm_M) : rd_F M M := fun _ _ _ => rfl
theorem rd_F.tr {A B C : xm_M} (h : rd_F A B) (g : rd_F B C) : rd_F A C := fun q h1 h2 => (g q h1 h2).trans (h q h1 h2)
def rd_open (b : Nat → Nat) (tag : Nat) : rd_S → rd_S
  | some (i, l :: ls) => if ls.length < 10 then (match ps_hd b tag i l with
    | some (f, e) => some (f, e :: l :: ls)
    | none => none) else none
  | _ => none
def rd_close : rd_S → rd_S
  | some (i, l :: m :: ls) => if i = l then some (i, m :: ls) else none
  | _ => none
def rd_rem : rd_S → Nat
  | some (i, l :: _) => l - i
  | _ => 0
def rd_is (b : Nat → Nat) (tag : Nat) : rd_S → Bool
  | some (i, l :: _) => decide (i < l) && decide (b i = tag)
  | _ => false
def rd_byte (b : Nat → Nat) : rd_S → Nat
  | some (i, l :: _) => if i < l then b i else 0
  | _ => 0
def rd_next : rd_S → rd_S
  | some (i, l :: ls) => if i < l then some (i + 1, l :: ls) else none
  | _ => none
theorem rd_lims_eq {f g : Nat → Nat} : ∀ d, (∀ j, j ≤ d → f j = g j) → rd_lims f d = rd_lims g d
  | 0, h => by simp [rd_lims, h]
  | d + 1, h => by simp [rd_lims, h, rd_lims_eq d (fun j hj => h j (by omega))]
theorem rd_lims_len (f : Nat → Nat) : ∀ d, (rd_lims f d).length = d + 1
  | 0 => rfl
  | d + 1 => by simp [rd_lims, rd_lims_len f d]
theorem rd_lims_hd (f : Nat → Nat) : ∀ d, ∃ ls, rd_lims f d = f d :: ls ∧ ls.length = d
  | 0 => ⟨[], rfl, rfl⟩
  | d + 1 => ⟨rd_lims f d, rfl, rd_lims_len f d⟩
def rd_end : rd_S → Bool
  | some (i, [l]) => decide (i = l)
  | _ => false
/-- what a step of the reader leaves -/
def rd_Q (M M' : xm_M) (s : rd_S) : Prop := rd_I M' ∧ rd_F M M' ∧ rd_of M' = s
theorem rd_of0 {M : xm_M} (h : M 1 4 = 0) : rd_of M = none := by simp [rd_of, h]
theorem rd_of1 {M : xm_M} (h : M 1 4 = 1) : ∃ ls, ls.length = M 1 2 ∧ rd_of M = some (M 1 3, M 4 (M 1 2) :: ls) ∧ rd_lims (M 4) (M 1 2) = M 4 (M 1 2) :: ls := by
  obtain ⟨ls, h1, h2⟩ := rd_lims_hd (M 4) (M 1 2)
  exact ⟨ls, h2, by simp [rd_of, h, h1], h1⟩
theorem rd_ref {M : xm_M} (h : rd_I M) : rd_Q M (xm_set M 1 4 0) none := by
  obtain ⟨h1, h2, h3, h4, h5, h6, h7⟩ := h
  exact ⟨⟨h1, h2, h3, h4, Nat.zero_le _, h6, fun h => absurd h (show ¬ 0 = 1 by decide)⟩, fun q a b => xm_oth a, rd_of0 rfl⟩
theorem rd_opN {M : xm_M} {tag : Nat} (hI : rd_I M) (h : M 1 4 = 0 ∨ 10 ≤ M 1 2 ∨ ps_hd (M 3) tag (M 1 3) (M 4 (M 1 2)) = none) : rd_Q M (xm_set M 1 4 0) (rd_open (M 3) tag (rd_of M)) := by
  have e : rd_open (M 3) tag (rd_of M) = none := by
    by_cases hs : M 1 4 = 1
    · obtain ⟨ls, hl, hr, -⟩ := rd_of1 hs
      rw [hr]
      unfold rd_open
      rcases h with h | h | h
      · omega
      · simp only []
        rw [if_neg (by omega)]
      · simp only []
        rw [h]
        split <;> rfl
    · have : M 1 4 = 0 := by
        have := hI.2.2.2.2.1
        omega
      rw [rd_of0 this]
      rfl
  rw [e]
  exact rd_ref hI
theorem rd_opY {M : xm_M} {tag f e : Nat} (hI : rd_I M) (hs : M 1 4 = 1) (hd : M 1 2 < 10) (h : ps_hd (M 3) tag (M 1 3) (M 4 (M 1 2)) = some (f, e)) : rd_Q M (xm_set (xm_set (xm_set M 1 3 f) 1 2 (M 1 2 + 1)) 4 (M 1 2 + 1) e) (rd_open (M 3) tag (rd_of M)) := by
  obtain ⟨g1, g2, g3, g4, -⟩ := ps_hd_some h
  obtain ⟨ls, hl, hr, hm⟩ := rd_of1 hs
  have e1 : rd_open (M 3) tag (rd_of M) = some (f, e :: M 4 (M 1 2) :: ls) := by
    rw [hr]
    unfold rd_open
    simp only []
    rw [if_pos (by omega), h]
  obtain ⟨h1, h2, h3, h4, h5, h6, h7⟩ := hI
  have h6' := h6 (M 1 2) (Nat.le_refl _)
  refine ⟨⟨h1, h2, show M 1 2 + 1 ≤ 10 by omega, show f ≤ M 2 1 by omega, h5, ?_, ?_⟩, ?_, ?_⟩
  · intro j hj
    have hj : j ≤ M 1 2 + 1 := hj
    show (if j = M 1 2 + 1 then e else M 4 j) ≤ M 2 1
    split
    · omega
    · exact h6 j (by omega)
  · intro _
    refine ⟨?_, fun j hj => ?_⟩
    · show f ≤ (if M 1 2 + 1 = M 1 2 + 1 then e else _)
      rw [if_pos rfl]
      exact g3
    · have hj : j < M 1 2 + 1 := hj
      show (if j + 1 = M 1 2 + 1 then e else M 4 (j + 1)) ≤ (if j = M 1 2 + 1 then e else M 4 j)
      rw [if_neg (show ¬ j = M 1 2 + 1 by omega)]
      split
      · rw [show j = M 1 2 by omega]
        exact g4
      · exact (h7 hs).2 j (by omega)
  · intro q a b
    rw [xm_oth b, xm_oth a, xm_oth a]
  · rw [e1]
    have : rd_lims ((xm_set (xm_set (xm_set M 1 3 f) 1 2 (M 1 2 + 1)) 4 (M 1 2 + 1) e) 4) (M 1 2 + 1) = e :: M 4 (M 1 2) :: ls := by
      unfold rd_lims
      rw [rd_lims_eq (f := (xm_set (xm_set (xm_set M 1 3 f) 1 2 (M 1 2 + 1)) 4 (M 1 2 + 1) e) 4) (g := M 4) (M 1 2) (fun j hj => (xm_nk (by omega)).trans ((xm_np (by decide)).trans (xm_np (by decide)))), hm]
      show (if M 1 2 + 1 = M 1 2 + 1 then e else _) :: _ = _
      rw [if_pos rfl]
    show (if M 1 4 = 1 then some (f, rd_lims ((xm_set (xm_set (xm_set M 1 3 f) 1 2 (M 1 2 + 1)) 4 (M 1 2 + 1) e) 4) (M 1 2 + 1)) else none) = _
    rw [if_pos hs, this]
theorem rd_clN {M : xm_M} (hI : rd_I M) (h : M 1 4 = 0 ∨ M 1 2 = 0 ∨ M 1 3 ≠ M 4 (M 1 2)) : rd_Q M (xm_set M 1 4 0) (rd_close (rd_of M)) := by
  have e : rd_close (rd_of M) = none := by
    by_cases hs : M 1 4 = 1
    · obtain ⟨ls, hl, hr, -⟩ := rd_of1 hs
      rw [hr]
      rcases h with h | h | h
      · omega
      · rw [h] at hl
        rw [List.eq_nil_of_length_eq_zero hl]
        rfl
      · cases ls with
        | nil => rfl
        | cons m ls =>
          unfold rd_close
          simp only []
          rw [if_neg h]
    · rw [rd_of0 (by have := hI.2.2.2.2.1; omega)]
      rfl
  rw [e]
  exact rd_ref hI
theorem rd_clY {M : xm_M} (hI : rd_I M) (hs : M 1 4 = 1) (hd : M 1 2 ≠ 0) (h : M 1 3 = M 4 (M 1 2)) : rd_Q M (xm_set M 1 2 (M 1 2 - 1)) (rd_close (rd_of M)) := by
  obtain ⟨d, hd⟩ : ∃ d, M 1 2 = d + 1 := ⟨M 1 2 - 1, by omega⟩
  have e1 : rd_of M = some (M 1 3, M 4 (d + 1) :: rd_lims (M 4) d) := by
    simp [rd_of, hs, hd, rd_lims]
  obtain ⟨ls, hm, hl⟩ := rd_lims_hd (M 4) d
  rw [hd] at h
  have e2 : rd_close (rd_of M) = some (M 1 3, rd_lims (M 4) d) := by
    rw [e1, hm]
    unfold rd_close
    simp only []
    rw [if_pos h]
  rw [e2, hd]
  obtain ⟨h1, h2, h3, h4, h5, h6, h7⟩ := hI
  refine ⟨⟨h1, h2, show d + 1 - 1 ≤ 10 by omega, h4, h5, fun j hj => h6 j ?_, fun _ => ?_⟩, fun q a b => xm_oth a, ?_⟩
  · have hj : j ≤ d + 1 - 1 := hj
    omega
  · have h8 := (h7 hs).2 d (by omega)
    refine ⟨?_, fun j hj => (h7 hs).2 j ?_⟩
    · show M 1 3 ≤ M 4 (d + 1 - 1)
      rw [Nat.add_sub_cancel]
      omega
    · have hj : j < d + 1 - 1 := hj
      omega
  · show (if M 1 4 = 1 then some (M 1 3, rd_lims (M 4) (d + 1 - 1)) else none) = _
    rw [if_pos hs]
    rfl
theorem rd_nxN {M : xm_M} (hI : rd_I M) (h : M 1 4 = 0 ∨ M 4 (M 1 2) ≤ M 1 3) : rd_Q M (xm_set M 1 4 0) (rd_next (rd_of M)) ∧ rd_byte (M 3) (rd_of M) = 0 := by
  by_cases hs : M 1 4 = 1
  · obtain ⟨ls, hl, hr, -⟩ := rd_of1 hs
    have h : M 4 (M 1 2) ≤ M 1 3 := by omega
    rw [hr]
    unfold rd_next rd_byte
    simp only []
    rw [if_neg (by omega), if_neg (by omega)]
    exact ⟨rd_ref hI, rfl⟩
  · rw [rd_of0 (by have := hI.2.2.2.2.1; omega)]
    exact ⟨rd_ref hI, rfl⟩
theorem rd_nxY {M : xm_M} (hI : rd_I M) (hs : M 1 4 = 1) (h : M 1 3 < M 4 (M 1 2)) : rd_Q M (xm_set M 1 3 (M 1 3 + 1)) (rd_next (rd_of M)) ∧ rd_byte (M 3) (rd_of M) = M 3 (M 1 3) := by
  obtain ⟨ls, hl, hr, hm⟩ := rd_of1 hs
  rw [hr]
  unfold rd_next rd_byte
  simp only []
  rw [if_pos h, if_pos h]
  obtain ⟨h1, h2, h3, h4, h5, h6, h7⟩ := hI
  have h6' := h6 (M 1 2) (Nat.le_refl _)
  refine ⟨⟨⟨h1, h2, h3, show M 1 3 + 1 ≤ M 2 1 by omega, h5, h6, fun _ => ⟨show M 1 3 + 1 ≤ M 4 (M 1 2) by omega, (h7 hs).2⟩⟩, fun q a b => xm_oth a, ?_⟩, rfl⟩
  show (if M 1 4 = 1 then some (M 1 3 + 1, rd_lims (M 4) (M 1 2)) else none) = _
  rw [if_pos hs, hm]
theorem rd_st {M : xm_M} (h1 : M 2 1 ≤ 160) (h2 : ∀ j, j < 160 → M 3 j < 256) : rd_Q M (xm_set (xm_set (xm_set (xm_set M 1 2 0) 4 0 (M 2 1)) 1 3 0) 1 4 1) (some (0, [M 2 1])) := by
  refine ⟨⟨h1, h2, Nat.zero_le _, Nat.zero_le _, Nat.le_refl _, fun j hj => ?_, fun _ => ⟨Nat.zero_le _, fun j hj => absurd hj (Nat.not_lt_zero _)⟩⟩, ?_, rfl⟩
  · have hj : j ≤ 0 := hj
    rw [show j = 0 by omega]
    exact Nat.le_refl _
  · intro q a b
    rw [xm_oth a, xm_oth a, xm_oth b, xm_oth a]
theorem rd_remE {M : xm_M} (hI : rd_I M) : rd_rem (rd_of M) = if M 1 4 = 0 then 0 else M 4 (M 1 2) - M 1 3 := by
  by_cases hs : M 1 4 = 1
  · obtain ⟨ls, hl, hr, hm⟩ := rd_of1 hs
    rw [hr, if_neg (by omega)]
    rfl
  · have h0 : M 1 4 = 0 := by have := hI.2.2.2.2.1; omega
    rw [rd_of0 h0, if_pos h0]
    rfl
theorem rd_isE {M : xm_M} (hI : rd_I M) (tag : Nat) : rd_is (M 3) tag (rd_of M) = (decide (M 1 4 = 1) && (decide (M 1 3 < M 4 (M 1 2)) && decide (M 3 (M 1 3) = tag))) := by
  by_cases hs : M 1 4 = 1
  · obtain ⟨ls, hl, hr, hm⟩ := rd_of1 hs
    rw [hr, hs]
    rfl
  · have h0 : M 1 4 = 0 := by have := hI.2.2.2.2.1; omega
    rw [rd_of0 h0, h0]
    rfl
theorem rd_endE {M : xm_M} (hI : rd_I M) : rd_end (rd_of M) = (decide (M 1 4 = 1) && (decide (M 1 2 = 0) && decide (M 1 3 = M 4 0))) := by
  by_cases hs : M 1 4 = 1
  · by_cases hd : M 1 2 = 0
    · simp [rd_of, hs, hd, rd_lims, rd_end]
    · obtain ⟨d, hd⟩ : ∃ d, M 1 2 = d + 1 := ⟨M 1 2 - 1, by omega⟩
      obtain ⟨ls, hm, hl⟩ := rd_lims_hd (M 4) d
      simp [rd_of, hs, hd, rd_lims, hm, rd_end]
  · have h0 : M 1 4 = 0 := by have := hI.2.2.2.2.1; omega
    rw [rd_of0 h0, h0]
    rfl
end
section
/-! INTEGER and TRUE, as the reader reads them -/
theorem rd_Q.tr {A B C : xm_M} {s t : rd_S} (h : rd_Q A B s) (g : rd_Q B C t) : rd_Q A C t := ⟨g.1, h.2.1.tr g.2.1, g.2.2⟩
theorem rd_openI {b : Nat → Nat} {tag f : Nat} {st : rd_S} {L : List Nat} (h : rd_open b tag st = some (f, L)) : ∃ i e l ls, st = some (i, l :: ls) ∧ ls.length < 10 ∧ ps_hd b tag i l = some (f, e) ∧ L = e :: l :: ls := by
  rcases st with _ | ⟨i, _ | ⟨l, ls⟩⟩
  · cases h
  · cases h
  · unfold rd_open at h
    simp only [] at h
    split at h
    · rename_i hl
      split at h
      · rename_i f' e' hh
        simp only [Option.some.injEq, Prod.mk.injEq] at h
        obtain ⟨rfl, rfl⟩ := h
        exact ⟨i, e', l, ls, rfl, hl, hh, rfl⟩
      · cases h
    · cases h
theorem rd_remP {st : rd_S} (h : 1 ≤ rd_rem st) : ∃ f e ls, st = some (f, e :: ls) ∧ rd_rem st = e - f := by
  rcases st with _ | ⟨i, _ | ⟨l, ls⟩⟩
  · exact absurd h (by simp [rd_rem])
  · exact absurd h (by simp [rd_rem])
  · exact ⟨i, l, ls, rfl, rfl⟩
theorem rd_rem_le {M : xm_M} (hI : rd_I M) : rd_rem (rd_of M) ≤ 160 := by
  rw [rd_remE hI]
  have h1 := hI.1
  have h6 := hI.2.2.2.2.2.1 (M 1 2) (Nat.le_refl _)
  split <;> omega
theorem rd_byte_lt {M : xm_M} (hI : rd_I M) : rd_byte (M 3) (rd_of M) < 256 := by
  by_cases hs : M 1 4 = 1
  · obtain ⟨ls, hl, hr, hm⟩ := rd_of1 hs
    rw [hr]
    unfold rd_byte
    simp only []
    have h6 := hI.2.2.2.2.2.1 (M 1 2) (Nat.le_refl _)
    have h1 := hI.1
    split
    · exact hI.2.1 _ (by omega)
    · decide
  · rw [rd_of0 (by have := hI.2.2.2.2.1; omega)]
    exact (show 0 < 256 by decide)
def rd_int (b : Nat → Nat) (lo hi : Nat) : rd_S → rd_S × Nat
  | some (i, l :: ls) => if ls.length < 10 then (match ps_int b i l with
    | some (v, j) => if lo ≤ v ∧ v ≤ hi then (some (j, l :: ls), v) else (none, lo)
    | none => (none, lo)) else (none, lo)
  | _ => (none, lo)
theorem rd_intA {b : Nat → Nat} {lo hi : Nat} {st : rd_S} (h : ¬ (1 ≤ rd_rem (rd_open b 2 st) ∧ rd_rem (rd_open b 2 st) ≤ 4)) : rd_int b lo hi st = (none, lo) := by
  rcases st with _ | ⟨i, _ | ⟨l, ls⟩⟩
  · rfl
  · rfl
  · unfold rd_open at h
    unfold rd_int ps_int
    simp only [] at h ⊢
    by_cases hl : ls.length < 10
    · rw [if_pos hl] at h ⊢
      cases hh : ps_hd b 2 i l with
      | none => rfl
      | some p =>
        obtain ⟨f, e⟩ := p
        rw [hh] at h
        simp only [rd_rem] at h
        simp only []
        rw [if_neg (fun z => h ⟨z.1, z.2.1⟩)]
    · rw [if_neg hl]
theorem rd_intB {b : Nat → Nat} {lo hi f e : Nat} {ls : List Nat} {st : rd_S} (h : rd_open b 2 st = some (f, e :: ls)) (hn : 1 ≤ e - f ∧ e - f ≤ 4) : rd_int b lo hi st = if b f ≤ 127 ∧ ¬ (1 < e - f ∧ b f = 0 ∧ b (f + 1) < 128) ∧ lo ≤ ps_be b f (e - f) ∧ ps_be b f (e - f) ≤ hi then (some (e, ls), ps_be b f (e - f)) else (none, lo) := by
  obtain ⟨i, e', l, ls', rfl, hl, hh, he⟩ := rd_openI h
  simp only [List.cons.injEq] at he
  obtain ⟨rfl, rfl⟩ := he
  unfold rd_int ps_int
  simp only [hh]
  rw [if_pos hl]
  by_cases h1 : b f ≤ 127 ∧ ¬ (1 < e - f ∧ b f = 0 ∧ b (f + 1) < 128)
  · rw [if_pos ⟨hn.1, hn.2, h1.1, h1.2⟩]
    simp only []
    by_cases h2 : lo ≤ ps_be b f (e - f) ∧ ps_be b f (e - f) ≤ hi
    · rw [if_pos h2, if_pos ⟨h1.1, h1.2, h2.1, h2.2⟩]
    · rw [if_neg h2, if_neg (fun z => h2 z.2.2)]
  · rw [if_neg (fun z => h1 ⟨z.2.2.1, z.2.2.2⟩), if_neg (fun z => h1 ⟨z.1, z.2.1⟩)]
/-- the reader within an INTEGER, j + 1 bytes being read -/
def rd_ib (b : Nat → Nat) (f e : Nat) (ls : List Nat) (j : Nat) : rd_S := if 1 ≤ j ∧ b f = 0 ∧ b (f + 1) < 128 then none else some (f + (j + 1), e :: ls)
theorem rd_ib_next {b : Nat → Nat} {f e j : Nat} {ls : List Nat} (hj : j + 1 < e - f) (h : 1 ≤ j ∨ b f ≠ 0 ∨ 128 ≤ b (f + 1)) : rd_next (rd_ib b f e ls j) = rd_ib b f e ls (j + 1) := by
  unfold rd_ib
  by_cases c : 1 ≤ j ∧ b f = 0 ∧ b (f + 1) < 128
  · rw [if_pos c, if_pos ⟨by omega, c.2⟩]
    rfl
  · rw [if_neg c, if_neg (by omega)]
    unfold rd_next
    simp only []
    rw [if_pos (by omega)]
    rfl
theorem rd_ib_byte {b : Nat → Nat} {f e j : Nat} {ls : List Nat} (hj : j + 1 < e - f) (h : ¬ (1 ≤ j ∧ b f = 0 ∧ b (f + 1) < 128)) : rd_byte b (rd_ib b f e ls j) = b (f + (j + 1)) := by
  unfold rd_ib
  rw [if_neg h]
  unfold rd_byte
  simp only []
  rw [if_pos (by omega)]
theorem rd_ib_close {b : Nat → Nat} {f e j : Nat} {m : Nat} {ls : List Nat} (hj : j + 1 = e - f) : rd_close (rd_ib b f e (m :: ls) j) = if 1 < e - f ∧ b f = 0 ∧ b (f + 1) < 128 then none else some (e, m :: ls) := by
  unfold rd_ib
  by_cases c : 1 ≤ j ∧ b f = 0 ∧ b (f + 1) < 128
  · rw [if_pos c, if_pos ⟨by omega, c.2⟩]
    rfl
  · rw [if_neg c, if_neg (by omega)]
    unfold rd_close
    simp only []
    rw [if_pos (by omega)]
    simp only [Option.some.injEq, Prod.mk.injEq, and_true]
    omega
theorem rd_pow4 {x v j : Nat} (hx : x ≤ 127) (hj : j ≤ 3) (h : v < (x + 1) * 256 ^ j) : v < 2147483648 := by
  rcases (show j = 0 ∨ j = 1 ∨ j = 2 ∨ j = 3 by omega) with rfl | rfl | rfl | rfl <;> simp at h <;> omega
def rd_tru (b : Nat → Nat) : rd_S → rd_S × Bool
  | some (i, l :: ls) => if i < l ∧ b i = 1 then (if ls.length < 10 then (match ps_tru b i l with
    | some (t, j) => (some (j, l :: ls), t)
    | none => (none, true)) else (none, true)) else (some (i, l :: ls), false)
  | st => (st, false)
theorem rd_isP {b : Nat → Nat} {tag : Nat} {st : rd_S} (h : rd_is b tag st = true) : ∃ i l ls, st = some (i, l :: ls) ∧ i < l ∧ b i = tag := by
  rcases st with _ | ⟨i, _ | ⟨l, ls⟩⟩
  · cases h
  · cases h
  · simp only [rd_is, Bool.and_eq_true, decide_eq_true_eq] at h
    exact ⟨i, l, ls, rfl, h.1, h.2⟩
theorem rd_truF {b : Nat → Nat} {st : rd_S} (h : rd_is b 1 st = false) : rd_tru b st = (st, false) := by
  rcases st with _ | ⟨i, _ | ⟨l, ls⟩⟩
  · rfl
  · rfl
  · simp only [rd_is] at h
    unfold rd_tru
    simp only []
    rw [if_neg]
    intro z
    simp [z.1, z.2] at h
theorem rd_truT {b : Nat → Nat} {st : rd_S} (h : rd_is b 1 st = true) : (rd_tru b st).1 = rd_close (if rd_byte b (rd_open b 1 st) = 255 then rd_next (rd_open b 1 st) else none) := by
  obtain ⟨i, l, ls, rfl, h1, h2⟩ := rd_isP h
  have hc : i < l ∧ b i = 1 := ⟨h1, h2⟩
  by_cases hl : ls.length < 10
  · cases hh : ps_hd b 1 i l with
    | none =>
      have ho : rd_open b 1 (some (i, l :: ls)) = none := by unfold rd_open; simp only [if_pos hl, hh]
      have ht : (rd_tru b (some (i, l :: ls))).1 = none := by unfold rd_tru ps_tru; simp only [if_pos hc, if_pos hl, hh]
      rw [ho, ht]
      rfl
    | some p =>
      obtain ⟨f, e⟩ := p
      obtain ⟨g1, g2, g3, g4, -⟩ := ps_hd_some hh
      have ho : rd_open b 1 (some (i, l :: ls)) = some (f, e :: l :: ls) := by unfold rd_open; simp only [if_pos hl, hh]
      have ht : (rd_tru b (some (i, l :: ls))).1 = if e = f + 1 ∧ b f = 255 then some (e, l :: ls) else none := by
        unfold rd_tru ps_tru
        simp only [if_pos hc, if_pos hl, hh]
        split
        · rename_i h9
          split at h9
          · rename_i h8
            rw [if_pos h8]
            simp only [Option.some.injEq, Prod.mk.injEq] at h9
            rw [h9.2]
          · cases h9
        · rename_i h9
          split at h9
          · cases h9
          · rename_i h8
            rw [if_neg h8]
      rw [ho, ht]
      by_cases hfe : f < e
      · have hb : rd_byte b (some (f, e :: l :: ls)) = b f := if_pos hfe
        have hx : rd_next (some (f, e :: l :: ls)) = some (f + 1, e :: l :: ls) := if_pos hfe
        rw [hb, hx]
        by_cases hb : b f = 255
        · rw [if_pos hb]
          unfold rd_close
          simp only []
          by_cases hx : f + 1 = e
          · rw [if_pos hx, if_pos ⟨hx.symm, hb⟩, hx]
          · rw [if_neg hx, if_neg (fun z => hx z.1.symm)]
        · rw [if_neg hb, if_neg (fun z => hb z.2)]
          rfl
      · have hb : rd_byte b (some (f, e :: l :: ls)) = 0 := if_neg hfe
        rw [hb, if_neg (show ¬ (e = f + 1 ∧ b f = 255) by omega), if_neg (show ¬ (0 = 255) by decide)]
        rfl
  · have ho : rd_open b 1 (some (i, l :: ls)) = none := by unfold rd_open; simp only [if_neg hl]
    have ht : (rd_tru b (some (i, l :: ls))).1 = none := by unfold rd_tru; simp only [if_pos hc, if_neg hl]
    rw [ho, ht]
    rfl
end
section
/-! ByteRow: what is read and written -/
set_option maxRecDepth 100000 in
set_option maxHeartbeats 4000000 in
theorem ct_BR_has (l : Launch) (Y : xw_Y) (M : xm_M) (k : Int32) (hs : M 2 1 ≤ 160) : xc_i l qm_BR_has 0 Y [.ref (Y.2.2.2 2), .int k] M (fun r M1 => M1 = M ∧ r = nI (if 0 ≤ k.toInt ∧ k.toInt < (M 2 1 : Nat) then 1 else 0)) := by
  refine xc_i.mk .boolean rfl (by decide) (Nat.le_of_ble_eq_true rfl) ?_
  intro X hXl hX hR
  subst hXl
  have hX : xv_ok X Y prog_2_method_2_code "CertificatePath$ByteRow" 2 (xc_rm 0) := hX
  show xv_V X Y 2 0 0 xw_lk xw_N M 0 [(0, .ref (Y.2.2.2 2)), (1, .int k)] []
  refine xv_iload_n hX 1 dc_BR_has_0 rfl rfl ?_
  refine xv_if_lt hX (rfl : (k).toInt = _) (tgt := 16) (pq := 4) dc_BR_has_1 (by decide) rfl (fun c1 => ?_) (fun c1 => ?_)
  · skip
    refine xv_iconst hX (v := nI 0) dc_BR_has_16 (by decide) rfl ?_
    refine xv_reti hX hR (by decide) dc_BR_has_17 ?_
    exact ⟨rfl, by rw [if_neg (by omega)]⟩
  · skip
    refine xv_iload_n hX 1 dc_BR_has_4 rfl rfl ?_
    refine xv_aload_n hX 0 dc_BR_has_5 rfl rfl ?_
    refine xv_geti hX fl_BR_15 rfl rfl (by decide) (v := M 2 1) rfl dc_BR_has_6 rfl ?_
    refine xv_icmp_ge hX (rfl : (k).toInt = _) (nI_toInt (by omega)) (tgt := 16) (pq := 12) dc_BR_has_9 (by decide) rfl (fun c9 => ?_) (fun c9 => ?_)
    · skip
      refine xv_iconst hX (v := nI 0) dc_BR_has_16 (by decide) rfl ?_
      refine xv_reti hX hR (by decide) dc_BR_has_17 ?_
      exact ⟨rfl, by rw [if_neg (by omega)]⟩
    · skip
      refine xv_iconst hX (v := nI 1) dc_BR_has_12 (by decide) rfl ?_
      refine xv_goto hX (pq := 17) dc_BR_has_13 (by decide) ?_
      refine xv_reti hX hR (by decide) dc_BR_has_17 ?_
      exact ⟨rfl, by rw [if_pos (by omega)]⟩

set_option maxRecDepth 100000 in
set_option maxHeartbeats 4000000 in
theorem ct_BR_hashBetween (l : Launch) (Y : xw_Y) (M : xm_M) (f t : Nat) (hf : f ≤ t) (ht : t ≤ 160) (hb : ∀ j, j < 160 → M 3 j < 256) : xc_i l qm_BR_hashBetween 0 Y [.ref (Y.2.2.2 2), .int (nI f), .int (nI t)] M (fun r M1 => M1 = M ∧ r = nI (ps_hash (M 3) f (t - f))) := by
  refine xc_i.mk .int rfl (by decide) (Nat.le_of_ble_eq_true rfl) ?_
  intro X hXl hX hR
  subst hXl
  have hX : xv_ok X Y prog_2_method_3_code "CertificatePath$ByteRow" 5 (xc_rm 0) := hX
  show xv_V X Y 5 0 0 xw_lk xw_N M 0 [(0, .ref (Y.2.2.2 2)), (1, .int (nI f)), (2, .int (nI t))] []
  refine xv_iconst hX (v := nI 0) dc_BR_hashBetween_0 (by decide) rfl ?_
  refine xv_istore_n hX [1, 2, 3, 0] dc_BR_hashBetween_1 (by decide) (L' := [(0, .ref (Y.2.2.2 2)), (1, .int (nI f)), (2, .int (nI t)), (3, .int (nI 0))]) rfl rfl ?_
  refine xv_iload_n hX 1 dc_BR_hashBetween_2 rfl rfl ?_
  refine xv_istore hX [1, 2, 3, 4, 0] dc_BR_hashBetween_3 (by decide) (L' := [(0, .ref (Y.2.2.2 2)), (1, .int (nI f)), (2, .int (nI t)), (3, .int (nI 0)), (4, .int (nI f))]) rfl rfl ?_
  have lp5 : ∀ (n : Nat) (k : Nat) (hk : k ≤ t - f), t - f - k < n → xv_V X Y 5 0 0 xw_lk xw_N M 5 [(0, .ref (Y.2.2.2 2)), (1, .int (nI f)), (2, .int (nI t)), (3, .int (nI (ps_hash (M 3) f k))), (4, .int (nI (f + k)))] [] := by
    intro n
    induction n with
    | zero => intro k hk hm; exact absurd hm (Nat.not_lt_zero _)
    | succ n ih =>
      intro k hk hm
      refine xv_iload hX 4 dc_BR_hashBetween_5 rfl rfl ?_
      refine xv_iload_n hX 2 dc_BR_hashBetween_7 rfl rfl ?_
      refine xv_icmp_ge hX (nI_toInt (by omega)) (nI_toInt (by omega)) (tgt := 36) (pq := 11) dc_BR_hashBetween_8 (by decide) rfl (fun c8 => ?_) (fun c8 => ?_)
      · skip
        refine xv_iload_n hX 3 dc_BR_hashBetween_36 rfl rfl ?_
        refine xv_reti hX hR rfl dc_BR_hashBetween_37 ?_
        exact ⟨rfl, by rw [show k = t - f by omega]⟩
      · skip
        have h1 := ps_hash_lt (M 3) f k
        have h2 := hb (f + k) (by omega)
        refine xv_sipush hX (v := nI 263) dc_BR_hashBetween_11 (by decide) rfl ?_
        refine xv_iload_n hX 3 dc_BR_hashBetween_14 rfl rfl ?_
        refine xv_imul hX dc_BR_hashBetween_15 (pk_mul 263 (ps_hash (M 3) f k)) rfl ?_
        refine xv_aload_n hX 0 dc_BR_hashBetween_16 rfl rfl ?_
        refine xv_getr hX fl_BR_9 rfl rfl (by decide) rfl dc_BR_hashBetween_17 rfl ?_
        refine xv_iload hX 4 dc_BR_hashBetween_20 rfl rfl ?_
        refine xv_iald hX rfl (by decide) (by omega) (by decide) (v := M 3 (f + k)) rfl dc_BR_hashBetween_22 rfl ?_
        refine xv_iadd hX dc_BR_hashBetween_23 (nI_add (263 * (ps_hash (M 3) f k)) (M 3 (f + k))) rfl ?_
        refine xv_iconst hX (v := nI 1) dc_BR_hashBetween_24 (by decide) rfl ?_
        refine xv_iadd hX dc_BR_hashBetween_25 (nI_add ((263 * (ps_hash (M 3) f k)) + (M 3 (f + k))) 1) rfl ?_
        refine xv_ldc hX (v := nI 1000003) kc_BR_19 dc_BR_hashBetween_26 rfl ?_
        refine xv_irem hX dc_BR_hashBetween_28 (by decide) (pk_rem (by omega) (by decide) (by decide)) rfl ?_
        refine xv_istore_n hX [1, 2, 3, 0, 4] dc_BR_hashBetween_29 (by decide) (L' := [(0, .ref (Y.2.2.2 2)), (1, .int (nI f)), (2, .int (nI t)), (3, .int (nI ((((263 * (ps_hash (M 3) f k)) + (M 3 (f + k))) + 1) % 1000003))), (4, .int (nI (f + k)))]) rfl rfl ?_
        refine xv_iinc hX 4 [1, 2, 3, 4, 0] dc_BR_hashBetween_30 rfl (xi_inc (f + k) 1) (by decide) (L' := [(0, .ref (Y.2.2.2 2)), (1, .int (nI f)), (2, .int (nI t)), (3, .int (nI ((((263 * (ps_hash (M 3) f k)) + (M 3 (f + k))) + 1) % 1000003))), (4, .int (nI (f + k + 1)))]) rfl rfl ?_
        refine xv_goto hX (pq := 5) dc_BR_hashBetween_33 (by decide) ?_
        refine xv_sub (L' := [(0, .ref (Y.2.2.2 2)), (1, .int (nI f)), (2, .int (nI t)), (3, .int (nI ((((263 * (ps_hash (M 3) f k)) + (M 3 (f + k))) + 1) % 1000003))), (4, .int (nI (f + k + 1)))]) [0, 1, 2, 3, 4] rfl ?_
        exact ih (k + 1) (by omega) (by omega)
  refine xv_sub (L' := [(0, .ref (Y.2.2.2 2)), (1, .int (nI f)), (2, .int (nI t)), (3, .int (nI 0)), (4, .int (nI f))]) [0, 1, 2, 3, 4] rfl ?_
  exact lp5 _ 0 (Nat.zero_le _) (Nat.lt_succ_self _)

set_option maxRecDepth 100000 in
set_option maxHeartbeats 4000000 in
theorem ct_BR_append (l : Launch) (Y : xw_Y) (M : xm_M) (v : Nat) (hs : M 2 1 < 160) : xc_i l qm_BR_append 0 Y [.ref (Y.2.2.2 2), .int (nI v)] M (fun r M1 => M1 = xm_set (xm_set M 3 (M 2 1) v) 2 1 (M 2 1 + 1) ∧ r = nI (M 2 1 + 1)) := by
  refine xc_i.mk .int rfl (by decide) (Nat.le_of_ble_eq_true rfl) ?_
  intro X hXl hX hR
  subst hXl
  have hX : xv_ok X Y prog_2_method_4_code "CertificatePath$ByteRow" 2 (xc_rm 0) := hX
  show xv_V X Y 2 0 0 xw_lk xw_N M 0 [(0, .ref (Y.2.2.2 2)), (1, .int (nI v))] []
  refine xv_aload_n hX 0 dc_BR_append_0 rfl rfl ?_
  refine xv_geti hX fl_BR_15 rfl rfl (by decide) (v := M 2 1) rfl dc_BR_append_1 rfl ?_
  refine xv_aload_n hX 0 dc_BR_append_4 rfl rfl ?_
  refine xv_getr hX fl_BR_9 rfl rfl (by decide) rfl dc_BR_append_5 rfl ?_
  refine xv_alen hX (n := 160) rfl ⟨_, rfl⟩ (by decide) dc_BR_append_8 rfl ?_
  refine xv_icmp_ge hX (nI_toInt (by omega)) (show (nI 160).toInt = 160 by decide) (tgt := 32) (pq := 12) dc_BR_append_9 (by decide) rfl (fun c9 => ?_) (fun c9 => ?_)
  · exact absurd c9 (by omega)
  · skip
    refine xv_aload_n hX 0 dc_BR_append_12 rfl rfl ?_
    refine xv_getr hX fl_BR_9 rfl rfl (by decide) rfl dc_BR_append_13 rfl ?_
    refine xv_aload_n hX 0 dc_BR_append_16 rfl rfl ?_
    refine xv_geti hX fl_BR_15 rfl rfl (by decide) (v := M 2 1) rfl dc_BR_append_17 rfl ?_
    refine xv_iload_n hX 1 dc_BR_append_20 rfl rfl ?_
    refine xv_iast hX rfl (by decide) (by omega) (by decide) dc_BR_append_21 rfl ?_
    refine xv_aload_n hX 0 dc_BR_append_22 rfl rfl ?_
    refine xv_dup hX dc_BR_append_23 rfl rfl ?_
    refine xv_geti hX fl_BR_15 rfl rfl (by decide) (v := M 2 1) (xm_np (by decide)) dc_BR_append_24 rfl ?_
    refine xv_iconst hX (v := nI 1) dc_BR_append_27 (by decide) rfl ?_
    refine xv_iadd hX dc_BR_append_28 (nI_add (M 2 1) 1) rfl ?_
    refine xv_puti hX fl_BR_15 rfl rfl (by decide) dc_BR_append_29 rfl ?_
    refine xv_aload_n hX 0 dc_BR_append_32 rfl rfl ?_
    refine xv_geti hX fl_BR_15 rfl rfl (by decide) (v := M 2 1 + 1) xm_eq dc_BR_append_33 rfl ?_
    refine xv_reti hX hR rfl dc_BR_append_36 ?_
    exact ⟨rfl, rfl⟩
end
section
/-! Reader: its steps -/
set_option maxRecDepth 100000 in
set_option maxHeartbeats 4000000 in
theorem ct_RD_start (l : Launch) (Y : xw_Y) (M : xm_M) (h1 : M 2 1 ≤ 160) (h2 : ∀ j, j < 160 → M 3 j < 256) : xc_v l qm_RD_start 0 Y [.ref (Y.2.2.2 1)] M (fun M1 => rd_Q M M1 (some (0, [M 2 1]))) := by
  refine xc_v.mk rfl (by decide) (Nat.le_of_ble_eq_true rfl) ?_
  intro X hXl hX hR
  subst hXl
  have hX : xv_ok X Y prog_7_method_2_code "CertificatePath$Reader" 1 (xc_rm 0) := hX
  show xv_V X Y 1 0 0 xw_lk xw_N M 0 [(0, .ref (Y.2.2.2 1))] []
  refine xv_aload_n hX 0 dc_RD_start_0 rfl rfl ?_
  refine xv_iconst hX (v := nI 0) dc_RD_start_1 (by decide) rfl ?_
  refine xv_puti hX fl_RD_22 rfl rfl (by decide) dc_RD_start_2 rfl ?_
  refine xv_aload_n hX 0 dc_RD_start_5 rfl rfl ?_
  refine xv_getr hX fl_RD_18 rfl rfl (by decide) rfl dc_RD_start_6 rfl ?_
  refine xv_iconst hX (v := nI 0) dc_RD_start_9 (by decide) rfl ?_
  refine xv_aload_n hX 0 dc_RD_start_10 rfl rfl ?_
  refine xv_getr hX fl_RD_12 rfl rfl (by decide) rfl dc_RD_start_11 rfl ?_
  refine xv_geti hX fl_RD_33 rfl rfl (by decide) (v := M 2 1) (xm_np (by decide)) dc_RD_start_14 rfl ?_
  refine xv_iast hX rfl (by decide) (by decide) (by decide) dc_RD_start_17 rfl ?_
  refine xv_aload_n hX 0 dc_RD_start_18 rfl rfl ?_
  refine xv_iconst hX (v := nI 0) dc_RD_start_19 (by decide) rfl ?_
  refine xv_puti hX fl_RD_26 rfl rfl (by decide) dc_RD_start_20 rfl ?_
  refine xv_aload_n hX 0 dc_RD_start_23 rfl rfl ?_
  refine xv_iconst hX (v := nI 1) dc_RD_start_24 (by decide) rfl ?_
  refine xv_putz hX fl_RD_29 rfl rfl (by decide) (by decide) dc_RD_start_25 rfl ?_
  refine xv_retv hX hR dc_RD_start_28 ?_
  exact rd_st h1 h2

set_option maxRecDepth 100000 in
set_option maxHeartbeats 4000000 in
theorem ct_RD_refuse (l : Launch) (Y : xw_Y) (M : xm_M) (hI : rd_I M) : xc_v l qm_RD_refuse 0 Y [.ref (Y.2.2.2 1)] M (fun M1 => rd_Q M M1 none) := by
  refine xc_v.mk rfl (by decide) (Nat.le_of_ble_eq_true rfl) ?_
  intro X hXl hX hR
  subst hXl
  have hX : xv_ok X Y prog_7_method_3_code "CertificatePath$Reader" 1 (xc_rm 0) := hX
  show xv_V X Y 1 0 0 xw_lk xw_N M 0 [(0, .ref (Y.2.2.2 1))] []
  refine xv_aload_n hX 0 dc_RD_refuse_0 rfl rfl ?_
  refine xv_iconst hX (v := nI 0) dc_RD_refuse_1 (by decide) rfl ?_
  refine xv_putz hX fl_RD_29 rfl rfl (by decide) (by decide) dc_RD_refuse_2 rfl ?_
  refine xv_retv hX hR dc_RD_refuse_5 ?_
  exact rd_ref hI

set_option maxRecDepth 100000 in
set_option maxHeartbeats 4000000 in
theorem ct_RD_isAtEndOfRow (l : Launch) (Y : xw_Y) (M : xm_M) (hI : rd_I M) : xc_i l qm_RD_isAtEndOfRow 0 Y [.ref (Y.2.2.2 1)] M (fun r M1 => M1 = M ∧ r = nI (if rd_end (rd_of M) = true then 1 else 0)) := by
  refine xc_i.mk .boolean rfl (by decide) (Nat.le_of_ble_eq_true rfl) ?_
  intro X hXl hX hR
  subst hXl
  have hX : xv_ok X Y prog_7_method_4_code "CertificatePath$Reader" 1 (xc_rm 0) := hX
  show xv_V X Y 1 0 0 xw_lk xw_N M 0 [(0, .ref (Y.2.2.2 1))] []
  obtain ⟨h1, h2, h3, h4, h5, h6, h7⟩ := id hI
  have h6d := h6 (M 1 2) (Nat.le_refl _)
  refine xv_aload_n hX 0 dc_RD_isAtEndOfRow_0 rfl rfl ?_
  refine xv_geti hX fl_RD_29 rfl rfl (by decide) (v := M 1 4) rfl dc_RD_isAtEndOfRow_1 rfl ?_
  refine xv_if_eq hX (nI_toInt (by omega)) (tgt := 31) (pq := 7) dc_RD_isAtEndOfRow_4 (by decide) rfl (fun c4 => ?_) (fun c4 => ?_)
  · skip
    refine xv_iconst hX (v := nI 0) dc_RD_isAtEndOfRow_31 (by decide) rfl ?_
    refine xv_reti hX hR (by decide) dc_RD_isAtEndOfRow_32 ?_
    exact ⟨rfl, congrArg nI (by rw [rd_endE hI]; first | (rw [if_pos (by simp; omega)]; done) | (rw [if_neg (by simp; omega)]; done))⟩
  · skip
    have hs : M 1 4 = 1 := by omega
    have h7d := (h7 hs).1
    refine xv_aload_n hX 0 dc_RD_isAtEndOfRow_7 rfl rfl ?_
    refine xv_geti hX fl_RD_22 rfl rfl (by decide) (v := M 1 2) rfl dc_RD_isAtEndOfRow_8 rfl ?_
    refine xv_if_ne hX (nI_toInt (by omega)) (tgt := 31) (pq := 14) dc_RD_isAtEndOfRow_11 (by decide) rfl (fun c11 => ?_) (fun c11 => ?_)
    · skip
      refine xv_iconst hX (v := nI 0) dc_RD_isAtEndOfRow_31 (by decide) rfl ?_
      refine xv_reti hX hR (by decide) dc_RD_isAtEndOfRow_32 ?_
      exact ⟨rfl, congrArg nI (by rw [rd_endE hI]; first | (rw [if_pos (by simp; omega)]; done) | (rw [if_neg (by simp; omega)]; done))⟩
    · skip
      refine xv_aload_n hX 0 dc_RD_isAtEndOfRow_14 rfl rfl ?_
      refine xv_geti hX fl_RD_26 rfl rfl (by decide) (v := M 1 3) rfl dc_RD_isAtEndOfRow_15 rfl ?_
      refine xv_aload_n hX 0 dc_RD_isAtEndOfRow_18 rfl rfl ?_
      refine xv_getr hX fl_RD_18 rfl rfl (by decide) rfl dc_RD_isAtEndOfRow_19 rfl ?_
      have h60 := h6 0 (Nat.zero_le _)
      refine xv_iconst hX (v := nI 0) dc_RD_isAtEndOfRow_22 (by decide) rfl ?_
      refine xv_iald hX rfl (by decide) (by decide) (by decide) (v := M 4 0) rfl dc_RD_isAtEndOfRow_23 rfl ?_
      refine xv_icmp_ne hX (nI_toInt (by omega)) (nI_toInt (by omega)) (tgt := 31) (pq := 27) dc_RD_isAtEndOfRow_24 (by decide) rfl (fun c24 => ?_) (fun c24 => ?_)
      · skip
        refine xv_iconst hX (v := nI 0) dc_RD_isAtEndOfRow_31 (by decide) rfl ?_
        refine xv_reti hX hR (by decide) dc_RD_isAtEndOfRow_32 ?_
        exact ⟨rfl, congrArg nI (by rw [rd_endE hI]; first | (rw [if_pos (by simp; omega)]; done) | (rw [if_neg (by simp; omega)]; done))⟩
      · skip
        refine xv_iconst hX (v := nI 1) dc_RD_isAtEndOfRow_27 (by decide) rfl ?_
        refine xv_goto hX (pq := 32) dc_RD_isAtEndOfRow_28 (by decide) ?_
        refine xv_reti hX hR (by decide) dc_RD_isAtEndOfRow_32 ?_
        exact ⟨rfl, congrArg nI (by rw [rd_endE hI]; first | (rw [if_pos (by simp; omega)]; done) | (rw [if_neg (by simp; omega)]; done))⟩

set_option maxRecDepth 100000 in
set_option maxHeartbeats 4000000 in
theorem ct_RD_remaining (l : Launch) (Y : xw_Y) (M : xm_M) (hI : rd_I M) : xc_i l qm_RD_remaining 0 Y [.ref (Y.2.2.2 1)] M (fun r M1 => M1 = M ∧ r = nI (rd_rem (rd_of M))) := by
  refine xc_i.mk .int rfl (by decide) (Nat.le_of_ble_eq_true rfl) ?_
  intro X hXl hX hR
  subst hXl
  have hX : xv_ok X Y prog_7_method_5_code "CertificatePath$Reader" 1 (xc_rm 0) := hX
  show xv_V X Y 1 0 0 xw_lk xw_N M 0 [(0, .ref (Y.2.2.2 1))] []
  obtain ⟨h1, h2, h3, h4, h5, h6, h7⟩ := id hI
  have h6d := h6 (M 1 2) (Nat.le_refl _)
  refine xv_aload_n hX 0 dc_RD_remaining_0 rfl rfl ?_
  refine xv_geti hX fl_RD_29 rfl rfl (by decide) (v := M 1 4) rfl dc_RD_remaining_1 rfl ?_
  refine xv_if_eq hX (nI_toInt (by omega)) (tgt := 24) (pq := 7) dc_RD_remaining_4 (by decide) rfl (fun c4 => ?_) (fun c4 => ?_)
  · skip
    refine xv_iconst hX (v := nI 0) dc_RD_remaining_24 (by decide) rfl ?_
    refine xv_reti hX hR rfl dc_RD_remaining_25 ?_
    exact ⟨rfl, congrArg nI (by rw [rd_remE hI]; first | rw [if_pos (by omega)] | rw [if_neg (by omega)])⟩
  · skip
    have hs : M 1 4 = 1 := by omega
    have h7d := (h7 hs).1
    refine xv_aload_n hX 0 dc_RD_remaining_7 rfl rfl ?_
    refine xv_getr hX fl_RD_18 rfl rfl (by decide) rfl dc_RD_remaining_8 rfl ?_
    refine xv_aload_n hX 0 dc_RD_remaining_11 rfl rfl ?_
    refine xv_geti hX fl_RD_22 rfl rfl (by decide) (v := M 1 2) rfl dc_RD_remaining_12 rfl ?_
    refine xv_iald hX rfl (by decide) (by omega) (by decide) (v := M 4 (M 1 2)) rfl dc_RD_remaining_15 rfl ?_
    refine xv_aload_n hX 0 dc_RD_remaining_16 rfl rfl ?_
    refine xv_geti hX fl_RD_26 rfl rfl (by decide) (v := M 1 3) rfl dc_RD_remaining_17 rfl ?_
    refine xv_isub hX dc_RD_remaining_20 (pk_sub (by omega)) rfl ?_
    refine xv_goto hX (pq := 25) dc_RD_remaining_21 (by decide) ?_
    refine xv_reti hX hR rfl dc_RD_remaining_25 ?_
    exact ⟨rfl, congrArg nI (by rw [rd_remE hI]; first | rw [if_pos (by omega)] | rw [if_neg (by omega)])⟩

set_option maxRecDepth 100000 in
set_option maxHeartbeats 4000000 in
theorem ct_RD_hashSince (l : Launch) (Y : xw_Y) (M : xm_M) (f : Nat) (hI : rd_I M) (hf : f ≤ M 1 3) : xc_i l qm_RD_hashSince 1 Y [.ref (Y.2.2.2 1), .int (nI f)] M (fun r M1 => M1 = M ∧ r = nI (ps_hash (M 3) f (M 1 3 - f))) := by
  refine xc_i.mk .int rfl (by decide) (Nat.le_of_ble_eq_true rfl) ?_
  intro X hXl hX hR
  subst hXl
  have hX : xv_ok X Y prog_7_method_6_code "CertificatePath$Reader" 2 (xc_rm 1) := hX
  show xv_V X Y 2 0 0 xw_lk xw_N M 0 [(0, .ref (Y.2.2.2 1)), (1, .int (nI f))] []
  obtain ⟨h1, h2, h3, h4, h5, h6, h7⟩ := id hI
  have h6d := h6 (M 1 2) (Nat.le_refl _)
  refine xv_aload_n hX 0 dc_RD_hashSince_0 rfl rfl ?_
  refine xv_getr hX fl_RD_12 rfl rfl (by decide) rfl dc_RD_hashSince_1 rfl ?_
  refine xv_iload_n hX 1 dc_RD_hashSince_4 rfl rfl ?_
  refine xv_aload_n hX 0 dc_RD_hashSince_5 rfl rfl ?_
  refine xv_geti hX fl_RD_26 rfl rfl (by decide) (v := M 1 3) rfl dc_RD_hashSince_6 rfl ?_
  refine xv_calli hX (As := [.int (nI f), .int (nI (M 1 3))]) (rest := []) (ct_BR_hashBetween _ Y M f (M 1 3) hf (by omega) h2) ml_RD_36 li_BR_hashBetween rfl (by decide) rfl rfl rfl (by decide) ⟨by decide, by decide⟩ ⟨Nat.le_refl _, Nat.le_refl _⟩ (by decide) dc_RD_hashSince_9 rfl (fun r9 M9 p9 => ?_)
  obtain ⟨rfl, rfl⟩ := p9
  refine xv_reti hX hR rfl dc_RD_hashSince_12 ?_
  exact ⟨rfl, rfl⟩

set_option maxRecDepth 100000 in
set_option maxHeartbeats 4000000 in
theorem ct_RD_nextIs (l : Launch) (Y : xw_Y) (M : xm_M) (tag : Nat) (hI : rd_I M) (ht : tag < 256) : xc_i l qm_RD_nextIs 0 Y [.ref (Y.2.2.2 1), .int (nI tag)] M (fun r M1 => M1 = M ∧ r = nI (if rd_is (M 3) tag (rd_of M) = true then 1 else 0)) := by
  refine xc_i.mk .boolean rfl (by decide) (Nat.le_of_ble_eq_true rfl) ?_
  intro X hXl hX hR
  subst hXl
  have hX : xv_ok X Y prog_7_method_7_code "CertificatePath$Reader" 2 (xc_rm 0) := hX
  show xv_V X Y 2 0 0 xw_lk xw_N M 0 [(0, .ref (Y.2.2.2 1)), (1, .int (nI tag))] []
  obtain ⟨h1, h2, h3, h4, h5, h6, h7⟩ := id hI
  have h6d := h6 (M 1 2) (Nat.le_refl _)
  refine xv_aload_n hX 0 dc_RD_nextIs_0 rfl rfl ?_
  refine xv_geti hX fl_RD_29 rfl rfl (by decide) (v := M 1 4) rfl dc_RD_nextIs_1 rfl ?_
  refine xv_if_eq hX (nI_toInt (by omega)) (tgt := 43) (pq := 7) dc_RD_nextIs_4 (by decide) rfl (fun c4 => ?_) (fun c4 => ?_)
  · skip
    refine xv_iconst hX (v := nI 0) dc_RD_nextIs_43 (by decide) rfl ?_
    refine xv_reti hX hR (by decide) dc_RD_nextIs_44 ?_
    exact ⟨rfl, congrArg nI (by rw [rd_isE hI tag]; first | (rw [if_pos (by simp; omega)]; done) | (rw [if_neg (by simp; omega)]; done))⟩
  · skip
    have hs : M 1 4 = 1 := by omega
    have h7d := (h7 hs).1
    refine xv_aload_n hX 0 dc_RD_nextIs_7 rfl rfl ?_
    refine xv_geti hX fl_RD_26 rfl rfl (by decide) (v := M 1 3) rfl dc_RD_nextIs_8 rfl ?_
    refine xv_aload_n hX 0 dc_RD_nextIs_11 rfl rfl ?_
    refine xv_getr hX fl_RD_18 rfl rfl (by decide) rfl dc_RD_nextIs_12 rfl ?_
    refine xv_aload_n hX 0 dc_RD_nextIs_15 rfl rfl ?_
    refine xv_geti hX fl_RD_22 rfl rfl (by decide) (v := M 1 2) rfl dc_RD_nextIs_16 rfl ?_
    refine xv_iald hX rfl (by decide) (by omega) (by decide) (v := M 4 (M 1 2)) rfl dc_RD_nextIs_19 rfl ?_
    refine xv_icmp_ge hX (nI_toInt (by omega)) (nI_toInt (by omega)) (tgt := 43) (pq := 23) dc_RD_nextIs_20 (by decide) rfl (fun c20 => ?_) (fun c20 => ?_)
    · skip
      refine xv_iconst hX (v := nI 0) dc_RD_nextIs_43 (by decide) rfl ?_
      refine xv_reti hX hR (by decide) dc_RD_nextIs_44 ?_
      exact ⟨rfl, congrArg nI (by rw [rd_isE hI tag]; first | (rw [if_pos (by simp; omega)]; done) | (rw [if_neg (by simp; omega)]; done))⟩
    · skip
      refine xv_aload_n hX 0 dc_RD_nextIs_23 rfl rfl ?_
      refine xv_getr hX fl_RD_12 rfl rfl (by decide) rfl dc_RD_nextIs_24 rfl ?_
      refine xv_getr hX fl_RD_40 rfl rfl (by decide) rfl dc_RD_nextIs_27 rfl ?_
      refine xv_aload_n hX 0 dc_RD_nextIs_30 rfl rfl ?_
      refine xv_geti hX fl_RD_26 rfl rfl (by decide) (v := M 1 3) rfl dc_RD_nextIs_31 rfl ?_
      refine xv_iald hX rfl (by decide) (by omega) (by decide) (v := M 3 (M 1 3)) rfl dc_RD_nextIs_34 rfl ?_
      have hb := h2 (M 1 3) (by omega)
      refine xv_iload_n hX 1 dc_RD_nextIs_35 rfl rfl ?_
      refine xv_icmp_ne hX (nI_toInt (by omega)) (nI_toInt (by omega)) (tgt := 43) (pq := 39) dc_RD_nextIs_36 (by decide) rfl (fun c36 => ?_) (fun c36 => ?_)
      · skip
        refine xv_iconst hX (v := nI 0) dc_RD_nextIs_43 (by decide) rfl ?_
        refine xv_reti hX hR (by decide) dc_RD_nextIs_44 ?_
        exact ⟨rfl, congrArg nI (by rw [rd_isE hI tag]; first | (rw [if_pos (by simp; omega)]; done) | (rw [if_neg (by simp; omega)]; done))⟩
      · skip
        refine xv_iconst hX (v := nI 1) dc_RD_nextIs_39 (by decide) rfl ?_
        refine xv_goto hX (pq := 44) dc_RD_nextIs_40 (by decide) ?_
        refine xv_reti hX hR (by decide) dc_RD_nextIs_44 ?_
        exact ⟨rfl, congrArg nI (by rw [rd_isE hI tag]; first | (rw [if_pos (by simp; omega)]; done) | (rw [if_neg (by simp; omega)]; done))⟩

set_option maxRecDepth 100000 in
set_option maxHeartbeats 4000000 in
theorem ct_RD_readByte (l : Launch) (Y : xw_Y) (M : xm_M) (hI : rd_I M) : xc_i l qm_RD_readByte 0 Y [.ref (Y.2.2.2 1)] M (fun r M1 => rd_Q M M1 (rd_next (rd_of M)) ∧ r = nI (rd_byte (M 3) (rd_of M))) := by
  refine xc_i.mk .int rfl (by decide) (Nat.le_of_ble_eq_true rfl) ?_
  intro X hXl hX hR
  subst hXl
  have hX : xv_ok X Y prog_7_method_8_code "CertificatePath$Reader" 1 (xc_rm 0) := hX
  show xv_V X Y 1 0 0 xw_lk xw_N M 0 [(0, .ref (Y.2.2.2 1))] []
  obtain ⟨h1, h2, h3, h4, h5, h6, h7⟩ := id hI
  have h6d := h6 (M 1 2) (Nat.le_refl _)
  refine xv_aload_n hX 0 dc_RD_readByte_0 rfl rfl ?_
  refine xv_geti hX fl_RD_29 rfl rfl (by decide) (v := M 1 4) rfl dc_RD_readByte_1 rfl ?_
  refine xv_if_eq hX (nI_toInt (by omega)) (tgt := 23) (pq := 7) dc_RD_readByte_4 (by decide) rfl (fun c4 => ?_) (fun c4 => ?_)
  · skip
    refine xv_aload_n hX 0 dc_RD_readByte_23 rfl rfl ?_
    refine xv_iconst hX (v := nI 0) dc_RD_readByte_24 (by decide) rfl ?_
    refine xv_putz hX fl_RD_29 rfl rfl (by decide) (by decide) dc_RD_readByte_25 rfl ?_
    refine xv_iconst hX (v := nI 0) dc_RD_readByte_28 (by decide) rfl ?_
    refine xv_reti hX hR rfl dc_RD_readByte_29 ?_
    exact (rd_nxN hI (by omega)).imp id (fun h => by rw [h])
  · skip
    have hs : M 1 4 = 1 := by omega
    have h7d := (h7 hs).1
    refine xv_aload_n hX 0 dc_RD_readByte_7 rfl rfl ?_
    refine xv_geti hX fl_RD_26 rfl rfl (by decide) (v := M 1 3) rfl dc_RD_readByte_8 rfl ?_
    refine xv_aload_n hX 0 dc_RD_readByte_11 rfl rfl ?_
    refine xv_getr hX fl_RD_18 rfl rfl (by decide) rfl dc_RD_readByte_12 rfl ?_
    refine xv_aload_n hX 0 dc_RD_readByte_15 rfl rfl ?_
    refine xv_geti hX fl_RD_22 rfl rfl (by decide) (v := M 1 2) rfl dc_RD_readByte_16 rfl ?_
    refine xv_iald hX rfl (by decide) (by omega) (by decide) (v := M 4 (M 1 2)) rfl dc_RD_readByte_19 rfl ?_
    refine xv_icmp_lt hX (nI_toInt (by omega)) (nI_toInt (by omega)) (tgt := 30) (pq := 23) dc_RD_readByte_20 (by decide) rfl (fun c20 => ?_) (fun c20 => ?_)
    · skip
      refine xv_aload_n hX 0 dc_RD_readByte_30 rfl rfl ?_
      refine xv_dup hX dc_RD_readByte_31 rfl rfl ?_
      refine xv_geti hX fl_RD_26 rfl rfl (by decide) (v := M 1 3) rfl dc_RD_readByte_32 rfl ?_
      refine xv_iconst hX (v := nI 1) dc_RD_readByte_35 (by decide) rfl ?_
      refine xv_iadd hX dc_RD_readByte_36 (nI_add (M 1 3) 1) rfl ?_
      refine xv_puti hX fl_RD_26 rfl rfl (by decide) dc_RD_readByte_37 rfl ?_
      refine xv_aload_n hX 0 dc_RD_readByte_40 rfl rfl ?_
      refine xv_getr hX fl_RD_12 rfl rfl (by decide) rfl dc_RD_readByte_41 rfl ?_
      refine xv_getr hX fl_RD_40 rfl rfl (by decide) rfl dc_RD_readByte_44 rfl ?_
      refine xv_aload_n hX 0 dc_RD_readByte_47 rfl rfl ?_
      refine xv_geti hX fl_RD_26 rfl rfl (by decide) (v := M 1 3 + 1) xm_eq dc_RD_readByte_48 rfl ?_
      refine xv_iconst hX (v := nI 1) dc_RD_readByte_51 (by decide) rfl ?_
      refine xv_isub hX dc_RD_readByte_52 (pk_sub (by omega)) rfl ?_
      refine xv_iald hX rfl (by decide) (by omega) (by decide) (v := M 3 (M 1 3 + 1 - 1)) (xm_np (by decide)) dc_RD_readByte_53 rfl ?_
      refine xv_reti hX hR rfl dc_RD_readByte_54 ?_
      exact (rd_nxY hI hs (by omega)).imp id (fun h => by rw [h]; rfl)
    · skip
      refine xv_aload_n hX 0 dc_RD_readByte_23 rfl rfl ?_
      refine xv_iconst hX (v := nI 0) dc_RD_readByte_24 (by decide) rfl ?_
      refine xv_putz hX fl_RD_29 rfl rfl (by decide) (by decide) dc_RD_readByte_25 rfl ?_
      refine xv_iconst hX (v := nI 0) dc_RD_readByte_28 (by decide) rfl ?_
      refine xv_reti hX hR rfl dc_RD_readByte_29 ?_
      exact (rd_nxN hI (by omega)).imp id (fun h => by rw [h])

set_option maxRecDepth 100000 in
set_option maxHeartbeats 4000000 in
theorem ct_RD_open (l : Launch) (Y : xw_Y) (M : xm_M) (tag : Nat) (hI : rd_I M) (ht : tag < 256) : xc_v l qm_RD_open 0 Y [.ref (Y.2.2.2 1), .int (nI tag)] M (fun M1 => rd_Q M M1 (rd_open (M 3) tag (rd_of M))) := by
  refine xc_v.mk rfl (by decide) (Nat.le_of_ble_eq_true rfl) ?_
  intro X hXl hX hR
  subst hXl
  have hX : xv_ok X Y prog_7_method_9_code "CertificatePath$Reader" 5 (xc_rm 0) := hX
  show xv_V X Y 5 0 0 xw_lk xw_N M 0 [(0, .ref (Y.2.2.2 1)), (1, .int (nI tag))] []
  obtain ⟨h1, h2, h3, h4, h5, h6, h7⟩ := id hI
  have h6d := h6 (M 1 2) (Nat.le_refl _)
  refine xv_aload_n hX 0 dc_RD_open_0 rfl rfl ?_
  refine xv_getr hX fl_RD_18 rfl rfl (by decide) rfl dc_RD_open_1 rfl ?_
  refine xv_aload_n hX 0 dc_RD_open_4 rfl rfl ?_
  refine xv_geti hX fl_RD_22 rfl rfl (by decide) (v := M 1 2) rfl dc_RD_open_5 rfl ?_
  refine xv_iald hX rfl (by decide) (by omega) (by decide) (v := M 4 (M 1 2)) rfl dc_RD_open_8 rfl ?_
  refine xv_istore_n hX [1, 2, 0] dc_RD_open_9 (by decide) (L' := [(0, .ref (Y.2.2.2 1)), (1, .int (nI tag)), (2, .int (nI (M 4 (M 1 2))))]) rfl rfl ?_
  refine xv_aload_n hX 0 dc_RD_open_10 rfl rfl ?_
  refine xv_geti hX fl_RD_29 rfl rfl (by decide) (v := M 1 4) rfl dc_RD_open_11 rfl ?_
  refine xv_if_eq hX (nI_toInt (by omega)) (tgt := 57) (pq := 17) dc_RD_open_14 (by decide) rfl (fun c14 => ?_) (fun c14 => ?_)
  · skip
    refine xv_aload_n hX 0 dc_RD_open_57 rfl rfl ?_
    refine xv_iconst hX (v := nI 0) dc_RD_open_58 (by decide) rfl ?_
    refine xv_putz hX fl_RD_29 rfl rfl (by decide) (by decide) dc_RD_open_59 rfl ?_
    refine xv_retv hX hR dc_RD_open_62 ?_
    first
    | exact rd_opN hI (Or.inl (by omega))
    | exact rd_opN hI (Or.inr (Or.inl (by omega)))
    | exact rd_opN hI (Or.inr (Or.inr (by unfold ps_hd; (repeat' split) <;> first | rfl | (exfalso; omega))))
  · skip
    have hs : M 1 4 = 1 := by omega
    have h7d := (h7 hs).1
    refine xv_aload_n hX 0 dc_RD_open_17 rfl rfl ?_
    refine xv_geti hX fl_RD_22 rfl rfl (by decide) (v := M 1 2) rfl dc_RD_open_18 rfl ?_
    refine xv_iconst hX (v := nI 1) dc_RD_open_21 (by decide) rfl ?_
    refine xv_iadd hX dc_RD_open_22 (nI_add (M 1 2) 1) rfl ?_
    refine xv_aload_n hX 0 dc_RD_open_23 rfl rfl ?_
    refine xv_getr hX fl_RD_18 rfl rfl (by decide) rfl dc_RD_open_24 rfl ?_
    refine xv_alen hX (n := 11) rfl ⟨_, rfl⟩ (by decide) dc_RD_open_27 rfl ?_
    refine xv_icmp_ge hX (nI_toInt (by omega)) (show (nI 11).toInt = 11 by decide) (tgt := 57) (pq := 31) dc_RD_open_28 (by decide) rfl (fun c28 => ?_) (fun c28 => ?_)
    · skip
      refine xv_aload_n hX 0 dc_RD_open_57 rfl rfl ?_
      refine xv_iconst hX (v := nI 0) dc_RD_open_58 (by decide) rfl ?_
      refine xv_putz hX fl_RD_29 rfl rfl (by decide) (by decide) dc_RD_open_59 rfl ?_
      refine xv_retv hX hR dc_RD_open_62 ?_
      first
      | exact rd_opN hI (Or.inl (by omega))
      | exact rd_opN hI (Or.inr (Or.inl (by omega)))
      | exact rd_opN hI (Or.inr (Or.inr (by unfold ps_hd; (repeat' split) <;> first | rfl | (exfalso; omega))))
    · skip
      refine xv_iload_n hX 2 dc_RD_open_31 rfl rfl ?_
      refine xv_aload_n hX 0 dc_RD_open_32 rfl rfl ?_
      refine xv_geti hX fl_RD_26 rfl rfl (by decide) (v := M 1 3) rfl dc_RD_open_33 rfl ?_
      refine xv_isub hX dc_RD_open_36 (pk_sub (by omega)) rfl ?_
      refine xv_iconst hX (v := nI 2) dc_RD_open_37 (by decide) rfl ?_
      refine xv_icmp_lt hX (nI_toInt (by omega)) (show (nI 2).toInt = 2 by decide) (tgt := 57) (pq := 41) dc_RD_open_38 (by decide) rfl (fun c38 => ?_) (fun c38 => ?_)
      · skip
        refine xv_aload_n hX 0 dc_RD_open_57 rfl rfl ?_
        refine xv_iconst hX (v := nI 0) dc_RD_open_58 (by decide) rfl ?_
        refine xv_putz hX fl_RD_29 rfl rfl (by decide) (by decide) dc_RD_open_59 rfl ?_
        refine xv_retv hX hR dc_RD_open_62 ?_
        first
        | exact rd_opN hI (Or.inl (by omega))
        | exact rd_opN hI (Or.inr (Or.inl (by omega)))
        | exact rd_opN hI (Or.inr (Or.inr (by unfold ps_hd; (repeat' split) <;> first | rfl | (exfalso; omega))))
      · skip
        refine xv_aload_n hX 0 dc_RD_open_41 rfl rfl ?_
        refine xv_getr hX fl_RD_12 rfl rfl (by decide) rfl dc_RD_open_42 rfl ?_
        refine xv_getr hX fl_RD_40 rfl rfl (by decide) rfl dc_RD_open_45 rfl ?_
        refine xv_aload_n hX 0 dc_RD_open_48 rfl rfl ?_
        refine xv_geti hX fl_RD_26 rfl rfl (by decide) (v := M 1 3) rfl dc_RD_open_49 rfl ?_
        refine xv_iald hX rfl (by decide) (by omega) (by decide) (v := M 3 (M 1 3)) rfl dc_RD_open_52 rfl ?_
        have hb := h2 (M 1 3) (by omega)
        refine xv_iload_n hX 1 dc_RD_open_53 rfl rfl ?_
        refine xv_icmp_eq hX (nI_toInt (by omega)) (nI_toInt (by omega)) (tgt := 63) (pq := 57) dc_RD_open_54 (by decide) rfl (fun c54 => ?_) (fun c54 => ?_)
        · skip
          refine xv_aload_n hX 0 dc_RD_open_63 rfl rfl ?_
          refine xv_getr hX fl_RD_12 rfl rfl (by decide) rfl dc_RD_open_64 rfl ?_
          refine xv_getr hX fl_RD_40 rfl rfl (by decide) rfl dc_RD_open_67 rfl ?_
          refine xv_aload_n hX 0 dc_RD_open_70 rfl rfl ?_
          refine xv_geti hX fl_RD_26 rfl rfl (by decide) (v := M 1 3) rfl dc_RD_open_71 rfl ?_
          refine xv_iconst hX (v := nI 1) dc_RD_open_74 (by decide) rfl ?_
          refine xv_iadd hX dc_RD_open_75 (nI_add (M 1 3) 1) rfl ?_
          refine xv_iald hX rfl (by decide) (by omega) (by decide) (v := M 3 (M 1 3 + 1)) rfl dc_RD_open_76 rfl ?_
          refine xv_istore_n hX [1, 2, 3, 0] dc_RD_open_77 (by decide) (L' := [(0, .ref (Y.2.2.2 1)), (1, .int (nI tag)), (2, .int (nI (M 4 (M 1 2)))), (3, .int (nI (M 3 (M 1 3 + 1))))]) rfl rfl ?_
          refine xv_aload_n hX 0 dc_RD_open_78 rfl rfl ?_
          refine xv_geti hX fl_RD_26 rfl rfl (by decide) (v := M 1 3) rfl dc_RD_open_79 rfl ?_
          refine xv_iconst hX (v := nI 2) dc_RD_open_82 (by decide) rfl ?_
          refine xv_iadd hX dc_RD_open_83 (nI_add (M 1 3) 2) rfl ?_
          refine xv_istore hX [1, 2, 3, 4, 0] dc_RD_open_84 (by decide) (L' := [(0, .ref (Y.2.2.2 1)), (1, .int (nI tag)), (2, .int (nI (M 4 (M 1 2)))), (3, .int (nI (M 3 (M 1 3 + 1)))), (4, .int (nI (M 1 3 + 2)))]) rfl rfl ?_
          have hb1 := h2 (M 1 3 + 1) (by omega)
          refine xv_iload_n hX 3 dc_RD_open_86 rfl rfl ?_
          refine xv_bipush hX (v := nI 127) dc_RD_open_87 (by decide) rfl ?_
          refine xv_icmp_le hX (nI_toInt (by omega)) (show (nI 127).toInt = 127 by decide) (tgt := 140) (pq := 92) dc_RD_open_89 (by decide) rfl (fun c89 => ?_) (fun c89 => ?_)
          · skip
            refine xv_iload_n hX 3 dc_RD_open_140 rfl rfl ?_
            refine xv_iload_n hX 2 dc_RD_open_141 rfl rfl ?_
            refine xv_iload hX 4 dc_RD_open_142 rfl rfl ?_
            refine xv_isub hX dc_RD_open_144 (pk_sub (by omega)) rfl ?_
            refine xv_icmp_le hX (nI_toInt (by omega)) (nI_toInt (by omega)) (tgt := 154) (pq := 148) dc_RD_open_145 (by decide) rfl (fun c145 => ?_) (fun c145 => ?_)
            · skip
              refine xv_aload_n hX 0 dc_RD_open_154 rfl rfl ?_
              refine xv_iload hX 4 dc_RD_open_155 rfl rfl ?_
              refine xv_puti hX fl_RD_26 rfl rfl (by decide) dc_RD_open_157 rfl ?_
              refine xv_aload_n hX 0 dc_RD_open_160 rfl rfl ?_
              refine xv_dup hX dc_RD_open_161 rfl rfl ?_
              refine xv_geti hX fl_RD_22 rfl rfl (by decide) (v := M 1 2) (xm_nk (by decide)) dc_RD_open_162 rfl ?_
              refine xv_iconst hX (v := nI 1) dc_RD_open_165 (by decide) rfl ?_
              refine xv_iadd hX dc_RD_open_166 (nI_add (M 1 2) 1) rfl ?_
              refine xv_puti hX fl_RD_22 rfl rfl (by decide) dc_RD_open_167 rfl ?_
              refine xv_aload_n hX 0 dc_RD_open_170 rfl rfl ?_
              refine xv_getr hX fl_RD_18 rfl rfl (by decide) rfl dc_RD_open_171 rfl ?_
              refine xv_aload_n hX 0 dc_RD_open_174 rfl rfl ?_
              refine xv_geti hX fl_RD_22 rfl rfl (by decide) (v := M 1 2 + 1) xm_eq dc_RD_open_175 rfl ?_
              refine xv_iload hX 4 dc_RD_open_178 rfl rfl ?_
              refine xv_iload_n hX 3 dc_RD_open_180 rfl rfl ?_
              refine xv_iadd hX dc_RD_open_181 (nI_add (M 1 3 + 2) (M 3 (M 1 3 + 1))) rfl ?_
              refine xv_iast hX rfl (by decide) (by omega) (by decide) dc_RD_open_182 rfl ?_
              refine xv_retv hX hR dc_RD_open_183 ?_
              refine rd_opY hI hs (by omega) ?_
              unfold ps_hd
              repeat' split
              all_goals first
                | rfl
                | (exfalso; omega)
                | (simp only [Option.some.injEq, Prod.mk.injEq]; omega)
            · skip
              refine xv_aload_n hX 0 dc_RD_open_148 rfl rfl ?_
              refine xv_iconst hX (v := nI 0) dc_RD_open_149 (by decide) rfl ?_
              refine xv_putz hX fl_RD_29 rfl rfl (by decide) (by decide) dc_RD_open_150 rfl ?_
              refine xv_retv hX hR dc_RD_open_153 ?_
              first
              | exact rd_opN hI (Or.inl (by omega))
              | exact rd_opN hI (Or.inr (Or.inl (by omega)))
              | exact rd_opN hI (Or.inr (Or.inr (by unfold ps_hd; (repeat' split) <;> first | rfl | (exfalso; omega))))
          · skip
            refine xv_iload_n hX 3 dc_RD_open_92 rfl rfl ?_
            refine xv_sipush hX (v := nI 129) dc_RD_open_93 (by decide) rfl ?_
            refine xv_icmp_ne hX (nI_toInt (by omega)) (show (nI 129).toInt = 129 by decide) (tgt := 120) (pq := 99) dc_RD_open_96 (by decide) rfl (fun c96 => ?_) (fun c96 => ?_)
            · skip
              refine xv_aload_n hX 0 dc_RD_open_120 rfl rfl ?_
              refine xv_iconst hX (v := nI 0) dc_RD_open_121 (by decide) rfl ?_
              refine xv_putz hX fl_RD_29 rfl rfl (by decide) (by decide) dc_RD_open_122 rfl ?_
              refine xv_retv hX hR dc_RD_open_125 ?_
              first
              | exact rd_opN hI (Or.inl (by omega))
              | exact rd_opN hI (Or.inr (Or.inl (by omega)))
              | exact rd_opN hI (Or.inr (Or.inr (by unfold ps_hd; (repeat' split) <;> first | rfl | (exfalso; omega))))
            · skip
              refine xv_iload hX 4 dc_RD_open_99 rfl rfl ?_
              refine xv_iload_n hX 2 dc_RD_open_101 rfl rfl ?_
              refine xv_icmp_ge hX (nI_toInt (by omega)) (nI_toInt (by omega)) (tgt := 120) (pq := 105) dc_RD_open_102 (by decide) rfl (fun c102 => ?_) (fun c102 => ?_)
              · skip
                refine xv_aload_n hX 0 dc_RD_open_120 rfl rfl ?_
                refine xv_iconst hX (v := nI 0) dc_RD_open_121 (by decide) rfl ?_
                refine xv_putz hX fl_RD_29 rfl rfl (by decide) (by decide) dc_RD_open_122 rfl ?_
                refine xv_retv hX hR dc_RD_open_125 ?_
                first
                | exact rd_opN hI (Or.inl (by omega))
                | exact rd_opN hI (Or.inr (Or.inl (by omega)))
                | exact rd_opN hI (Or.inr (Or.inr (by unfold ps_hd; (repeat' split) <;> first | rfl | (exfalso; omega))))
              · skip
                refine xv_aload_n hX 0 dc_RD_open_105 rfl rfl ?_
                refine xv_getr hX fl_RD_12 rfl rfl (by decide) rfl dc_RD_open_106 rfl ?_
                refine xv_getr hX fl_RD_40 rfl rfl (by decide) rfl dc_RD_open_109 rfl ?_
                refine xv_iload hX 4 dc_RD_open_112 rfl rfl ?_
                refine xv_iald hX rfl (by decide) (by omega) (by decide) (v := M 3 (M 1 3 + 2)) rfl dc_RD_open_114 rfl ?_
                have hb2 := h2 (M 1 3 + 2) (by omega)
                refine xv_bipush hX (v := nI 127) dc_RD_open_115 (by decide) rfl ?_
                refine xv_icmp_gt hX (nI_toInt (by omega)) (show (nI 127).toInt = 127 by decide) (tgt := 126) (pq := 120) dc_RD_open_117 (by decide) rfl (fun c117 => ?_) (fun c117 => ?_)
                · skip
                  refine xv_aload_n hX 0 dc_RD_open_126 rfl rfl ?_
                  refine xv_getr hX fl_RD_12 rfl rfl (by decide) rfl dc_RD_open_127 rfl ?_
                  refine xv_getr hX fl_RD_40 rfl rfl (by decide) rfl dc_RD_open_130 rfl ?_
                  refine xv_iload hX 4 dc_RD_open_133 rfl rfl ?_
                  refine xv_iald hX rfl (by decide) (by omega) (by decide) (v := M 3 (M 1 3 + 2)) rfl dc_RD_open_135 rfl ?_
                  refine xv_istore_n hX [1, 2, 3, 0, 4] dc_RD_open_136 (by decide) (L' := [(0, .ref (Y.2.2.2 1)), (1, .int (nI tag)), (2, .int (nI (M 4 (M 1 2)))), (3, .int (nI (M 3 (M 1 3 + 2)))), (4, .int (nI (M 1 3 + 2)))]) rfl rfl ?_
                  refine xv_iinc hX 4 [1, 2, 3, 4, 0] dc_RD_open_137 rfl (xi_inc (M 1 3 + 2) 1) (by decide) (L' := [(0, .ref (Y.2.2.2 1)), (1, .int (nI tag)), (2, .int (nI (M 4 (M 1 2)))), (3, .int (nI (M 3 (M 1 3 + 2)))), (4, .int (nI (M 1 3 + 3)))]) rfl rfl ?_
                  refine xv_iload_n hX 3 dc_RD_open_140 rfl rfl ?_
                  refine xv_iload_n hX 2 dc_RD_open_141 rfl rfl ?_
                  refine xv_iload hX 4 dc_RD_open_142 rfl rfl ?_
                  refine xv_isub hX dc_RD_open_144 (pk_sub (by omega)) rfl ?_
                  refine xv_icmp_le hX (nI_toInt (by omega)) (nI_toInt (by omega)) (tgt := 154) (pq := 148) dc_RD_open_145 (by decide) rfl (fun c145 => ?_) (fun c145 => ?_)
                  · skip
                    refine xv_aload_n hX 0 dc_RD_open_154 rfl rfl ?_
                    refine xv_iload hX 4 dc_RD_open_155 rfl rfl ?_
                    refine xv_puti hX fl_RD_26 rfl rfl (by decide) dc_RD_open_157 rfl ?_
                    refine xv_aload_n hX 0 dc_RD_open_160 rfl rfl ?_
                    refine xv_dup hX dc_RD_open_161 rfl rfl ?_
                    refine xv_geti hX fl_RD_22 rfl rfl (by decide) (v := M 1 2) (xm_nk (by decide)) dc_RD_open_162 rfl ?_
                    refine xv_iconst hX (v := nI 1) dc_RD_open_165 (by decide) rfl ?_
                    refine xv_iadd hX dc_RD_open_166 (nI_add (M 1 2) 1) rfl ?_
                    refine xv_puti hX fl_RD_22 rfl rfl (by decide) dc_RD_open_167 rfl ?_
                    refine xv_aload_n hX 0 dc_RD_open_170 rfl rfl ?_
                    refine xv_getr hX fl_RD_18 rfl rfl (by decide) rfl dc_RD_open_171 rfl ?_
                    refine xv_aload_n hX 0 dc_RD_open_174 rfl rfl ?_
                    refine xv_geti hX fl_RD_22 rfl rfl (by decide) (v := M 1 2 + 1) xm_eq dc_RD_open_175 rfl ?_
                    refine xv_iload hX 4 dc_RD_open_178 rfl rfl ?_
                    refine xv_iload_n hX 3 dc_RD_open_180 rfl rfl ?_
                    refine xv_iadd hX dc_RD_open_181 (nI_add (M 1 3 + 3) (M 3 (M 1 3 + 2))) rfl ?_
                    refine xv_iast hX rfl (by decide) (by omega) (by decide) dc_RD_open_182 rfl ?_
                    refine xv_retv hX hR dc_RD_open_183 ?_
                    refine rd_opY hI hs (by omega) ?_
                    unfold ps_hd
                    repeat' split
                    all_goals first
                      | rfl
                      | (exfalso; omega)
                      | (simp only [Option.some.injEq, Prod.mk.injEq]; omega)
                  · skip
                    refine xv_aload_n hX 0 dc_RD_open_148 rfl rfl ?_
                    refine xv_iconst hX (v := nI 0) dc_RD_open_149 (by decide) rfl ?_
                    refine xv_putz hX fl_RD_29 rfl rfl (by decide) (by decide) dc_RD_open_150 rfl ?_
                    refine xv_retv hX hR dc_RD_open_153 ?_
                    first
                    | exact rd_opN hI (Or.inl (by omega))
                    | exact rd_opN hI (Or.inr (Or.inl (by omega)))
                    | exact rd_opN hI (Or.inr (Or.inr (by unfold ps_hd; (repeat' split) <;> first | rfl | (exfalso; omega))))
                · skip
                  refine xv_aload_n hX 0 dc_RD_open_120 rfl rfl ?_
                  refine xv_iconst hX (v := nI 0) dc_RD_open_121 (by decide) rfl ?_
                  refine xv_putz hX fl_RD_29 rfl rfl (by decide) (by decide) dc_RD_open_122 rfl ?_
                  refine xv_retv hX hR dc_RD_open_125 ?_
                  first
                  | exact rd_opN hI (Or.inl (by omega))
                  | exact rd_opN hI (Or.inr (Or.inl (by omega)))
                  | exact rd_opN hI (Or.inr (Or.inr (by unfold ps_hd; (repeat' split) <;> first | rfl | (exfalso; omega))))
        · skip
          refine xv_aload_n hX 0 dc_RD_open_57 rfl rfl ?_
          refine xv_iconst hX (v := nI 0) dc_RD_open_58 (by decide) rfl ?_
          refine xv_putz hX fl_RD_29 rfl rfl (by decide) (by decide) dc_RD_open_59 rfl ?_
          refine xv_retv hX hR dc_RD_open_62 ?_
          first
          | exact rd_opN hI (Or.inl (by omega))
          | exact rd_opN hI (Or.inr (Or.inl (by omega)))
          | exact rd_opN hI (Or.inr (Or.inr (by unfold ps_hd; (repeat' split) <;> first | rfl | (exfalso; omega))))

set_option maxRecDepth 100000 in
set_option maxHeartbeats 4000000 in
theorem ct_RD_close (l : Launch) (Y : xw_Y) (M : xm_M) (hI : rd_I M) : xc_v l qm_RD_close 0 Y [.ref (Y.2.2.2 1)] M (fun M1 => rd_Q M M1 (rd_close (rd_of M))) := by
  refine xc_v.mk rfl (by decide) (Nat.le_of_ble_eq_true rfl) ?_
  intro X hXl hX hR
  subst hXl
  have hX : xv_ok X Y prog_7_method_10_code "CertificatePath$Reader" 1 (xc_rm 0) := hX
  show xv_V X Y 1 0 0 xw_lk xw_N M 0 [(0, .ref (Y.2.2.2 1))] []
  obtain ⟨h1, h2, h3, h4, h5, h6, h7⟩ := id hI
  have h6d := h6 (M 1 2) (Nat.le_refl _)
  refine xv_aload_n hX 0 dc_RD_close_0 rfl rfl ?_
  refine xv_geti hX fl_RD_29 rfl rfl (by decide) (v := M 1 4) rfl dc_RD_close_1 rfl ?_
  refine xv_if_eq hX (nI_toInt (by omega)) (tgt := 30) (pq := 7) dc_RD_close_4 (by decide) rfl (fun c4 => ?_) (fun c4 => ?_)
  · skip
    refine xv_aload_n hX 0 dc_RD_close_30 rfl rfl ?_
    refine xv_iconst hX (v := nI 0) dc_RD_close_31 (by decide) rfl ?_
    refine xv_putz hX fl_RD_29 rfl rfl (by decide) (by decide) dc_RD_close_32 rfl ?_
    refine xv_retv hX hR dc_RD_close_35 ?_
    first
    | exact rd_clN hI (Or.inl (by omega))
    | exact rd_clN hI (Or.inr (Or.inl (by omega)))
    | exact rd_clN hI (Or.inr (Or.inr (by omega)))
  · skip
    have hs : M 1 4 = 1 := by omega
    have h7d := (h7 hs).1
    refine xv_aload_n hX 0 dc_RD_close_7 rfl rfl ?_
    refine xv_geti hX fl_RD_22 rfl rfl (by decide) (v := M 1 2) rfl dc_RD_close_8 rfl ?_
    refine xv_if_eq hX (nI_toInt (by omega)) (tgt := 30) (pq := 14) dc_RD_close_11 (by decide) rfl (fun c11 => ?_) (fun c11 => ?_)
    · skip
      refine xv_aload_n hX 0 dc_RD_close_30 rfl rfl ?_
      refine xv_iconst hX (v := nI 0) dc_RD_close_31 (by decide) rfl ?_
      refine xv_putz hX fl_RD_29 rfl rfl (by decide) (by decide) dc_RD_close_32 rfl ?_
      refine xv_retv hX hR dc_RD_close_35 ?_
      first
      | exact rd_clN hI (Or.inl (by omega))
      | exact rd_clN hI (Or.inr (Or.inl (by omega)))
      | exact rd_clN hI (Or.inr (Or.inr (by omega)))
    · skip
      refine xv_aload_n hX 0 dc_RD_close_14 rfl rfl ?_
      refine xv_geti hX fl_RD_26 rfl rfl (by decide) (v := M 1 3) rfl dc_RD_close_15 rfl ?_
      refine xv_aload_n hX 0 dc_RD_close_18 rfl rfl ?_
      refine xv_getr hX fl_RD_18 rfl rfl (by decide) rfl dc_RD_close_19 rfl ?_
      refine xv_aload_n hX 0 dc_RD_close_22 rfl rfl ?_
      refine xv_geti hX fl_RD_22 rfl rfl (by decide) (v := M 1 2) rfl dc_RD_close_23 rfl ?_
      refine xv_iald hX rfl (by decide) (by omega) (by decide) (v := M 4 (M 1 2)) rfl dc_RD_close_26 rfl ?_
      refine xv_icmp_eq hX (nI_toInt (by omega)) (nI_toInt (by omega)) (tgt := 36) (pq := 30) dc_RD_close_27 (by decide) rfl (fun c27 => ?_) (fun c27 => ?_)
      · skip
        refine xv_aload_n hX 0 dc_RD_close_36 rfl rfl ?_
        refine xv_dup hX dc_RD_close_37 rfl rfl ?_
        refine xv_geti hX fl_RD_22 rfl rfl (by decide) (v := M 1 2) rfl dc_RD_close_38 rfl ?_
        refine xv_iconst hX (v := nI 1) dc_RD_close_41 (by decide) rfl ?_
        refine xv_isub hX dc_RD_close_42 (pk_sub (by omega)) rfl ?_
        refine xv_puti hX fl_RD_22 rfl rfl (by decide) dc_RD_close_43 rfl ?_
        refine xv_retv hX hR dc_RD_close_46 ?_
        exact rd_clY hI hs (by omega) (by omega)
      · skip
        refine xv_aload_n hX 0 dc_RD_close_30 rfl rfl ?_
        refine xv_iconst hX (v := nI 0) dc_RD_close_31 (by decide) rfl ?_
        refine xv_putz hX fl_RD_29 rfl rfl (by decide) (by decide) dc_RD_close_32 rfl ?_
        refine xv_retv hX hR dc_RD_close_35 ?_
        first
        | exact rd_clN hI (Or.inl (by omega))
        | exact rd_clN hI (Or.inr (Or.inl (by omega)))
        | exact rd_clN hI (Or.inr (Or.inr (by omega)))
end
section
/-! Reader: INTEGER and TRUE -/
set_option maxRecDepth 100000 in
set_option maxHeartbeats 4000000 in
theorem ct_RD_readInteger (l : Launch) (Y : xw_Y) (M : xm_M) (lo hi : Nat) (hI : rd_I M) (hlo : lo ≤ hi) (hhi : hi < 2 ^ 31) : xc_i l qm_RD_readInteger 1 Y [.ref (Y.2.2.2 1), .int (nI lo), .int (nI hi)] M (fun r M1 => rd_Q M M1 (rd_int (M 3) lo hi (rd_of M)).1 ∧ ∃ w, r = nI w ∧ lo ≤ w ∧ w ≤ hi ∧ ((rd_int (M 3) lo hi (rd_of M)).1 ≠ none → w = (rd_int (M 3) lo hi (rd_of M)).2)) := by
  refine xc_i.mk .int rfl (by decide) (Nat.le_of_ble_eq_true rfl) ?_
  intro X hXl hX hR
  subst hXl
  have hX : xv_ok X Y prog_7_method_11_code "CertificatePath$Reader" 8 (xc_rm 1) := hX
  show xv_V X Y 8 0 0 xw_lk xw_N M 0 [(0, .ref (Y.2.2.2 1)), (1, .int (nI lo)), (2, .int (nI hi))] []
  refine xv_aload_n hX 0 dc_RD_readInteger_0 rfl rfl ?_
  refine xv_iconst hX (v := nI 2) dc_RD_readInteger_1 (by decide) rfl ?_
  refine xv_callv hX (As := [.int (nI 2)]) (rest := []) (ct_RD_open _ Y M 2 hI (by decide)) ml_RD_43 li_RD_open rfl (by decide) rfl rfl rfl (by decide) ⟨by decide, by decide⟩ ⟨Nat.le_refl _, Nat.le_refl _⟩ (by decide) dc_RD_readInteger_2 rfl (fun M2 p2 => ?_)
  obtain ⟨i2, f2, e2⟩ := p2
  have b2 : M2 3 = M 3 := f2 3 (by decide) (by decide)
  have hn := rd_rem_le i2
  refine xv_aload_n hX 0 dc_RD_readInteger_5 rfl rfl ?_
  refine xv_calli hX (As := []) (rest := []) (ct_RD_remaining _ Y M2 i2) ml_RD_47 li_RD_remaining rfl (by decide) rfl rfl rfl (by decide) ⟨by decide, by decide⟩ ⟨Nat.le_refl _, Nat.le_refl _⟩ (by decide) dc_RD_readInteger_6 rfl (fun r6 M6 p6 => ?_)
  rw [p6.1, p6.2]
  refine xv_istore_n hX [1, 2, 3, 0] dc_RD_readInteger_9 (by decide) (L' := [(0, .ref (Y.2.2.2 1)), (1, .int (nI lo)), (2, .int (nI hi)), (3, .int (nI (rd_rem (rd_of M2))))]) rfl rfl ?_
  refine xv_iload_n hX 3 dc_RD_readInteger_10 rfl rfl ?_
  refine xv_iconst hX (v := nI 1) dc_RD_readInteger_11 (by decide) rfl ?_
  refine xv_icmp_lt hX (nI_toInt (by omega)) (show (nI 1).toInt = 1 by decide) (tgt := 20) (pq := 15) dc_RD_readInteger_12 (by decide) rfl (fun c12 => ?_) (fun c12 => ?_)
  · skip
    refine xv_aload_n hX 0 dc_RD_readInteger_20 rfl rfl ?_
    refine xv_callv hX (As := []) (rest := []) (ct_RD_refuse _ Y M2 i2) ml_RD_51 li_RD_refuse rfl (by decide) rfl rfl rfl (by decide) ⟨by decide, by decide⟩ ⟨Nat.le_refl _, Nat.le_refl _⟩ (by decide) dc_RD_readInteger_21 rfl (fun M21 p21 => ?_)
    obtain ⟨i21, f21, e21⟩ := p21
    refine xv_iload_n hX 1 dc_RD_readInteger_24 rfl rfl ?_
    refine xv_reti hX hR rfl dc_RD_readInteger_25 ?_
    have hA := rd_intA (lo := lo) (hi := hi) (show ¬ (1 ≤ rd_rem (rd_open (M 3) 2 (rd_of M)) ∧ rd_rem (rd_open (M 3) 2 (rd_of M)) ≤ 4) by rw [← e2]; omega)
    rw [hA]
    exact ⟨⟨i21, f2.tr f21, e21⟩, lo, rfl, Nat.le_refl _, hlo, fun h => absurd rfl h⟩
  · skip
    refine xv_iload_n hX 3 dc_RD_readInteger_15 rfl rfl ?_
    refine xv_iconst hX (v := nI 4) dc_RD_readInteger_16 (by decide) rfl ?_
    refine xv_icmp_le hX (nI_toInt (by omega)) (show (nI 4).toInt = 4 by decide) (tgt := 26) (pq := 20) dc_RD_readInteger_17 (by decide) rfl (fun c17 => ?_) (fun c17 => ?_)
    · skip
      obtain ⟨f, e, ls, hs1, hn1⟩ := rd_remP (show 1 ≤ rd_rem (rd_of M2) by omega)
      have hop : rd_open (M 3) 2 (rd_of M) = some (f, e :: ls) := by rw [← e2]; exact hs1
      obtain ⟨m, ls, rfl⟩ : ∃ m ms, ls = m :: ms := by obtain ⟨_, _, l, ls9, _, _, _, h9⟩ := rd_openI hop; simp only [List.cons.injEq] at h9; exact ⟨l, ls9, h9.2⟩
      refine xv_aload_n hX 0 dc_RD_readInteger_26 rfl rfl ?_
      refine xv_calli hX (As := []) (rest := []) (ct_RD_readByte _ Y M2 i2) ml_RD_54 li_RD_readByte rfl (by decide) rfl rfl rfl (by decide) ⟨by decide, by decide⟩ ⟨Nat.le_refl _, Nat.le_refl _⟩ (by decide) dc_RD_readInteger_27 rfl (fun r27 M27 p27 => ?_)
      obtain ⟨⟨i27, f27, e27⟩, z27⟩ := p27
      have z : rd_byte (M2 3) (rd_of M2) = M 3 f := by rw [hs1, b2]; exact if_pos (by omega)
      rw [z27, z]
      have hb0 : M 3 f < 256 := by have h := rd_byte_lt i2; rw [z] at h; exact h
      refine xv_istore hX [1, 2, 3, 4, 0] dc_RD_readInteger_30 (by decide) (L' := [(0, .ref (Y.2.2.2 1)), (1, .int (nI lo)), (2, .int (nI hi)), (3, .int (nI (rd_rem (rd_of M2)))), (4, .int (nI (M 3 f)))]) rfl rfl ?_
      refine xv_iload hX 4 dc_RD_readInteger_32 rfl rfl ?_
      refine xv_istore hX [1, 2, 3, 4, 5, 0] dc_RD_readInteger_34 (by decide) (L' := [(0, .ref (Y.2.2.2 1)), (1, .int (nI lo)), (2, .int (nI hi)), (3, .int (nI (rd_rem (rd_of M2)))), (4, .int (nI (M 3 f))), (5, .int (nI (M 3 f)))]) rfl rfl ?_
      refine xv_iconst hX (v := nI 1) dc_RD_readInteger_36 (by decide) rfl ?_
      refine xv_istore hX [1, 2, 3, 4, 5, 6, 0] dc_RD_readInteger_37 (by decide) (L' := [(0, .ref (Y.2.2.2 1)), (1, .int (nI lo)), (2, .int (nI hi)), (3, .int (nI (rd_rem (rd_of M2)))), (4, .int (nI (M 3 f))), (5, .int (nI (M 3 f))), (6, .int (nI 1))]) rfl rfl ?_
      have lp39 : ∀ (n : Nat) (j : Nat) (Mk : xm_M) (v : Nat) (hj : j + 1 ≤ e - f) (hIk : rd_I Mk) (hF : rd_F M Mk) (he : rd_of Mk = rd_ib (M 3) f e (m :: ls) j) (hv1 : ¬ (1 ≤ j ∧ M 3 f = 0 ∧ M 3 (f + 1) < 128) → v = ps_be (M 3) f (j + 1)) (hv2 : v < (M 3 f + 1) * 256 ^ j), 4 - j < n → xv_V X Y 8 0 0 xw_lk xw_N Mk 39 [(0, .ref (Y.2.2.2 1)), (1, .int (nI lo)), (2, .int (nI hi)), (3, .int (nI (rd_rem (rd_of M2)))), (4, .int (nI (M 3 f))), (5, .int (nI v)), (6, .int (nI (j + 1)))] [] := by
        intro n
        induction n with
        | zero => intro j Mk v hj hIk hF he hv1 hv2 hm; exact absurd hm (Nat.not_lt_zero _)
        | succ n ih =>
          intro j Mk v hj hIk hF he hv1 hv2 hm
          refine xv_iload hX 6 dc_RD_readInteger_39 rfl rfl ?_
          refine xv_iload_n hX 3 dc_RD_readInteger_41 rfl rfl ?_
          refine xv_icmp_ge hX (nI_toInt (by omega)) (nI_toInt (by omega)) (tgt := 90) (pq := 45) dc_RD_readInteger_42 (by decide) rfl (fun c42 => ?_) (fun c42 => ?_)
          · skip
            refine xv_aload_n hX 0 dc_RD_readInteger_90 rfl rfl ?_
            refine xv_callv hX (As := []) (rest := []) (ct_RD_close _ Y Mk hIk) ml_RD_57 li_RD_close rfl (by decide) rfl rfl rfl (by decide) ⟨by decide, by decide⟩ ⟨Nat.le_refl _, Nat.le_refl _⟩ (by decide) dc_RD_readInteger_91 rfl (fun M91 p91 => ?_)
            obtain ⟨i91, f91, e91⟩ := p91
            have hjn : j + 1 = e - f := by omega
            rw [he, rd_ib_close hjn] at e91
            have hB := rd_intB (lo := lo) (hi := hi) hop ⟨by omega, by omega⟩
            refine xv_iload hX 4 dc_RD_readInteger_94 rfl rfl ?_
            refine xv_bipush hX (v := nI 127) dc_RD_readInteger_96 (by decide) rfl ?_
            refine xv_icmp_gt hX (nI_toInt (by omega)) (show (nI 127).toInt = 127 by decide) (tgt := 113) (pq := 101) dc_RD_readInteger_98 (by decide) rfl (fun c98 => ?_) (fun c98 => ?_)
            · skip
              refine xv_aload_n hX 0 dc_RD_readInteger_113 rfl rfl ?_
              refine xv_callv hX (As := []) (rest := []) (ct_RD_refuse _ Y M91 i91) ml_RD_51 li_RD_refuse rfl (by decide) rfl rfl rfl (by decide) ⟨by decide, by decide⟩ ⟨Nat.le_refl _, Nat.le_refl _⟩ (by decide) dc_RD_readInteger_114 rfl (fun M114 p114 => ?_)
              obtain ⟨i114, f114, e114⟩ := p114
              refine xv_iload_n hX 1 dc_RD_readInteger_117 rfl rfl ?_
              refine xv_reti hX hR rfl dc_RD_readInteger_118 ?_
              rw [hB, if_neg (by intro z; first | omega | (have hv := hv1 (by omega); rw [hjn] at hv; omega))]
              exact ⟨⟨i114, (hF.tr f91).tr f114, e114⟩, lo, rfl, Nat.le_refl _, hlo, fun h => absurd rfl h⟩
            · skip
              have hv3 := rd_pow4 (show M 3 f ≤ 127 by omega) (show j ≤ 3 by omega) hv2
              refine xv_iload hX 5 dc_RD_readInteger_101 rfl rfl ?_
              refine xv_iload_n hX 1 dc_RD_readInteger_103 rfl rfl ?_
              refine xv_icmp_lt hX (nI_toInt (by omega)) (nI_toInt (by omega)) (tgt := 113) (pq := 107) dc_RD_readInteger_104 (by decide) rfl (fun c104 => ?_) (fun c104 => ?_)
              · skip
                refine xv_aload_n hX 0 dc_RD_readInteger_113 rfl rfl ?_
                refine xv_callv hX (As := []) (rest := []) (ct_RD_refuse _ Y M91 i91) ml_RD_51 li_RD_refuse rfl (by decide) rfl rfl rfl (by decide) ⟨by decide, by decide⟩ ⟨Nat.le_refl _, Nat.le_refl _⟩ (by decide) dc_RD_readInteger_114 rfl (fun M114 p114 => ?_)
                obtain ⟨i114, f114, e114⟩ := p114
                refine xv_iload_n hX 1 dc_RD_readInteger_117 rfl rfl ?_
                refine xv_reti hX hR rfl dc_RD_readInteger_118 ?_
                rw [hB, if_neg (by intro z; first | omega | (have hv := hv1 (by omega); rw [hjn] at hv; omega))]
                exact ⟨⟨i114, (hF.tr f91).tr f114, e114⟩, lo, rfl, Nat.le_refl _, hlo, fun h => absurd rfl h⟩
              · skip
                refine xv_iload hX 5 dc_RD_readInteger_107 rfl rfl ?_
                refine xv_iload_n hX 2 dc_RD_readInteger_109 rfl rfl ?_
                refine xv_icmp_le hX (nI_toInt (by omega)) (nI_toInt (by omega)) (tgt := 119) (pq := 113) dc_RD_readInteger_110 (by decide) rfl (fun c110 => ?_) (fun c110 => ?_)
                · skip
                  refine xv_iload hX 5 dc_RD_readInteger_119 rfl rfl ?_
                  refine xv_reti hX hR rfl dc_RD_readInteger_121 ?_
                  by_cases hb : 1 < e - f ∧ M 3 f = 0 ∧ M 3 (f + 1) < 128
                  · rw [if_pos hb] at e91
                    rw [hB, if_neg (fun z => z.2.1 hb)]
                    exact ⟨⟨i91, hF.tr f91, e91⟩, v, rfl, by omega, by omega, fun h => absurd rfl h⟩
                  · have hv := hv1 (by omega)
                    rw [hjn] at hv
                    rw [if_neg hb] at e91
                    rw [hB, if_pos ⟨by omega, hb, by omega, by omega⟩]
                    exact ⟨⟨i91, hF.tr f91, e91⟩, v, rfl, by omega, by omega, fun _ => hv⟩
                · skip
                  refine xv_aload_n hX 0 dc_RD_readInteger_113 rfl rfl ?_
                  refine xv_callv hX (As := []) (rest := []) (ct_RD_refuse _ Y M91 i91) ml_RD_51 li_RD_refuse rfl (by decide) rfl rfl rfl (by decide) ⟨by decide, by decide⟩ ⟨Nat.le_refl _, Nat.le_refl _⟩ (by decide) dc_RD_readInteger_114 rfl (fun M114 p114 => ?_)
                  obtain ⟨i114, f114, e114⟩ := p114
                  refine xv_iload_n hX 1 dc_RD_readInteger_117 rfl rfl ?_
                  refine xv_reti hX hR rfl dc_RD_readInteger_118 ?_
                  rw [hB, if_neg (by intro z; first | omega | (have hv := hv1 (by omega); rw [hjn] at hv; omega))]
                  exact ⟨⟨i114, (hF.tr f91).tr f114, e114⟩, lo, rfl, Nat.le_refl _, hlo, fun h => absurd rfl h⟩
          · skip
            refine xv_aload_n hX 0 dc_RD_readInteger_45 rfl rfl ?_
            refine xv_calli hX (As := []) (rest := []) (ct_RD_readByte _ Y Mk hIk) ml_RD_54 li_RD_readByte rfl (by decide) rfl rfl rfl (by decide) ⟨by decide, by decide⟩ ⟨Nat.le_refl _, Nat.le_refl _⟩ (by decide) dc_RD_readInteger_46 rfl (fun r46 M46 p46 => ?_)
            obtain ⟨⟨i46, f46, e46⟩, z46⟩ := p46
            obtain ⟨w, hw⟩ : ∃ w, w = rd_byte (Mk 3) (rd_of Mk) := ⟨_, rfl⟩
            rw [z46, ← hw]
            have hw1 := rd_byte_lt hIk
            have bk : Mk 3 = M 3 := hF 3 (by decide) (by decide)
            have hw2 : j = 0 → w = M 3 (f + 1) := fun h0 => by rw [hw, bk, he, rd_ib_byte (by omega) (by omega), h0]
            refine xv_istore hX [1, 2, 3, 4, 5, 6, 7, 0] dc_RD_readInteger_49 (by decide) (L' := [(0, .ref (Y.2.2.2 1)), (1, .int (nI lo)), (2, .int (nI hi)), (3, .int (nI (rd_rem (rd_of M2)))), (4, .int (nI (M 3 f))), (5, .int (nI v)), (6, .int (nI (j + 1))), (7, .int (nI w))]) rfl rfl ?_
            refine xv_iload hX 6 dc_RD_readInteger_51 rfl rfl ?_
            refine xv_iconst hX (v := nI 1) dc_RD_readInteger_53 (by decide) rfl ?_
            refine xv_icmp_ne hX (nI_toInt (by omega)) (show (nI 1).toInt = 1 by decide) (tgt := 74) (pq := 57) dc_RD_readInteger_54 (by decide) rfl (fun c54 => ?_) (fun c54 => ?_)
            · skip
              refine xv_iload hX 5 dc_RD_readInteger_74 rfl rfl ?_
              refine xv_bipush hX (v := nI 8) dc_RD_readInteger_76 (by decide) rfl ?_
              refine xv_ishl hX dc_RD_readInteger_78 (xi_shl8 _) rfl ?_
              refine xv_iload hX 7 dc_RD_readInteger_79 rfl rfl ?_
              refine xv_ior hX dc_RD_readInteger_81 (xi_or8 (by omega)) rfl ?_
              refine xv_istore hX [1, 2, 3, 4, 5, 0, 6, 7] dc_RD_readInteger_82 (by decide) (L' := [(0, .ref (Y.2.2.2 1)), (1, .int (nI lo)), (2, .int (nI hi)), (3, .int (nI (rd_rem (rd_of M2)))), (4, .int (nI (M 3 f))), (5, .int (nI (v * 256 + w))), (6, .int (nI (j + 1))), (7, .int (nI w))]) rfl rfl ?_
              refine xv_iinc hX 6 [1, 2, 3, 4, 5, 6, 0, 7] dc_RD_readInteger_84 rfl (xi_inc (j + 1) 1) (by decide) (L' := [(0, .ref (Y.2.2.2 1)), (1, .int (nI lo)), (2, .int (nI hi)), (3, .int (nI (rd_rem (rd_of M2)))), (4, .int (nI (M 3 f))), (5, .int (nI (v * 256 + w))), (6, .int (nI (j + 2))), (7, .int (nI w))]) rfl rfl ?_
              refine xv_goto hX (pq := 39) dc_RD_readInteger_87 (by decide) ?_
              refine xv_sub (L' := [(0, .ref (Y.2.2.2 1)), (1, .int (nI lo)), (2, .int (nI hi)), (3, .int (nI (rd_rem (rd_of M2)))), (4, .int (nI (M 3 f))), (5, .int (nI (v * 256 + w))), (6, .int (nI (j + 2)))]) [0, 1, 2, 3, 4, 5, 6] rfl ?_
              exact ih (j + 1) M46 (v * 256 + w) (by omega) i46 (hF.tr f46) (by rw [e46, he]; exact rd_ib_next (by omega) (by omega)) (fun hb => by have hv := hv1 (by omega); rw [hv, hw, bk, he, rd_ib_byte (by omega) (by omega)]; show _ = 256 * ps_be (M 3) f (j + 1) + _; omega) (by rw [Nat.pow_succ, ← Nat.mul_assoc]; omega) (by omega)
            · skip
              refine xv_iload hX 4 dc_RD_readInteger_57 rfl rfl ?_
              refine xv_if_ne hX (nI_toInt (by omega)) (tgt := 74) (pq := 62) dc_RD_readInteger_59 (by decide) rfl (fun c59 => ?_) (fun c59 => ?_)
              · skip
                refine xv_iload hX 5 dc_RD_readInteger_74 rfl rfl ?_
                refine xv_bipush hX (v := nI 8) dc_RD_readInteger_76 (by decide) rfl ?_
                refine xv_ishl hX dc_RD_readInteger_78 (xi_shl8 _) rfl ?_
                refine xv_iload hX 7 dc_RD_readInteger_79 rfl rfl ?_
                refine xv_ior hX dc_RD_readInteger_81 (xi_or8 (by omega)) rfl ?_
                refine xv_istore hX [1, 2, 3, 4, 5, 0, 6, 7] dc_RD_readInteger_82 (by decide) (L' := [(0, .ref (Y.2.2.2 1)), (1, .int (nI lo)), (2, .int (nI hi)), (3, .int (nI (rd_rem (rd_of M2)))), (4, .int (nI (M 3 f))), (5, .int (nI (v * 256 + w))), (6, .int (nI (j + 1))), (7, .int (nI w))]) rfl rfl ?_
                refine xv_iinc hX 6 [1, 2, 3, 4, 5, 6, 0, 7] dc_RD_readInteger_84 rfl (xi_inc (j + 1) 1) (by decide) (L' := [(0, .ref (Y.2.2.2 1)), (1, .int (nI lo)), (2, .int (nI hi)), (3, .int (nI (rd_rem (rd_of M2)))), (4, .int (nI (M 3 f))), (5, .int (nI (v * 256 + w))), (6, .int (nI (j + 2))), (7, .int (nI w))]) rfl rfl ?_
                refine xv_goto hX (pq := 39) dc_RD_readInteger_87 (by decide) ?_
                refine xv_sub (L' := [(0, .ref (Y.2.2.2 1)), (1, .int (nI lo)), (2, .int (nI hi)), (3, .int (nI (rd_rem (rd_of M2)))), (4, .int (nI (M 3 f))), (5, .int (nI (v * 256 + w))), (6, .int (nI (j + 2)))]) [0, 1, 2, 3, 4, 5, 6] rfl ?_
                exact ih (j + 1) M46 (v * 256 + w) (by omega) i46 (hF.tr f46) (by rw [e46, he]; exact rd_ib_next (by omega) (by omega)) (fun hb => by have hv := hv1 (by omega); rw [hv, hw, bk, he, rd_ib_byte (by omega) (by omega)]; show _ = 256 * ps_be (M 3) f (j + 1) + _; omega) (by rw [Nat.pow_succ, ← Nat.mul_assoc]; omega) (by omega)
              · skip
                refine xv_iload hX 7 dc_RD_readInteger_62 rfl rfl ?_
                refine xv_sipush hX (v := nI 128) dc_RD_readInteger_64 (by decide) rfl ?_
                refine xv_icmp_ge hX (nI_toInt (by omega)) (show (nI 128).toInt = 128 by decide) (tgt := 74) (pq := 70) dc_RD_readInteger_67 (by decide) rfl (fun c67 => ?_) (fun c67 => ?_)
                · skip
                  refine xv_iload hX 5 dc_RD_readInteger_74 rfl rfl ?_
                  refine xv_bipush hX (v := nI 8) dc_RD_readInteger_76 (by decide) rfl ?_
                  refine xv_ishl hX dc_RD_readInteger_78 (xi_shl8 _) rfl ?_
                  refine xv_iload hX 7 dc_RD_readInteger_79 rfl rfl ?_
                  refine xv_ior hX dc_RD_readInteger_81 (xi_or8 (by omega)) rfl ?_
                  refine xv_istore hX [1, 2, 3, 4, 5, 0, 6, 7] dc_RD_readInteger_82 (by decide) (L' := [(0, .ref (Y.2.2.2 1)), (1, .int (nI lo)), (2, .int (nI hi)), (3, .int (nI (rd_rem (rd_of M2)))), (4, .int (nI (M 3 f))), (5, .int (nI (v * 256 + w))), (6, .int (nI (j + 1))), (7, .int (nI w))]) rfl rfl ?_
                  refine xv_iinc hX 6 [1, 2, 3, 4, 5, 6, 0, 7] dc_RD_readInteger_84 rfl (xi_inc (j + 1) 1) (by decide) (L' := [(0, .ref (Y.2.2.2 1)), (1, .int (nI lo)), (2, .int (nI hi)), (3, .int (nI (rd_rem (rd_of M2)))), (4, .int (nI (M 3 f))), (5, .int (nI (v * 256 + w))), (6, .int (nI (j + 2))), (7, .int (nI w))]) rfl rfl ?_
                  refine xv_goto hX (pq := 39) dc_RD_readInteger_87 (by decide) ?_
                  refine xv_sub (L' := [(0, .ref (Y.2.2.2 1)), (1, .int (nI lo)), (2, .int (nI hi)), (3, .int (nI (rd_rem (rd_of M2)))), (4, .int (nI (M 3 f))), (5, .int (nI (v * 256 + w))), (6, .int (nI (j + 2)))]) [0, 1, 2, 3, 4, 5, 6] rfl ?_
                  exact ih (j + 1) M46 (v * 256 + w) (by omega) i46 (hF.tr f46) (by rw [e46, he]; exact rd_ib_next (by omega) (by omega)) (fun hb => by have hv := hv1 (by omega); rw [hv, hw, bk, he, rd_ib_byte (by omega) (by omega)]; show _ = 256 * ps_be (M 3) f (j + 1) + _; omega) (by rw [Nat.pow_succ, ← Nat.mul_assoc]; omega) (by omega)
                · skip
                  refine xv_aload_n hX 0 dc_RD_readInteger_70 rfl rfl ?_
                  refine xv_callv hX (As := []) (rest := []) (ct_RD_refuse _ Y M46 i46) ml_RD_51 li_RD_refuse rfl (by decide) rfl rfl rfl (by decide) ⟨by decide, by decide⟩ ⟨Nat.le_refl _, Nat.le_refl _⟩ (by decide) dc_RD_readInteger_71 rfl (fun M71 p71 => ?_)
                  obtain ⟨i71, f71, e71⟩ := p71
                  refine xv_iload hX 5 dc_RD_readInteger_74 rfl rfl ?_
                  refine xv_bipush hX (v := nI 8) dc_RD_readInteger_76 (by decide) rfl ?_
                  refine xv_ishl hX dc_RD_readInteger_78 (xi_shl8 _) rfl ?_
                  refine xv_iload hX 7 dc_RD_readInteger_79 rfl rfl ?_
                  refine xv_ior hX dc_RD_readInteger_81 (xi_or8 (by omega)) rfl ?_
                  refine xv_istore hX [1, 2, 3, 4, 5, 0, 6, 7] dc_RD_readInteger_82 (by decide) (L' := [(0, .ref (Y.2.2.2 1)), (1, .int (nI lo)), (2, .int (nI hi)), (3, .int (nI (rd_rem (rd_of M2)))), (4, .int (nI (M 3 f))), (5, .int (nI (v * 256 + w))), (6, .int (nI (j + 1))), (7, .int (nI w))]) rfl rfl ?_
                  refine xv_iinc hX 6 [1, 2, 3, 4, 5, 6, 0, 7] dc_RD_readInteger_84 rfl (xi_inc (j + 1) 1) (by decide) (L' := [(0, .ref (Y.2.2.2 1)), (1, .int (nI lo)), (2, .int (nI hi)), (3, .int (nI (rd_rem (rd_of M2)))), (4, .int (nI (M 3 f))), (5, .int (nI (v * 256 + w))), (6, .int (nI (j + 2))), (7, .int (nI w))]) rfl rfl ?_
                  refine xv_goto hX (pq := 39) dc_RD_readInteger_87 (by decide) ?_
                  refine xv_sub (L' := [(0, .ref (Y.2.2.2 1)), (1, .int (nI lo)), (2, .int (nI hi)), (3, .int (nI (rd_rem (rd_of M2)))), (4, .int (nI (M 3 f))), (5, .int (nI (v * 256 + w))), (6, .int (nI (j + 2)))]) [0, 1, 2, 3, 4, 5, 6] rfl ?_
                  exact ih (j + 1) M71 (v * 256 + w) (by omega) i71 ((hF.tr f46).tr f71) (by rw [e71]; unfold rd_ib; rw [if_pos (by omega)]) (fun hb => absurd hb (by omega)) (by rw [Nat.pow_succ, ← Nat.mul_assoc]; omega) (by omega)
      refine xv_sub (L' := [(0, .ref (Y.2.2.2 1)), (1, .int (nI lo)), (2, .int (nI hi)), (3, .int (nI (rd_rem (rd_of M2)))), (4, .int (nI (M 3 f))), (5, .int (nI (M 3 f))), (6, .int (nI 1))]) [0, 1, 2, 3, 4, 5, 6] rfl ?_
      exact lp39 _ 0 M27 (M 3 f) (by omega) i27 (f2.tr f27) (by rw [e27, hs1]; unfold rd_ib; rw [if_neg (by omega)]; exact if_pos (by omega)) (fun _ => by simp [ps_be]) (by simp) (Nat.lt_succ_self _)
    · skip
      refine xv_aload_n hX 0 dc_RD_readInteger_20 rfl rfl ?_
      refine xv_callv hX (As := []) (rest := []) (ct_RD_refuse _ Y M2 i2) ml_RD_51 li_RD_refuse rfl (by decide) rfl rfl rfl (by decide) ⟨by decide, by decide⟩ ⟨Nat.le_refl _, Nat.le_refl _⟩ (by decide) dc_RD_readInteger_21 rfl (fun M21 p21 => ?_)
      obtain ⟨i21, f21, e21⟩ := p21
      refine xv_iload_n hX 1 dc_RD_readInteger_24 rfl rfl ?_
      refine xv_reti hX hR rfl dc_RD_readInteger_25 ?_
      have hA := rd_intA (lo := lo) (hi := hi) (show ¬ (1 ≤ rd_rem (rd_open (M 3) 2 (rd_of M)) ∧ rd_rem (rd_open (M 3) 2 (rd_of M)) ≤ 4) by rw [← e2]; omega)
      rw [hA]
      exact ⟨⟨i21, f2.tr f21, e21⟩, lo, rfl, Nat.le_refl _, hlo, fun h => absurd rfl h⟩
set_option maxRecDepth 100000 in
set_option maxHeartbeats 4000000 in
theorem ct_RD_readTrueIfThere (l : Launch) (Y : xw_Y) (M : xm_M) (hI : rd_I M) : xc_i l qm_RD_readTrueIfThere 1 Y [.ref (Y.2.2.2 1)] M (fun r M1 => rd_Q M M1 (rd_tru (M 3) (rd_of M)).1 ∧ r = nI (if rd_is (M 3) 1 (rd_of M) = true then 1 else 0)) := by
  refine xc_i.mk .boolean rfl (by decide) (Nat.le_of_ble_eq_true rfl) ?_
  intro X hXl hX hR
  subst hXl
  have hX : xv_ok X Y prog_7_method_12_code "CertificatePath$Reader" 1 (xc_rm 1) := hX
  show xv_V X Y 1 0 0 xw_lk xw_N M 0 [(0, .ref (Y.2.2.2 1))] []
  refine xv_aload_n hX 0 dc_RD_readTrueIfThere_0 rfl rfl ?_
  refine xv_iconst hX (v := nI 1) dc_RD_readTrueIfThere_1 (by decide) rfl ?_
  refine xv_calli hX (As := [.int (nI 1)]) (rest := []) (ct_RD_nextIs _ Y M 1 hI (by decide)) ml_RD_60 li_RD_nextIs rfl (by decide) rfl rfl rfl (by decide) ⟨by decide, by decide⟩ ⟨Nat.le_refl _, Nat.le_refl _⟩ (by decide) dc_RD_readTrueIfThere_2 rfl (fun r2 M2 p2 => ?_)
  rw [p2.1, p2.2]
  have hif : (if rd_is (M 3) 1 (rd_of M) = true then 1 else 0) < 2 := by split <;> decide
  refine xv_if_ne hX (nI_toInt (by omega)) (tgt := 10) (pq := 8) dc_RD_readTrueIfThere_5 (by decide) rfl (fun c5 => ?_) (fun c5 => ?_)
  · skip
    have hc : rd_is (M 3) 1 (rd_of M) = true := by cases h : rd_is (M 3) 1 (rd_of M) with
      | true => rfl
      | false => rw [h] at c5; simp at c5
    refine xv_aload_n hX 0 dc_RD_readTrueIfThere_10 rfl rfl ?_
    refine xv_iconst hX (v := nI 1) dc_RD_readTrueIfThere_11 (by decide) rfl ?_
    refine xv_callv hX (As := [.int (nI 1)]) (rest := []) (ct_RD_open _ Y M 1 hI (by decide)) ml_RD_43 li_RD_open rfl (by decide) rfl rfl rfl (by decide) ⟨by decide, by decide⟩ ⟨Nat.le_refl _, Nat.le_refl _⟩ (by decide) dc_RD_readTrueIfThere_12 rfl (fun M12 p12 => ?_)
    obtain ⟨i12, f12, e12⟩ := p12
    have b12 : M12 3 = M 3 := f12 3 (by decide) (by decide)
    refine xv_aload_n hX 0 dc_RD_readTrueIfThere_15 rfl rfl ?_
    refine xv_calli hX (As := []) (rest := []) (ct_RD_readByte _ Y M12 i12) ml_RD_54 li_RD_readByte rfl (by decide) rfl rfl rfl (by decide) ⟨by decide, by decide⟩ ⟨Nat.le_refl _, Nat.le_refl _⟩ (by decide) dc_RD_readTrueIfThere_16 rfl (fun r16 M16 p16 => ?_)
    obtain ⟨⟨i16, f16, e16⟩, z16⟩ := p16
    have hw := rd_byte_lt i12
    rw [z16]
    refine xv_sipush hX (v := nI 255) dc_RD_readTrueIfThere_19 (by decide) rfl ?_
    refine xv_icmp_eq hX (nI_toInt (by omega)) (show (nI 255).toInt = 255 by decide) (tgt := 29) (pq := 25) dc_RD_readTrueIfThere_22 (by decide) rfl (fun c22 => ?_) (fun c22 => ?_)
    · skip
      refine xv_aload_n hX 0 dc_RD_readTrueIfThere_29 rfl rfl ?_
      refine xv_callv hX (As := []) (rest := []) (ct_RD_close _ Y M16 i16) ml_RD_57 li_RD_close rfl (by decide) rfl rfl rfl (by decide) ⟨by decide, by decide⟩ ⟨Nat.le_refl _, Nat.le_refl _⟩ (by decide) dc_RD_readTrueIfThere_30 rfl (fun M30 p30 => ?_)
      obtain ⟨i30, f30, e30⟩ := p30
      refine xv_iconst hX (v := nI 1) dc_RD_readTrueIfThere_33 (by decide) rfl ?_
      refine xv_reti hX hR (by decide) dc_RD_readTrueIfThere_34 ?_
      rw [hc, rd_truT hc, ← e12, ← b12]
      rw [if_pos (by omega)]
      rw [e16] at e30
      exact ⟨⟨i30, (f12.tr f16).tr f30, e30⟩, rfl⟩
    · skip
      refine xv_aload_n hX 0 dc_RD_readTrueIfThere_25 rfl rfl ?_
      refine xv_callv hX (As := []) (rest := []) (ct_RD_refuse _ Y M16 i16) ml_RD_51 li_RD_refuse rfl (by decide) rfl rfl rfl (by decide) ⟨by decide, by decide⟩ ⟨Nat.le_refl _, Nat.le_refl _⟩ (by decide) dc_RD_readTrueIfThere_26 rfl (fun M26 p26 => ?_)
      obtain ⟨i26, f26, e26⟩ := p26
      refine xv_aload_n hX 0 dc_RD_readTrueIfThere_29 rfl rfl ?_
      refine xv_callv hX (As := []) (rest := []) (ct_RD_close _ Y M26 i26) ml_RD_57 li_RD_close rfl (by decide) rfl rfl rfl (by decide) ⟨by decide, by decide⟩ ⟨Nat.le_refl _, Nat.le_refl _⟩ (by decide) dc_RD_readTrueIfThere_30 rfl (fun M30 p30 => ?_)
      obtain ⟨i30, f30, e30⟩ := p30
      refine xv_iconst hX (v := nI 1) dc_RD_readTrueIfThere_33 (by decide) rfl ?_
      refine xv_reti hX hR (by decide) dc_RD_readTrueIfThere_34 ?_
      rw [hc, rd_truT hc, ← e12, ← b12]
      rw [if_neg (by omega)]
      rw [e26] at e30
      exact ⟨⟨i30, ((f12.tr f16).tr f26).tr f30, e30⟩, rfl⟩
  · skip
    have hc : rd_is (M 3) 1 (rd_of M) = false := by cases h : rd_is (M 3) 1 (rd_of M) with
      | false => rfl
      | true => rw [h] at c5; simp at c5
    refine xv_iconst hX (v := nI 0) dc_RD_readTrueIfThere_8 (by decide) rfl ?_
    refine xv_reti hX hR (by decide) dc_RD_readTrueIfThere_9 ?_
    rw [rd_truF hc, hc]
    exact ⟨⟨hI, rd_F.rf M, rfl⟩, rfl⟩
end
