/-! what each instruction is -/
theorem dc_CT_init_0 : decode prog_3_method_1_code 0 = .ok (.aload_n 0, 1) := by decide +kernel
theorem dc_CT_init_1 : decode prog_3_method_1_code 1 = .ok (.invokespecial 3, 3) := by decide +kernel
theorem dc_CT_init_4 : decode prog_3_method_1_code 4 = .ok (.aload_n 0, 1) := by decide +kernel
theorem dc_CT_init_5 : decode prog_3_method_1_code 5 = .ok (.new 9, 3) := by decide +kernel
theorem dc_CT_init_8 : decode prog_3_method_1_code 8 = .ok (.dup, 1) := by decide +kernel
theorem dc_CT_init_9 : decode prog_3_method_1_code 9 = .ok (.invokespecial 11, 3) := by decide +kernel
theorem dc_CT_init_12 : decode prog_3_method_1_code 12 = .ok (.putfield 12, 3) := by decide +kernel
theorem dc_CT_init_15 : decode prog_3_method_1_code 15 = .ok (.aload_n 0, 1) := by decide +kernel
theorem dc_CT_init_16 : decode prog_3_method_1_code 16 = .ok (.new 9, 3) := by decide +kernel
theorem dc_CT_init_19 : decode prog_3_method_1_code 19 = .ok (.dup, 1) := by decide +kernel
theorem dc_CT_init_20 : decode prog_3_method_1_code 20 = .ok (.invokespecial 11, 3) := by decide +kernel
theorem dc_CT_init_23 : decode prog_3_method_1_code 23 = .ok (.putfield 18, 3) := by decide +kernel
theorem dc_CT_init_26 : decode prog_3_method_1_code 26 = .ok (.aload_n 0, 1) := by decide +kernel
theorem dc_CT_init_27 : decode prog_3_method_1_code 27 = .ok (.iconst 4, 1) := by decide +kernel
theorem dc_CT_init_28 : decode prog_3_method_1_code 28 = .ok (.anewarray 21, 3) := by decide +kernel
theorem dc_CT_init_31 : decode prog_3_method_1_code 31 = .ok (.putfield 23, 3) := by decide +kernel
theorem dc_CT_init_34 : decode prog_3_method_1_code 34 = .ok (.iconst 0, 1) := by decide +kernel
theorem dc_CT_init_35 : decode prog_3_method_1_code 35 = .ok (.istore_n 1, 1) := by decide +kernel
theorem dc_CT_init_36 : decode prog_3_method_1_code 36 = .ok (.iload_n 1, 1) := by decide +kernel
theorem dc_CT_init_37 : decode prog_3_method_1_code 37 = .ok (.aload_n 0, 1) := by decide +kernel
theorem dc_CT_init_38 : decode prog_3_method_1_code 38 = .ok (.getfield 23, 3) := by decide +kernel
theorem dc_CT_init_41 : decode prog_3_method_1_code 41 = .ok (.arraylength, 1) := by decide +kernel
theorem dc_CT_init_42 : decode prog_3_method_1_code 42 = .ok (.if_icmp .ge 22, 3) := by decide +kernel
theorem dc_CT_init_45 : decode prog_3_method_1_code 45 = .ok (.aload_n 0, 1) := by decide +kernel
theorem dc_CT_init_46 : decode prog_3_method_1_code 46 = .ok (.getfield 23, 3) := by decide +kernel
theorem dc_CT_init_49 : decode prog_3_method_1_code 49 = .ok (.iload_n 1, 1) := by decide +kernel
theorem dc_CT_init_50 : decode prog_3_method_1_code 50 = .ok (.new 21, 3) := by decide +kernel
theorem dc_CT_init_53 : decode prog_3_method_1_code 53 = .ok (.dup, 1) := by decide +kernel
theorem dc_CT_init_54 : decode prog_3_method_1_code 54 = .ok (.invokespecial 27, 3) := by decide +kernel
theorem dc_CT_init_57 : decode prog_3_method_1_code 57 = .ok (.aastore, 1) := by decide +kernel
theorem dc_CT_init_58 : decode prog_3_method_1_code 58 = .ok (.iinc 1 1, 3) := by decide +kernel
theorem dc_CT_init_61 : decode prog_3_method_1_code 61 = .ok (.goto (-25), 3) := by decide +kernel
theorem dc_CT_init_64 : decode prog_3_method_1_code 64 = .ok (.aload_n 0, 1) := by decide +kernel
theorem dc_CT_init_65 : decode prog_3_method_1_code 65 = .ok (.new 28, 3) := by decide +kernel
theorem dc_CT_init_68 : decode prog_3_method_1_code 68 = .ok (.dup, 1) := by decide +kernel
theorem dc_CT_init_69 : decode prog_3_method_1_code 69 = .ok (.invokespecial 30, 3) := by decide +kernel
theorem dc_CT_init_72 : decode prog_3_method_1_code 72 = .ok (.putfield 31, 3) := by decide +kernel
theorem dc_CT_init_75 : decode prog_3_method_1_code 75 = .ok (.aload_n 0, 1) := by decide +kernel
theorem dc_CT_init_76 : decode prog_3_method_1_code 76 = .ok (.new 28, 3) := by decide +kernel
theorem dc_CT_init_79 : decode prog_3_method_1_code 79 = .ok (.dup, 1) := by decide +kernel
theorem dc_CT_init_80 : decode prog_3_method_1_code 80 = .ok (.invokespecial 30, 3) := by decide +kernel
theorem dc_CT_init_83 : decode prog_3_method_1_code 83 = .ok (.putfield 35, 3) := by decide +kernel
theorem dc_CT_init_86 : decode prog_3_method_1_code 86 = .ok (.aload_n 0, 1) := by decide +kernel
theorem dc_CT_init_87 : decode prog_3_method_1_code 87 = .ok (.invokevirtual 38, 3) := by decide +kernel
theorem dc_CT_init_90 : decode prog_3_method_1_code 90 = .ok (.return_, 1) := by decide +kernel
theorem dc_CT_forgetExtensions_0 : decode prog_3_method_2_code 0 = .ok (.aload_n 0, 1) := by decide +kernel
theorem dc_CT_forgetExtensions_1 : decode prog_3_method_2_code 1 = .ok (.iconst 0, 1) := by decide +kernel
theorem dc_CT_forgetExtensions_2 : decode prog_3_method_2_code 2 = .ok (.putfield 41, 3) := by decide +kernel
theorem dc_CT_forgetExtensions_5 : decode prog_3_method_2_code 5 = .ok (.aload_n 0, 1) := by decide +kernel
theorem dc_CT_forgetExtensions_6 : decode prog_3_method_2_code 6 = .ok (.iconst 0, 1) := by decide +kernel
theorem dc_CT_forgetExtensions_7 : decode prog_3_method_2_code 7 = .ok (.putfield 45, 3) := by decide +kernel
theorem dc_CT_forgetExtensions_10 : decode prog_3_method_2_code 10 = .ok (.aload_n 0, 1) := by decide +kernel
theorem dc_CT_forgetExtensions_11 : decode prog_3_method_2_code 11 = .ok (.iconst (-1), 1) := by decide +kernel
theorem dc_CT_forgetExtensions_12 : decode prog_3_method_2_code 12 = .ok (.putfield 49, 3) := by decide +kernel
theorem dc_CT_forgetExtensions_15 : decode prog_3_method_2_code 15 = .ok (.aload_n 0, 1) := by decide +kernel
theorem dc_CT_forgetExtensions_16 : decode prog_3_method_2_code 16 = .ok (.iconst (-1), 1) := by decide +kernel
theorem dc_CT_forgetExtensions_17 : decode prog_3_method_2_code 17 = .ok (.putfield 52, 3) := by decide +kernel
theorem dc_CT_forgetExtensions_20 : decode prog_3_method_2_code 20 = .ok (.aload_n 0, 1) := by decide +kernel
theorem dc_CT_forgetExtensions_21 : decode prog_3_method_2_code 21 = .ok (.getfield 31, 3) := by decide +kernel
theorem dc_CT_forgetExtensions_24 : decode prog_3_method_2_code 24 = .ok (.iconst 0, 1) := by decide +kernel
theorem dc_CT_forgetExtensions_25 : decode prog_3_method_2_code 25 = .ok (.putfield 55, 3) := by decide +kernel
theorem dc_CT_forgetExtensions_28 : decode prog_3_method_2_code 28 = .ok (.aload_n 0, 1) := by decide +kernel
theorem dc_CT_forgetExtensions_29 : decode prog_3_method_2_code 29 = .ok (.getfield 35, 3) := by decide +kernel
theorem dc_CT_forgetExtensions_32 : decode prog_3_method_2_code 32 = .ok (.iconst 0, 1) := by decide +kernel
theorem dc_CT_forgetExtensions_33 : decode prog_3_method_2_code 33 = .ok (.putfield 55, 3) := by decide +kernel
theorem dc_CT_forgetExtensions_36 : decode prog_3_method_2_code 36 = .ok (.return_, 1) := by decide +kernel
theorem dc_CT_fieldNumbered_0 : decode prog_3_method_3_code 0 = .ok (.iload_n 1, 1) := by decide +kernel
theorem dc_CT_fieldNumbered_1 : decode prog_3_method_3_code 1 = .ok (.tableswitch 170 0 14 #[75, 80, 85, 90, 95, 100, 105, 110, 123, 128, 133, 138, 146, 154, 162], 75) := by decide +kernel
theorem dc_CT_fieldNumbered_76 : decode prog_3_method_3_code 76 = .ok (.aload_n 0, 1) := by decide +kernel
theorem dc_CT_fieldNumbered_77 : decode prog_3_method_3_code 77 = .ok (.getfield 58, 3) := by decide +kernel
theorem dc_CT_fieldNumbered_80 : decode prog_3_method_3_code 80 = .ok (.ireturn, 1) := by decide +kernel
theorem dc_CT_fieldNumbered_81 : decode prog_3_method_3_code 81 = .ok (.aload_n 0, 1) := by decide +kernel
theorem dc_CT_fieldNumbered_82 : decode prog_3_method_3_code 82 = .ok (.getfield 61, 3) := by decide +kernel
theorem dc_CT_fieldNumbered_85 : decode prog_3_method_3_code 85 = .ok (.ireturn, 1) := by decide +kernel
theorem dc_CT_fieldNumbered_86 : decode prog_3_method_3_code 86 = .ok (.aload_n 0, 1) := by decide +kernel
theorem dc_CT_fieldNumbered_87 : decode prog_3_method_3_code 87 = .ok (.getfield 64, 3) := by decide +kernel
theorem dc_CT_fieldNumbered_90 : decode prog_3_method_3_code 90 = .ok (.ireturn, 1) := by decide +kernel
theorem dc_CT_fieldNumbered_91 : decode prog_3_method_3_code 91 = .ok (.aload_n 0, 1) := by decide +kernel
theorem dc_CT_fieldNumbered_92 : decode prog_3_method_3_code 92 = .ok (.getfield 67, 3) := by decide +kernel
theorem dc_CT_fieldNumbered_95 : decode prog_3_method_3_code 95 = .ok (.ireturn, 1) := by decide +kernel
theorem dc_CT_fieldNumbered_96 : decode prog_3_method_3_code 96 = .ok (.aload_n 0, 1) := by decide +kernel
theorem dc_CT_fieldNumbered_97 : decode prog_3_method_3_code 97 = .ok (.getfield 70, 3) := by decide +kernel
theorem dc_CT_fieldNumbered_100 : decode prog_3_method_3_code 100 = .ok (.ireturn, 1) := by decide +kernel
theorem dc_CT_fieldNumbered_101 : decode prog_3_method_3_code 101 = .ok (.aload_n 0, 1) := by decide +kernel
theorem dc_CT_fieldNumbered_102 : decode prog_3_method_3_code 102 = .ok (.getfield 73, 3) := by decide +kernel
theorem dc_CT_fieldNumbered_105 : decode prog_3_method_3_code 105 = .ok (.ireturn, 1) := by decide +kernel
theorem dc_CT_fieldNumbered_106 : decode prog_3_method_3_code 106 = .ok (.aload_n 0, 1) := by decide +kernel
theorem dc_CT_fieldNumbered_107 : decode prog_3_method_3_code 107 = .ok (.getfield 76, 3) := by decide +kernel
theorem dc_CT_fieldNumbered_110 : decode prog_3_method_3_code 110 = .ok (.ireturn, 1) := by decide +kernel
theorem dc_CT_fieldNumbered_111 : decode prog_3_method_3_code 111 = .ok (.aload_n 0, 1) := by decide +kernel
theorem dc_CT_fieldNumbered_112 : decode prog_3_method_3_code 112 = .ok (.getfield 45, 3) := by decide +kernel
theorem dc_CT_fieldNumbered_115 : decode prog_3_method_3_code 115 = .ok (.ifCond .eq 7, 3) := by decide +kernel
theorem dc_CT_fieldNumbered_118 : decode prog_3_method_3_code 118 = .ok (.iconst 1, 1) := by decide +kernel
theorem dc_CT_fieldNumbered_119 : decode prog_3_method_3_code 119 = .ok (.goto 4, 3) := by decide +kernel
theorem dc_CT_fieldNumbered_122 : decode prog_3_method_3_code 122 = .ok (.iconst 0, 1) := by decide +kernel
theorem dc_CT_fieldNumbered_123 : decode prog_3_method_3_code 123 = .ok (.ireturn, 1) := by decide +kernel
theorem dc_CT_fieldNumbered_124 : decode prog_3_method_3_code 124 = .ok (.aload_n 0, 1) := by decide +kernel
theorem dc_CT_fieldNumbered_125 : decode prog_3_method_3_code 125 = .ok (.getfield 49, 3) := by decide +kernel
theorem dc_CT_fieldNumbered_128 : decode prog_3_method_3_code 128 = .ok (.ireturn, 1) := by decide +kernel
theorem dc_CT_fieldNumbered_129 : decode prog_3_method_3_code 129 = .ok (.aload_n 0, 1) := by decide +kernel
theorem dc_CT_fieldNumbered_130 : decode prog_3_method_3_code 130 = .ok (.getfield 52, 3) := by decide +kernel
theorem dc_CT_fieldNumbered_133 : decode prog_3_method_3_code 133 = .ok (.ireturn, 1) := by decide +kernel
theorem dc_CT_fieldNumbered_134 : decode prog_3_method_3_code 134 = .ok (.aload_n 0, 1) := by decide +kernel
theorem dc_CT_fieldNumbered_135 : decode prog_3_method_3_code 135 = .ok (.getfield 41, 3) := by decide +kernel
theorem dc_CT_fieldNumbered_138 : decode prog_3_method_3_code 138 = .ok (.ireturn, 1) := by decide +kernel
theorem dc_CT_fieldNumbered_139 : decode prog_3_method_3_code 139 = .ok (.aload_n 0, 1) := by decide +kernel
theorem dc_CT_fieldNumbered_140 : decode prog_3_method_3_code 140 = .ok (.getfield 31, 3) := by decide +kernel
theorem dc_CT_fieldNumbered_143 : decode prog_3_method_3_code 143 = .ok (.getfield 55, 3) := by decide +kernel
theorem dc_CT_fieldNumbered_146 : decode prog_3_method_3_code 146 = .ok (.ireturn, 1) := by decide +kernel
theorem dc_CT_fieldNumbered_147 : decode prog_3_method_3_code 147 = .ok (.aload_n 0, 1) := by decide +kernel
theorem dc_CT_fieldNumbered_148 : decode prog_3_method_3_code 148 = .ok (.getfield 35, 3) := by decide +kernel
theorem dc_CT_fieldNumbered_151 : decode prog_3_method_3_code 151 = .ok (.getfield 55, 3) := by decide +kernel
theorem dc_CT_fieldNumbered_154 : decode prog_3_method_3_code 154 = .ok (.ireturn, 1) := by decide +kernel
theorem dc_CT_fieldNumbered_155 : decode prog_3_method_3_code 155 = .ok (.aload_n 0, 1) := by decide +kernel
theorem dc_CT_fieldNumbered_156 : decode prog_3_method_3_code 156 = .ok (.getfield 12, 3) := by decide +kernel
theorem dc_CT_fieldNumbered_159 : decode prog_3_method_3_code 159 = .ok (.getfield 79, 3) := by decide +kernel
theorem dc_CT_fieldNumbered_162 : decode prog_3_method_3_code 162 = .ok (.ireturn, 1) := by decide +kernel
theorem dc_CT_fieldNumbered_163 : decode prog_3_method_3_code 163 = .ok (.aload_n 0, 1) := by decide +kernel
theorem dc_CT_fieldNumbered_164 : decode prog_3_method_3_code 164 = .ok (.getfield 18, 3) := by decide +kernel
theorem dc_CT_fieldNumbered_167 : decode prog_3_method_3_code 167 = .ok (.getfield 79, 3) := by decide +kernel
theorem dc_CT_fieldNumbered_170 : decode prog_3_method_3_code 170 = .ok (.ireturn, 1) := by decide +kernel
theorem dc_CT_fieldNumbered_171 : decode prog_3_method_3_code 171 = .ok (.iconst (-1), 1) := by decide +kernel
theorem dc_CT_fieldNumbered_172 : decode prog_3_method_3_code 172 = .ok (.ireturn, 1) := by decide +kernel
theorem dc_CT_isSelfIssued_0 : decode prog_3_method_4_code 0 = .ok (.aload_n 0, 1) := by decide +kernel
theorem dc_CT_isSelfIssued_1 : decode prog_3_method_4_code 1 = .ok (.getfield 12, 3) := by decide +kernel
theorem dc_CT_isSelfIssued_4 : decode prog_3_method_4_code 4 = .ok (.aload_n 0, 1) := by decide +kernel
theorem dc_CT_isSelfIssued_5 : decode prog_3_method_4_code 5 = .ok (.getfield 18, 3) := by decide +kernel
theorem dc_CT_isSelfIssued_8 : decode prog_3_method_4_code 8 = .ok (.invokevirtual 80, 3) := by decide +kernel
theorem dc_CT_isSelfIssued_11 : decode prog_3_method_4_code 11 = .ok (.ireturn, 1) := by decide +kernel
theorem dc_CT_isSignedBy_0 : decode prog_3_method_5_code 0 = .ok (.iload_n 1, 1) := by decide +kernel
theorem dc_CT_isSignedBy_1 : decode prog_3_method_5_code 1 = .ok (.iconst 2, 1) := by decide +kernel
theorem dc_CT_isSignedBy_2 : decode prog_3_method_5_code 2 = .ok (.if_icmp .lt 11, 3) := by decide +kernel
theorem dc_CT_isSignedBy_5 : decode prog_3_method_5_code 5 = .ok (.aload_n 0, 1) := by decide +kernel
theorem dc_CT_isSignedBy_6 : decode prog_3_method_5_code 6 = .ok (.getfield 73, 3) := by decide +kernel
theorem dc_CT_isSignedBy_9 : decode prog_3_method_5_code 9 = .ok (.iload_n 1, 1) := by decide +kernel
theorem dc_CT_isSignedBy_10 : decode prog_3_method_5_code 10 = .ok (.if_icmp .lt 5, 3) := by decide +kernel
theorem dc_CT_isSignedBy_13 : decode prog_3_method_5_code 13 = .ok (.iconst 0, 1) := by decide +kernel
theorem dc_CT_isSignedBy_14 : decode prog_3_method_5_code 14 = .ok (.ireturn, 1) := by decide +kernel
theorem dc_CT_isSignedBy_15 : decode prog_3_method_5_code 15 = .ok (.lconst 1, 1) := by decide +kernel
theorem dc_CT_isSignedBy_16 : decode prog_3_method_5_code 16 = .ok (.lstore_n 3, 1) := by decide +kernel
theorem dc_CT_isSignedBy_17 : decode prog_3_method_5_code 17 = .ok (.aload_n 0, 1) := by decide +kernel
theorem dc_CT_isSignedBy_18 : decode prog_3_method_5_code 18 = .ok (.getfield 73, 3) := by decide +kernel
theorem dc_CT_isSignedBy_21 : decode prog_3_method_5_code 21 = .ok (.i2l, 1) := by decide +kernel
theorem dc_CT_isSignedBy_22 : decode prog_3_method_5_code 22 = .ok (.lstore 5, 2) := by decide +kernel
theorem dc_CT_isSignedBy_24 : decode prog_3_method_5_code 24 = .ok (.iload_n 2, 1) := by decide +kernel
theorem dc_CT_isSignedBy_25 : decode prog_3_method_5_code 25 = .ok (.istore 7, 2) := by decide +kernel
theorem dc_CT_isSignedBy_27 : decode prog_3_method_5_code 27 = .ok (.iload 7, 2) := by decide +kernel
theorem dc_CT_isSignedBy_29 : decode prog_3_method_5_code 29 = .ok (.ifCond .le 38, 3) := by decide +kernel
theorem dc_CT_isSignedBy_32 : decode prog_3_method_5_code 32 = .ok (.iload 7, 2) := by decide +kernel
theorem dc_CT_isSignedBy_34 : decode prog_3_method_5_code 34 = .ok (.iconst 1, 1) := by decide +kernel
theorem dc_CT_isSignedBy_35 : decode prog_3_method_5_code 35 = .ok (.iand, 1) := by decide +kernel
theorem dc_CT_isSignedBy_36 : decode prog_3_method_5_code 36 = .ok (.iconst 1, 1) := by decide +kernel
theorem dc_CT_isSignedBy_37 : decode prog_3_method_5_code 37 = .ok (.if_icmp .ne 11, 3) := by decide +kernel
theorem dc_CT_isSignedBy_40 : decode prog_3_method_5_code 40 = .ok (.lload_n 3, 1) := by decide +kernel
theorem dc_CT_isSignedBy_41 : decode prog_3_method_5_code 41 = .ok (.lload 5, 2) := by decide +kernel
theorem dc_CT_isSignedBy_43 : decode prog_3_method_5_code 43 = .ok (.lmul, 1) := by decide +kernel
theorem dc_CT_isSignedBy_44 : decode prog_3_method_5_code 44 = .ok (.iload_n 1, 1) := by decide +kernel
theorem dc_CT_isSignedBy_45 : decode prog_3_method_5_code 45 = .ok (.i2l, 1) := by decide +kernel
theorem dc_CT_isSignedBy_46 : decode prog_3_method_5_code 46 = .ok (.lrem, 1) := by decide +kernel
theorem dc_CT_isSignedBy_47 : decode prog_3_method_5_code 47 = .ok (.lstore_n 3, 1) := by decide +kernel
theorem dc_CT_isSignedBy_48 : decode prog_3_method_5_code 48 = .ok (.lload 5, 2) := by decide +kernel
theorem dc_CT_isSignedBy_50 : decode prog_3_method_5_code 50 = .ok (.lload 5, 2) := by decide +kernel
theorem dc_CT_isSignedBy_52 : decode prog_3_method_5_code 52 = .ok (.lmul, 1) := by decide +kernel
theorem dc_CT_isSignedBy_53 : decode prog_3_method_5_code 53 = .ok (.iload_n 1, 1) := by decide +kernel
theorem dc_CT_isSignedBy_54 : decode prog_3_method_5_code 54 = .ok (.i2l, 1) := by decide +kernel
theorem dc_CT_isSignedBy_55 : decode prog_3_method_5_code 55 = .ok (.lrem, 1) := by decide +kernel
theorem dc_CT_isSignedBy_56 : decode prog_3_method_5_code 56 = .ok (.lstore 5, 2) := by decide +kernel
theorem dc_CT_isSignedBy_58 : decode prog_3_method_5_code 58 = .ok (.iload 7, 2) := by decide +kernel
theorem dc_CT_isSignedBy_60 : decode prog_3_method_5_code 60 = .ok (.iconst 1, 1) := by decide +kernel
theorem dc_CT_isSignedBy_61 : decode prog_3_method_5_code 61 = .ok (.ishr, 1) := by decide +kernel
theorem dc_CT_isSignedBy_62 : decode prog_3_method_5_code 62 = .ok (.istore 7, 2) := by decide +kernel
theorem dc_CT_isSignedBy_64 : decode prog_3_method_5_code 64 = .ok (.goto (-37), 3) := by decide +kernel
theorem dc_CT_isSignedBy_67 : decode prog_3_method_5_code 67 = .ok (.lload_n 3, 1) := by decide +kernel
theorem dc_CT_isSignedBy_68 : decode prog_3_method_5_code 68 = .ok (.aload_n 0, 1) := by decide +kernel
theorem dc_CT_isSignedBy_69 : decode prog_3_method_5_code 69 = .ok (.getfield 76, 3) := by decide +kernel
theorem dc_CT_isSignedBy_72 : decode prog_3_method_5_code 72 = .ok (.iload_n 1, 1) := by decide +kernel
theorem dc_CT_isSignedBy_73 : decode prog_3_method_5_code 73 = .ok (.irem, 1) := by decide +kernel
theorem dc_CT_isSignedBy_74 : decode prog_3_method_5_code 74 = .ok (.i2l, 1) := by decide +kernel
theorem dc_CT_isSignedBy_75 : decode prog_3_method_5_code 75 = .ok (.lcmp, 1) := by decide +kernel
theorem dc_CT_isSignedBy_76 : decode prog_3_method_5_code 76 = .ok (.ifCond .ne 7, 3) := by decide +kernel
theorem dc_CT_isSignedBy_79 : decode prog_3_method_5_code 79 = .ok (.iconst 1, 1) := by decide +kernel
theorem dc_CT_isSignedBy_80 : decode prog_3_method_5_code 80 = .ok (.goto 4, 3) := by decide +kernel
theorem dc_CT_isSignedBy_83 : decode prog_3_method_5_code 83 = .ok (.iconst 0, 1) := by decide +kernel
theorem dc_CT_isSignedBy_84 : decode prog_3_method_5_code 84 = .ok (.ireturn, 1) := by decide +kernel
theorem dc_CT_hasUnknownCritical_0 : decode prog_3_method_6_code 0 = .ok (.iconst 0, 1) := by decide +kernel
theorem dc_CT_hasUnknownCritical_1 : decode prog_3_method_6_code 1 = .ok (.istore_n 1, 1) := by decide +kernel
theorem dc_CT_hasUnknownCritical_2 : decode prog_3_method_6_code 2 = .ok (.iload_n 1, 1) := by decide +kernel
theorem dc_CT_hasUnknownCritical_3 : decode prog_3_method_6_code 3 = .ok (.aload_n 0, 1) := by decide +kernel
theorem dc_CT_hasUnknownCritical_4 : decode prog_3_method_6_code 4 = .ok (.getfield 41, 3) := by decide +kernel
theorem dc_CT_hasUnknownCritical_7 : decode prog_3_method_6_code 7 = .ok (.if_icmp .ge 35, 3) := by decide +kernel
theorem dc_CT_hasUnknownCritical_10 : decode prog_3_method_6_code 10 = .ok (.aload_n 0, 1) := by decide +kernel
theorem dc_CT_hasUnknownCritical_11 : decode prog_3_method_6_code 11 = .ok (.getfield 23, 3) := by decide +kernel
theorem dc_CT_hasUnknownCritical_14 : decode prog_3_method_6_code 14 = .ok (.iload_n 1, 1) := by decide +kernel
theorem dc_CT_hasUnknownCritical_15 : decode prog_3_method_6_code 15 = .ok (.aaload, 1) := by decide +kernel
theorem dc_CT_hasUnknownCritical_16 : decode prog_3_method_6_code 16 = .ok (.getfield 84, 3) := by decide +kernel
theorem dc_CT_hasUnknownCritical_19 : decode prog_3_method_6_code 19 = .ok (.ifCond .eq 17, 3) := by decide +kernel
theorem dc_CT_hasUnknownCritical_22 : decode prog_3_method_6_code 22 = .ok (.aload_n 0, 1) := by decide +kernel
theorem dc_CT_hasUnknownCritical_23 : decode prog_3_method_6_code 23 = .ok (.getfield 23, 3) := by decide +kernel
theorem dc_CT_hasUnknownCritical_26 : decode prog_3_method_6_code 26 = .ok (.iload_n 1, 1) := by decide +kernel
theorem dc_CT_hasUnknownCritical_27 : decode prog_3_method_6_code 27 = .ok (.aaload, 1) := by decide +kernel
theorem dc_CT_hasUnknownCritical_28 : decode prog_3_method_6_code 28 = .ok (.invokevirtual 87, 3) := by decide +kernel
theorem dc_CT_hasUnknownCritical_31 : decode prog_3_method_6_code 31 = .ok (.ifCond .ne 5, 3) := by decide +kernel
theorem dc_CT_hasUnknownCritical_34 : decode prog_3_method_6_code 34 = .ok (.iconst 1, 1) := by decide +kernel
theorem dc_CT_hasUnknownCritical_35 : decode prog_3_method_6_code 35 = .ok (.ireturn, 1) := by decide +kernel
theorem dc_CT_hasUnknownCritical_36 : decode prog_3_method_6_code 36 = .ok (.iinc 1 1, 3) := by decide +kernel
theorem dc_CT_hasUnknownCritical_39 : decode prog_3_method_6_code 39 = .ok (.goto (-37), 3) := by decide +kernel
theorem dc_CT_hasUnknownCritical_42 : decode prog_3_method_6_code 42 = .ok (.iconst 0, 1) := by decide +kernel
theorem dc_CT_hasUnknownCritical_43 : decode prog_3_method_6_code 43 = .ok (.ireturn, 1) := by decide +kernel
theorem dc_CT_allows_0 : decode prog_3_method_7_code 0 = .ok (.aload_n 0, 1) := by decide +kernel
theorem dc_CT_allows_1 : decode prog_3_method_7_code 1 = .ok (.getfield 31, 3) := by decide +kernel
theorem dc_CT_allows_4 : decode prog_3_method_7_code 4 = .ok (.getfield 55, 3) := by decide +kernel
theorem dc_CT_allows_7 : decode prog_3_method_7_code 7 = .ok (.ifCond .eq 14, 3) := by decide +kernel
theorem dc_CT_allows_10 : decode prog_3_method_7_code 10 = .ok (.aload_n 0, 1) := by decide +kernel
theorem dc_CT_allows_11 : decode prog_3_method_7_code 11 = .ok (.getfield 31, 3) := by decide +kernel
theorem dc_CT_allows_14 : decode prog_3_method_7_code 14 = .ok (.aload_n 1, 1) := by decide +kernel
theorem dc_CT_allows_15 : decode prog_3_method_7_code 15 = .ok (.invokevirtual 91, 3) := by decide +kernel
theorem dc_CT_allows_18 : decode prog_3_method_7_code 18 = .ok (.ifCond .eq 18, 3) := by decide +kernel
theorem dc_CT_allows_21 : decode prog_3_method_7_code 21 = .ok (.aload_n 0, 1) := by decide +kernel
theorem dc_CT_allows_22 : decode prog_3_method_7_code 22 = .ok (.getfield 35, 3) := by decide +kernel
theorem dc_CT_allows_25 : decode prog_3_method_7_code 25 = .ok (.aload_n 1, 1) := by decide +kernel
theorem dc_CT_allows_26 : decode prog_3_method_7_code 26 = .ok (.invokevirtual 91, 3) := by decide +kernel
theorem dc_CT_allows_29 : decode prog_3_method_7_code 29 = .ok (.ifCond .ne 7, 3) := by decide +kernel
theorem dc_CT_allows_32 : decode prog_3_method_7_code 32 = .ok (.iconst 1, 1) := by decide +kernel
theorem dc_CT_allows_33 : decode prog_3_method_7_code 33 = .ok (.goto 4, 3) := by decide +kernel
theorem dc_CT_allows_36 : decode prog_3_method_7_code 36 = .ok (.iconst 0, 1) := by decide +kernel
theorem dc_CT_allows_37 : decode prog_3_method_7_code 37 = .ok (.ireturn, 1) := by decide +kernel
theorem dc_CT_brokenAsHolder_0 : decode prog_3_method_8_code 0 = .ok (.aload_n 0, 1) := by decide +kernel
theorem dc_CT_brokenAsHolder_1 : decode prog_3_method_8_code 1 = .ok (.getfield 45, 3) := by decide +kernel
theorem dc_CT_brokenAsHolder_4 : decode prog_3_method_8_code 4 = .ok (.ifCond .ne 6, 3) := by decide +kernel
theorem dc_CT_brokenAsHolder_7 : decode prog_3_method_8_code 7 = .ok (.bipush 6, 2) := by decide +kernel
theorem dc_CT_brokenAsHolder_9 : decode prog_3_method_8_code 9 = .ok (.ireturn, 1) := by decide +kernel
theorem dc_CT_brokenAsHolder_10 : decode prog_3_method_8_code 10 = .ok (.aload_n 0, 1) := by decide +kernel
theorem dc_CT_brokenAsHolder_11 : decode prog_3_method_8_code 11 = .ok (.invokevirtual 94, 3) := by decide +kernel
theorem dc_CT_brokenAsHolder_14 : decode prog_3_method_8_code 14 = .ok (.ifCond .ne 10, 3) := by decide +kernel
theorem dc_CT_brokenAsHolder_17 : decode prog_3_method_8_code 17 = .ok (.iload_n 1, 1) := by decide +kernel
theorem dc_CT_brokenAsHolder_18 : decode prog_3_method_8_code 18 = .ok (.ifCond .gt 6, 3) := by decide +kernel
theorem dc_CT_brokenAsHolder_21 : decode prog_3_method_8_code 21 = .ok (.bipush 7, 2) := by decide +kernel
theorem dc_CT_brokenAsHolder_23 : decode prog_3_method_8_code 23 = .ok (.ireturn, 1) := by decide +kernel
theorem dc_CT_brokenAsHolder_24 : decode prog_3_method_8_code 24 = .ok (.aload_n 0, 1) := by decide +kernel
theorem dc_CT_brokenAsHolder_25 : decode prog_3_method_8_code 25 = .ok (.getfield 52, 3) := by decide +kernel
theorem dc_CT_brokenAsHolder_28 : decode prog_3_method_8_code 28 = .ok (.iconst (-1), 1) := by decide +kernel
theorem dc_CT_brokenAsHolder_29 : decode prog_3_method_8_code 29 = .ok (.if_icmp .eq 18, 3) := by decide +kernel
theorem dc_CT_brokenAsHolder_32 : decode prog_3_method_8_code 32 = .ok (.aload_n 0, 1) := by decide +kernel
theorem dc_CT_brokenAsHolder_33 : decode prog_3_method_8_code 33 = .ok (.getfield 52, 3) := by decide +kernel
theorem dc_CT_brokenAsHolder_36 : decode prog_3_method_8_code 36 = .ok (.bipush 32, 2) := by decide +kernel
theorem dc_CT_brokenAsHolder_38 : decode prog_3_method_8_code 38 = .ok (.iand, 1) := by decide +kernel
theorem dc_CT_brokenAsHolder_39 : decode prog_3_method_8_code 39 = .ok (.ifCond .ne 8, 3) := by decide +kernel
theorem dc_CT_brokenAsHolder_42 : decode prog_3_method_8_code 42 = .ok (.bipush 8, 2) := by decide +kernel
theorem dc_CT_brokenAsHolder_44 : decode prog_3_method_8_code 44 = .ok (.goto 4, 3) := by decide +kernel
theorem dc_CT_brokenAsHolder_47 : decode prog_3_method_8_code 47 = .ok (.iconst 0, 1) := by decide +kernel
theorem dc_CT_brokenAsHolder_48 : decode prog_3_method_8_code 48 = .ok (.ireturn, 1) := by decide +kernel
theorem dc_CT_brokenAsLast_0 : decode prog_3_method_9_code 0 = .ok (.aload_n 0, 1) := by decide +kernel
theorem dc_CT_brokenAsLast_1 : decode prog_3_method_9_code 1 = .ok (.getfield 52, 3) := by decide +kernel
theorem dc_CT_brokenAsLast_4 : decode prog_3_method_9_code 4 = .ok (.iconst (-1), 1) := by decide +kernel
theorem dc_CT_brokenAsLast_5 : decode prog_3_method_9_code 5 = .ok (.if_icmp .eq 18, 3) := by decide +kernel
theorem dc_CT_brokenAsLast_8 : decode prog_3_method_9_code 8 = .ok (.aload_n 0, 1) := by decide +kernel
theorem dc_CT_brokenAsLast_9 : decode prog_3_method_9_code 9 = .ok (.getfield 52, 3) := by decide +kernel
theorem dc_CT_brokenAsLast_12 : decode prog_3_method_9_code 12 = .ok (.iload_n 1, 1) := by decide +kernel
theorem dc_CT_brokenAsLast_13 : decode prog_3_method_9_code 13 = .ok (.iand, 1) := by decide +kernel
theorem dc_CT_brokenAsLast_14 : decode prog_3_method_9_code 14 = .ok (.iload_n 1, 1) := by decide +kernel
theorem dc_CT_brokenAsLast_15 : decode prog_3_method_9_code 15 = .ok (.if_icmp .eq 8, 3) := by decide +kernel
theorem dc_CT_brokenAsLast_18 : decode prog_3_method_9_code 18 = .ok (.bipush 9, 2) := by decide +kernel
theorem dc_CT_brokenAsLast_20 : decode prog_3_method_9_code 20 = .ok (.goto 4, 3) := by decide +kernel
theorem dc_CT_brokenAsLast_23 : decode prog_3_method_9_code 23 = .ok (.iconst 0, 1) := by decide +kernel
theorem dc_CT_brokenAsLast_24 : decode prog_3_method_9_code 24 = .ok (.ireturn, 1) := by decide +kernel
theorem dc_CT_restBehind_0 : decode prog_3_method_10_code 0 = .ok (.aload_n 0, 1) := by decide +kernel
theorem dc_CT_restBehind_1 : decode prog_3_method_10_code 1 = .ok (.invokevirtual 94, 3) := by decide +kernel
theorem dc_CT_restBehind_4 : decode prog_3_method_10_code 4 = .ok (.ifCond .eq 7, 3) := by decide +kernel
theorem dc_CT_restBehind_7 : decode prog_3_method_10_code 7 = .ok (.iload_n 1, 1) := by decide +kernel
theorem dc_CT_restBehind_8 : decode prog_3_method_10_code 8 = .ok (.goto 6, 3) := by decide +kernel
theorem dc_CT_restBehind_11 : decode prog_3_method_10_code 11 = .ok (.iload_n 1, 1) := by decide +kernel
theorem dc_CT_restBehind_12 : decode prog_3_method_10_code 12 = .ok (.iconst 1, 1) := by decide +kernel
theorem dc_CT_restBehind_13 : decode prog_3_method_10_code 13 = .ok (.isub, 1) := by decide +kernel
theorem dc_CT_restBehind_14 : decode prog_3_method_10_code 14 = .ok (.istore_n 2, 1) := by decide +kernel
theorem dc_CT_restBehind_15 : decode prog_3_method_10_code 15 = .ok (.aload_n 0, 1) := by decide +kernel
theorem dc_CT_restBehind_16 : decode prog_3_method_10_code 16 = .ok (.getfield 49, 3) := by decide +kernel
theorem dc_CT_restBehind_19 : decode prog_3_method_10_code 19 = .ok (.iconst (-1), 1) := by decide +kernel
theorem dc_CT_restBehind_20 : decode prog_3_method_10_code 20 = .ok (.if_icmp .eq 18, 3) := by decide +kernel
theorem dc_CT_restBehind_23 : decode prog_3_method_10_code 23 = .ok (.aload_n 0, 1) := by decide +kernel
theorem dc_CT_restBehind_24 : decode prog_3_method_10_code 24 = .ok (.getfield 49, 3) := by decide +kernel
theorem dc_CT_restBehind_27 : decode prog_3_method_10_code 27 = .ok (.iload_n 2, 1) := by decide +kernel
theorem dc_CT_restBehind_28 : decode prog_3_method_10_code 28 = .ok (.if_icmp .ge 10, 3) := by decide +kernel
theorem dc_CT_restBehind_31 : decode prog_3_method_10_code 31 = .ok (.aload_n 0, 1) := by decide +kernel
theorem dc_CT_restBehind_32 : decode prog_3_method_10_code 32 = .ok (.getfield 49, 3) := by decide +kernel
theorem dc_CT_restBehind_35 : decode prog_3_method_10_code 35 = .ok (.goto 4, 3) := by decide +kernel
theorem dc_CT_restBehind_38 : decode prog_3_method_10_code 38 = .ok (.iload_n 2, 1) := by decide +kernel
theorem dc_CT_restBehind_39 : decode prog_3_method_10_code 39 = .ok (.ireturn, 1) := by decide +kernel
theorem dc_CT_readFrom_0 : decode prog_3_method_11_code 0 = .ok (.aload_n 0, 1) := by decide +kernel
theorem dc_CT_readFrom_1 : decode prog_3_method_11_code 1 = .ok (.invokevirtual 38, 3) := by decide +kernel
theorem dc_CT_readFrom_4 : decode prog_3_method_11_code 4 = .ok (.aload_n 1, 1) := by decide +kernel
theorem dc_CT_readFrom_5 : decode prog_3_method_11_code 5 = .ok (.invokevirtual 97, 3) := by decide +kernel
theorem dc_CT_readFrom_8 : decode prog_3_method_11_code 8 = .ok (.aload_n 1, 1) := by decide +kernel
theorem dc_CT_readFrom_9 : decode prog_3_method_11_code 9 = .ok (.bipush 48, 2) := by decide +kernel
theorem dc_CT_readFrom_11 : decode prog_3_method_11_code 11 = .ok (.invokevirtual 102, 3) := by decide +kernel
theorem dc_CT_readFrom_14 : decode prog_3_method_11_code 14 = .ok (.aload_n 1, 1) := by decide +kernel
theorem dc_CT_readFrom_15 : decode prog_3_method_11_code 15 = .ok (.getfield 106, 3) := by decide +kernel
theorem dc_CT_readFrom_18 : decode prog_3_method_11_code 18 = .ok (.istore_n 2, 1) := by decide +kernel
theorem dc_CT_readFrom_19 : decode prog_3_method_11_code 19 = .ok (.aload_n 1, 1) := by decide +kernel
theorem dc_CT_readFrom_20 : decode prog_3_method_11_code 20 = .ok (.bipush 48, 2) := by decide +kernel
theorem dc_CT_readFrom_22 : decode prog_3_method_11_code 22 = .ok (.invokevirtual 102, 3) := by decide +kernel
theorem dc_CT_readFrom_25 : decode prog_3_method_11_code 25 = .ok (.aload_n 0, 1) := by decide +kernel
theorem dc_CT_readFrom_26 : decode prog_3_method_11_code 26 = .ok (.aload_n 1, 1) := by decide +kernel
theorem dc_CT_readFrom_27 : decode prog_3_method_11_code 27 = .ok (.invokevirtual 109, 3) := by decide +kernel
theorem dc_CT_readFrom_30 : decode prog_3_method_11_code 30 = .ok (.aload_n 1, 1) := by decide +kernel
theorem dc_CT_readFrom_31 : decode prog_3_method_11_code 31 = .ok (.sipush 163, 3) := by decide +kernel
theorem dc_CT_readFrom_34 : decode prog_3_method_11_code 34 = .ok (.invokevirtual 113, 3) := by decide +kernel
theorem dc_CT_readFrom_37 : decode prog_3_method_11_code 37 = .ok (.ifCond .eq 67, 3) := by decide +kernel
theorem dc_CT_readFrom_40 : decode prog_3_method_11_code 40 = .ok (.aload_n 1, 1) := by decide +kernel
theorem dc_CT_readFrom_41 : decode prog_3_method_11_code 41 = .ok (.sipush 163, 3) := by decide +kernel
theorem dc_CT_readFrom_44 : decode prog_3_method_11_code 44 = .ok (.invokevirtual 102, 3) := by decide +kernel
theorem dc_CT_readFrom_47 : decode prog_3_method_11_code 47 = .ok (.aload_n 1, 1) := by decide +kernel
theorem dc_CT_readFrom_48 : decode prog_3_method_11_code 48 = .ok (.bipush 48, 2) := by decide +kernel
theorem dc_CT_readFrom_50 : decode prog_3_method_11_code 50 = .ok (.invokevirtual 102, 3) := by decide +kernel
theorem dc_CT_readFrom_53 : decode prog_3_method_11_code 53 = .ok (.aload_n 0, 1) := by decide +kernel
theorem dc_CT_readFrom_54 : decode prog_3_method_11_code 54 = .ok (.aload_n 1, 1) := by decide +kernel
theorem dc_CT_readFrom_55 : decode prog_3_method_11_code 55 = .ok (.aload_n 0, 1) := by decide +kernel
theorem dc_CT_readFrom_56 : decode prog_3_method_11_code 56 = .ok (.getfield 23, 3) := by decide +kernel
theorem dc_CT_readFrom_59 : decode prog_3_method_11_code 59 = .ok (.aload_n 0, 1) := by decide +kernel
theorem dc_CT_readFrom_60 : decode prog_3_method_11_code 60 = .ok (.getfield 41, 3) := by decide +kernel
theorem dc_CT_readFrom_63 : decode prog_3_method_11_code 63 = .ok (.aaload, 1) := by decide +kernel
theorem dc_CT_readFrom_64 : decode prog_3_method_11_code 64 = .ok (.invokevirtual 117, 3) := by decide +kernel
theorem dc_CT_readFrom_67 : decode prog_3_method_11_code 67 = .ok (.aload_n 0, 1) := by decide +kernel
theorem dc_CT_readFrom_68 : decode prog_3_method_11_code 68 = .ok (.dup, 1) := by decide +kernel
theorem dc_CT_readFrom_69 : decode prog_3_method_11_code 69 = .ok (.getfield 41, 3) := by decide +kernel
theorem dc_CT_readFrom_72 : decode prog_3_method_11_code 72 = .ok (.iconst 1, 1) := by decide +kernel
theorem dc_CT_readFrom_73 : decode prog_3_method_11_code 73 = .ok (.iadd, 1) := by decide +kernel
theorem dc_CT_readFrom_74 : decode prog_3_method_11_code 74 = .ok (.putfield 41, 3) := by decide +kernel
theorem dc_CT_readFrom_77 : decode prog_3_method_11_code 77 = .ok (.aload_n 1, 1) := by decide +kernel
theorem dc_CT_readFrom_78 : decode prog_3_method_11_code 78 = .ok (.invokevirtual 121, 3) := by decide +kernel
theorem dc_CT_readFrom_81 : decode prog_3_method_11_code 81 = .ok (.ifCond .le 15, 3) := by decide +kernel
theorem dc_CT_readFrom_84 : decode prog_3_method_11_code 84 = .ok (.aload_n 0, 1) := by decide +kernel
theorem dc_CT_readFrom_85 : decode prog_3_method_11_code 85 = .ok (.getfield 41, 3) := by decide +kernel
theorem dc_CT_readFrom_88 : decode prog_3_method_11_code 88 = .ok (.aload_n 0, 1) := by decide +kernel
theorem dc_CT_readFrom_89 : decode prog_3_method_11_code 89 = .ok (.getfield 23, 3) := by decide +kernel
theorem dc_CT_readFrom_92 : decode prog_3_method_11_code 92 = .ok (.arraylength, 1) := by decide +kernel
theorem dc_CT_readFrom_93 : decode prog_3_method_11_code 93 = .ok (.if_icmp .lt (-40), 3) := by decide +kernel
theorem dc_CT_readFrom_96 : decode prog_3_method_11_code 96 = .ok (.aload_n 1, 1) := by decide +kernel
theorem dc_CT_readFrom_97 : decode prog_3_method_11_code 97 = .ok (.invokevirtual 125, 3) := by decide +kernel
theorem dc_CT_readFrom_100 : decode prog_3_method_11_code 100 = .ok (.aload_n 1, 1) := by decide +kernel
theorem dc_CT_readFrom_101 : decode prog_3_method_11_code 101 = .ok (.invokevirtual 125, 3) := by decide +kernel
theorem dc_CT_readFrom_104 : decode prog_3_method_11_code 104 = .ok (.aload_n 1, 1) := by decide +kernel
theorem dc_CT_readFrom_105 : decode prog_3_method_11_code 105 = .ok (.invokevirtual 125, 3) := by decide +kernel
theorem dc_CT_readFrom_108 : decode prog_3_method_11_code 108 = .ok (.aload_n 0, 1) := by decide +kernel
theorem dc_CT_readFrom_109 : decode prog_3_method_11_code 109 = .ok (.aload_n 1, 1) := by decide +kernel
theorem dc_CT_readFrom_110 : decode prog_3_method_11_code 110 = .ok (.iload_n 2, 1) := by decide +kernel
theorem dc_CT_readFrom_111 : decode prog_3_method_11_code 111 = .ok (.invokevirtual 128, 3) := by decide +kernel
theorem dc_CT_readFrom_114 : decode prog_3_method_11_code 114 = .ok (.putfield 76, 3) := by decide +kernel
theorem dc_CT_readFrom_117 : decode prog_3_method_11_code 117 = .ok (.aload_n 0, 1) := by decide +kernel
theorem dc_CT_readFrom_118 : decode prog_3_method_11_code 118 = .ok (.aload_n 1, 1) := by decide +kernel
theorem dc_CT_readFrom_119 : decode prog_3_method_11_code 119 = .ok (.iconst 0, 1) := by decide +kernel
theorem dc_CT_readFrom_120 : decode prog_3_method_11_code 120 = .ok (.ldc 132, 2) := by decide +kernel
theorem dc_CT_readFrom_122 : decode prog_3_method_11_code 122 = .ok (.invokevirtual 133, 3) := by decide +kernel
theorem dc_CT_readFrom_125 : decode prog_3_method_11_code 125 = .ok (.putfield 73, 3) := by decide +kernel
theorem dc_CT_readFrom_128 : decode prog_3_method_11_code 128 = .ok (.aload_n 1, 1) := by decide +kernel
theorem dc_CT_readFrom_129 : decode prog_3_method_11_code 129 = .ok (.invokevirtual 125, 3) := by decide +kernel
theorem dc_CT_readFrom_132 : decode prog_3_method_11_code 132 = .ok (.aload_n 1, 1) := by decide +kernel
theorem dc_CT_readFrom_133 : decode prog_3_method_11_code 133 = .ok (.invokevirtual 137, 3) := by decide +kernel
theorem dc_CT_readFrom_136 : decode prog_3_method_11_code 136 = .ok (.ireturn, 1) := by decide +kernel
theorem dc_CT_readHead_0 : decode prog_3_method_12_code 0 = .ok (.aload_n 0, 1) := by decide +kernel
theorem dc_CT_readHead_1 : decode prog_3_method_12_code 1 = .ok (.aload_n 1, 1) := by decide +kernel
theorem dc_CT_readHead_2 : decode prog_3_method_12_code 2 = .ok (.iconst 0, 1) := by decide +kernel
theorem dc_CT_readHead_3 : decode prog_3_method_12_code 3 = .ok (.ldc 132, 2) := by decide +kernel
theorem dc_CT_readHead_5 : decode prog_3_method_12_code 5 = .ok (.invokevirtual 133, 3) := by decide +kernel
theorem dc_CT_readHead_8 : decode prog_3_method_12_code 8 = .ok (.putfield 58, 3) := by decide +kernel
theorem dc_CT_readHead_11 : decode prog_3_method_12_code 11 = .ok (.aload_n 0, 1) := by decide +kernel
theorem dc_CT_readHead_12 : decode prog_3_method_12_code 12 = .ok (.getfield 12, 3) := by decide +kernel
theorem dc_CT_readHead_15 : decode prog_3_method_12_code 15 = .ok (.aload_n 1, 1) := by decide +kernel
theorem dc_CT_readHead_16 : decode prog_3_method_12_code 16 = .ok (.invokevirtual 140, 3) := by decide +kernel
theorem dc_CT_readHead_19 : decode prog_3_method_12_code 19 = .ok (.aload_n 1, 1) := by decide +kernel
theorem dc_CT_readHead_20 : decode prog_3_method_12_code 20 = .ok (.bipush 48, 2) := by decide +kernel
theorem dc_CT_readHead_22 : decode prog_3_method_12_code 22 = .ok (.invokevirtual 102, 3) := by decide +kernel
theorem dc_CT_readHead_25 : decode prog_3_method_12_code 25 = .ok (.aload_n 0, 1) := by decide +kernel
theorem dc_CT_readHead_26 : decode prog_3_method_12_code 26 = .ok (.aload_n 1, 1) := by decide +kernel
theorem dc_CT_readHead_27 : decode prog_3_method_12_code 27 = .ok (.iconst 0, 1) := by decide +kernel
theorem dc_CT_readHead_28 : decode prog_3_method_12_code 28 = .ok (.ldc 132, 2) := by decide +kernel
theorem dc_CT_readHead_30 : decode prog_3_method_12_code 30 = .ok (.invokevirtual 133, 3) := by decide +kernel
theorem dc_CT_readHead_33 : decode prog_3_method_12_code 33 = .ok (.putfield 61, 3) := by decide +kernel
theorem dc_CT_readHead_36 : decode prog_3_method_12_code 36 = .ok (.aload_n 0, 1) := by decide +kernel
theorem dc_CT_readHead_37 : decode prog_3_method_12_code 37 = .ok (.aload_n 1, 1) := by decide +kernel
theorem dc_CT_readHead_38 : decode prog_3_method_12_code 38 = .ok (.iconst 0, 1) := by decide +kernel
theorem dc_CT_readHead_39 : decode prog_3_method_12_code 39 = .ok (.ldc 132, 2) := by decide +kernel
theorem dc_CT_readHead_41 : decode prog_3_method_12_code 41 = .ok (.invokevirtual 133, 3) := by decide +kernel
theorem dc_CT_readHead_44 : decode prog_3_method_12_code 44 = .ok (.putfield 64, 3) := by decide +kernel
theorem dc_CT_readHead_47 : decode prog_3_method_12_code 47 = .ok (.aload_n 1, 1) := by decide +kernel
theorem dc_CT_readHead_48 : decode prog_3_method_12_code 48 = .ok (.invokevirtual 125, 3) := by decide +kernel
theorem dc_CT_readHead_51 : decode prog_3_method_12_code 51 = .ok (.aload_n 0, 1) := by decide +kernel
theorem dc_CT_readHead_52 : decode prog_3_method_12_code 52 = .ok (.getfield 18, 3) := by decide +kernel
theorem dc_CT_readHead_55 : decode prog_3_method_12_code 55 = .ok (.aload_n 1, 1) := by decide +kernel
theorem dc_CT_readHead_56 : decode prog_3_method_12_code 56 = .ok (.invokevirtual 140, 3) := by decide +kernel
theorem dc_CT_readHead_59 : decode prog_3_method_12_code 59 = .ok (.aload_n 1, 1) := by decide +kernel
theorem dc_CT_readHead_60 : decode prog_3_method_12_code 60 = .ok (.bipush 48, 2) := by decide +kernel
theorem dc_CT_readHead_62 : decode prog_3_method_12_code 62 = .ok (.invokevirtual 102, 3) := by decide +kernel
theorem dc_CT_readHead_65 : decode prog_3_method_12_code 65 = .ok (.aload_n 0, 1) := by decide +kernel
theorem dc_CT_readHead_66 : decode prog_3_method_12_code 66 = .ok (.aload_n 1, 1) := by decide +kernel
theorem dc_CT_readHead_67 : decode prog_3_method_12_code 67 = .ok (.iconst 2, 1) := by decide +kernel
theorem dc_CT_readHead_68 : decode prog_3_method_12_code 68 = .ok (.ldc 132, 2) := by decide +kernel
theorem dc_CT_readHead_70 : decode prog_3_method_12_code 70 = .ok (.invokevirtual 133, 3) := by decide +kernel
theorem dc_CT_readHead_73 : decode prog_3_method_12_code 73 = .ok (.putfield 67, 3) := by decide +kernel
theorem dc_CT_readHead_76 : decode prog_3_method_12_code 76 = .ok (.aload_n 0, 1) := by decide +kernel
theorem dc_CT_readHead_77 : decode prog_3_method_12_code 77 = .ok (.aload_n 1, 1) := by decide +kernel
theorem dc_CT_readHead_78 : decode prog_3_method_12_code 78 = .ok (.iconst 1, 1) := by decide +kernel
theorem dc_CT_readHead_79 : decode prog_3_method_12_code 79 = .ok (.sipush 1000, 3) := by decide +kernel
theorem dc_CT_readHead_82 : decode prog_3_method_12_code 82 = .ok (.invokevirtual 133, 3) := by decide +kernel
theorem dc_CT_readHead_85 : decode prog_3_method_12_code 85 = .ok (.putfield 70, 3) := by decide +kernel
theorem dc_CT_readHead_88 : decode prog_3_method_12_code 88 = .ok (.aload_n 1, 1) := by decide +kernel
theorem dc_CT_readHead_89 : decode prog_3_method_12_code 89 = .ok (.invokevirtual 125, 3) := by decide +kernel
theorem dc_CT_readHead_92 : decode prog_3_method_12_code 92 = .ok (.return_, 1) := by decide +kernel
theorem dc_CT_readExtension_0 : decode prog_3_method_13_code 0 = .ok (.aload_n 1, 1) := by decide +kernel
theorem dc_CT_readExtension_1 : decode prog_3_method_13_code 1 = .ok (.bipush 48, 2) := by decide +kernel
theorem dc_CT_readExtension_3 : decode prog_3_method_13_code 3 = .ok (.invokevirtual 102, 3) := by decide +kernel
theorem dc_CT_readExtension_6 : decode prog_3_method_13_code 6 = .ok (.aload_n 1, 1) := by decide +kernel
theorem dc_CT_readExtension_7 : decode prog_3_method_13_code 7 = .ok (.iconst 0, 1) := by decide +kernel
theorem dc_CT_readExtension_8 : decode prog_3_method_13_code 8 = .ok (.sipush 255, 3) := by decide +kernel
theorem dc_CT_readExtension_11 : decode prog_3_method_13_code 11 = .ok (.invokevirtual 133, 3) := by decide +kernel
theorem dc_CT_readExtension_14 : decode prog_3_method_13_code 14 = .ok (.istore_n 3, 1) := by decide +kernel
theorem dc_CT_readExtension_15 : decode prog_3_method_13_code 15 = .ok (.aload_n 0, 1) := by decide +kernel
theorem dc_CT_readExtension_16 : decode prog_3_method_13_code 16 = .ok (.iload_n 3, 1) := by decide +kernel
theorem dc_CT_readExtension_17 : decode prog_3_method_13_code 17 = .ok (.invokevirtual 143, 3) := by decide +kernel
theorem dc_CT_readExtension_20 : decode prog_3_method_13_code 20 = .ok (.ifCond .eq 7, 3) := by decide +kernel
theorem dc_CT_readExtension_23 : decode prog_3_method_13_code 23 = .ok (.aload_n 1, 1) := by decide +kernel
theorem dc_CT_readExtension_24 : decode prog_3_method_13_code 24 = .ok (.invokevirtual 146, 3) := by decide +kernel
theorem dc_CT_readExtension_27 : decode prog_3_method_13_code 27 = .ok (.aload_n 2, 1) := by decide +kernel
theorem dc_CT_readExtension_28 : decode prog_3_method_13_code 28 = .ok (.iload_n 3, 1) := by decide +kernel
theorem dc_CT_readExtension_29 : decode prog_3_method_13_code 29 = .ok (.putfield 149, 3) := by decide +kernel
theorem dc_CT_readExtension_32 : decode prog_3_method_13_code 32 = .ok (.aload_n 2, 1) := by decide +kernel
theorem dc_CT_readExtension_33 : decode prog_3_method_13_code 33 = .ok (.aload_n 1, 1) := by decide +kernel
theorem dc_CT_readExtension_34 : decode prog_3_method_13_code 34 = .ok (.invokevirtual 152, 3) := by decide +kernel
theorem dc_CT_readExtension_37 : decode prog_3_method_13_code 37 = .ok (.putfield 84, 3) := by decide +kernel
theorem dc_CT_readExtension_40 : decode prog_3_method_13_code 40 = .ok (.aload_n 1, 1) := by decide +kernel
theorem dc_CT_readExtension_41 : decode prog_3_method_13_code 41 = .ok (.iconst 4, 1) := by decide +kernel
theorem dc_CT_readExtension_42 : decode prog_3_method_13_code 42 = .ok (.invokevirtual 102, 3) := by decide +kernel
theorem dc_CT_readExtension_45 : decode prog_3_method_13_code 45 = .ok (.iload_n 3, 1) := by decide +kernel
theorem dc_CT_readExtension_46 : decode prog_3_method_13_code 46 = .ok (.tableswitch 50 1 3 #[26, 34, 42], 26) := by decide +kernel
theorem dc_CT_readExtension_72 : decode prog_3_method_13_code 72 = .ok (.aload_n 0, 1) := by decide +kernel
theorem dc_CT_readExtension_73 : decode prog_3_method_13_code 73 = .ok (.aload_n 1, 1) := by decide +kernel
theorem dc_CT_readExtension_74 : decode prog_3_method_13_code 74 = .ok (.invokevirtual 155, 3) := by decide +kernel
theorem dc_CT_readExtension_77 : decode prog_3_method_13_code 77 = .ok (.goto 24, 3) := by decide +kernel
theorem dc_CT_readExtension_80 : decode prog_3_method_13_code 80 = .ok (.aload_n 0, 1) := by decide +kernel
theorem dc_CT_readExtension_81 : decode prog_3_method_13_code 81 = .ok (.aload_n 1, 1) := by decide +kernel
theorem dc_CT_readExtension_82 : decode prog_3_method_13_code 82 = .ok (.invokevirtual 158, 3) := by decide +kernel
theorem dc_CT_readExtension_85 : decode prog_3_method_13_code 85 = .ok (.goto 16, 3) := by decide +kernel
theorem dc_CT_readExtension_88 : decode prog_3_method_13_code 88 = .ok (.aload_n 0, 1) := by decide +kernel
theorem dc_CT_readExtension_89 : decode prog_3_method_13_code 89 = .ok (.aload_n 1, 1) := by decide +kernel
theorem dc_CT_readExtension_90 : decode prog_3_method_13_code 90 = .ok (.invokevirtual 161, 3) := by decide +kernel
theorem dc_CT_readExtension_93 : decode prog_3_method_13_code 93 = .ok (.goto 8, 3) := by decide +kernel
theorem dc_CT_readExtension_96 : decode prog_3_method_13_code 96 = .ok (.aload_n 2, 1) := by decide +kernel
theorem dc_CT_readExtension_97 : decode prog_3_method_13_code 97 = .ok (.aload_n 1, 1) := by decide +kernel
theorem dc_CT_readExtension_98 : decode prog_3_method_13_code 98 = .ok (.invokevirtual 164, 3) := by decide +kernel
theorem dc_CT_readExtension_101 : decode prog_3_method_13_code 101 = .ok (.aload_n 1, 1) := by decide +kernel
theorem dc_CT_readExtension_102 : decode prog_3_method_13_code 102 = .ok (.invokevirtual 125, 3) := by decide +kernel
theorem dc_CT_readExtension_105 : decode prog_3_method_13_code 105 = .ok (.aload_n 1, 1) := by decide +kernel
theorem dc_CT_readExtension_106 : decode prog_3_method_13_code 106 = .ok (.invokevirtual 125, 3) := by decide +kernel
theorem dc_CT_readExtension_109 : decode prog_3_method_13_code 109 = .ok (.return_, 1) := by decide +kernel
theorem dc_CT_hasExtension_0 : decode prog_3_method_14_code 0 = .ok (.iconst 0, 1) := by decide +kernel
theorem dc_CT_hasExtension_1 : decode prog_3_method_14_code 1 = .ok (.istore_n 2, 1) := by decide +kernel
theorem dc_CT_hasExtension_2 : decode prog_3_method_14_code 2 = .ok (.iload_n 2, 1) := by decide +kernel
theorem dc_CT_hasExtension_3 : decode prog_3_method_14_code 3 = .ok (.aload_n 0, 1) := by decide +kernel
theorem dc_CT_hasExtension_4 : decode prog_3_method_14_code 4 = .ok (.getfield 41, 3) := by decide +kernel
theorem dc_CT_hasExtension_7 : decode prog_3_method_14_code 7 = .ok (.if_icmp .ge 24, 3) := by decide +kernel
theorem dc_CT_hasExtension_10 : decode prog_3_method_14_code 10 = .ok (.aload_n 0, 1) := by decide +kernel
theorem dc_CT_hasExtension_11 : decode prog_3_method_14_code 11 = .ok (.getfield 23, 3) := by decide +kernel
theorem dc_CT_hasExtension_14 : decode prog_3_method_14_code 14 = .ok (.iload_n 2, 1) := by decide +kernel
theorem dc_CT_hasExtension_15 : decode prog_3_method_14_code 15 = .ok (.aaload, 1) := by decide +kernel
theorem dc_CT_hasExtension_16 : decode prog_3_method_14_code 16 = .ok (.getfield 149, 3) := by decide +kernel
theorem dc_CT_hasExtension_19 : decode prog_3_method_14_code 19 = .ok (.iload_n 1, 1) := by decide +kernel
theorem dc_CT_hasExtension_20 : decode prog_3_method_14_code 20 = .ok (.if_icmp .ne 5, 3) := by decide +kernel
theorem dc_CT_hasExtension_23 : decode prog_3_method_14_code 23 = .ok (.iconst 1, 1) := by decide +kernel
theorem dc_CT_hasExtension_24 : decode prog_3_method_14_code 24 = .ok (.ireturn, 1) := by decide +kernel
theorem dc_CT_hasExtension_25 : decode prog_3_method_14_code 25 = .ok (.iinc 2 1, 3) := by decide +kernel
theorem dc_CT_hasExtension_28 : decode prog_3_method_14_code 28 = .ok (.goto (-26), 3) := by decide +kernel
theorem dc_CT_hasExtension_31 : decode prog_3_method_14_code 31 = .ok (.iconst 0, 1) := by decide +kernel
theorem dc_CT_hasExtension_32 : decode prog_3_method_14_code 32 = .ok (.ireturn, 1) := by decide +kernel
theorem dc_CT_readBasic_0 : decode prog_3_method_15_code 0 = .ok (.aload_n 1, 1) := by decide +kernel
theorem dc_CT_readBasic_1 : decode prog_3_method_15_code 1 = .ok (.bipush 48, 2) := by decide +kernel
theorem dc_CT_readBasic_3 : decode prog_3_method_15_code 3 = .ok (.invokevirtual 102, 3) := by decide +kernel
theorem dc_CT_readBasic_6 : decode prog_3_method_15_code 6 = .ok (.aload_n 0, 1) := by decide +kernel
theorem dc_CT_readBasic_7 : decode prog_3_method_15_code 7 = .ok (.aload_n 1, 1) := by decide +kernel
theorem dc_CT_readBasic_8 : decode prog_3_method_15_code 8 = .ok (.invokevirtual 152, 3) := by decide +kernel
theorem dc_CT_readBasic_11 : decode prog_3_method_15_code 11 = .ok (.putfield 45, 3) := by decide +kernel
theorem dc_CT_readBasic_14 : decode prog_3_method_15_code 14 = .ok (.aload_n 0, 1) := by decide +kernel
theorem dc_CT_readBasic_15 : decode prog_3_method_15_code 15 = .ok (.getfield 45, 3) := by decide +kernel
theorem dc_CT_readBasic_18 : decode prog_3_method_15_code 18 = .ok (.ifCond .eq 21, 3) := by decide +kernel
theorem dc_CT_readBasic_21 : decode prog_3_method_15_code 21 = .ok (.aload_n 1, 1) := by decide +kernel
theorem dc_CT_readBasic_22 : decode prog_3_method_15_code 22 = .ok (.invokevirtual 121, 3) := by decide +kernel
theorem dc_CT_readBasic_25 : decode prog_3_method_15_code 25 = .ok (.ifCond .le 14, 3) := by decide +kernel
theorem dc_CT_readBasic_28 : decode prog_3_method_15_code 28 = .ok (.aload_n 0, 1) := by decide +kernel
theorem dc_CT_readBasic_29 : decode prog_3_method_15_code 29 = .ok (.aload_n 1, 1) := by decide +kernel
theorem dc_CT_readBasic_30 : decode prog_3_method_15_code 30 = .ok (.iconst 0, 1) := by decide +kernel
theorem dc_CT_readBasic_31 : decode prog_3_method_15_code 31 = .ok (.ldc 132, 2) := by decide +kernel
theorem dc_CT_readBasic_33 : decode prog_3_method_15_code 33 = .ok (.invokevirtual 133, 3) := by decide +kernel
theorem dc_CT_readBasic_36 : decode prog_3_method_15_code 36 = .ok (.putfield 49, 3) := by decide +kernel
theorem dc_CT_readBasic_39 : decode prog_3_method_15_code 39 = .ok (.aload_n 1, 1) := by decide +kernel
theorem dc_CT_readBasic_40 : decode prog_3_method_15_code 40 = .ok (.invokevirtual 125, 3) := by decide +kernel
theorem dc_CT_readBasic_43 : decode prog_3_method_15_code 43 = .ok (.return_, 1) := by decide +kernel
theorem dc_CT_readUsage_0 : decode prog_3_method_16_code 0 = .ok (.aload_n 1, 1) := by decide +kernel
theorem dc_CT_readUsage_1 : decode prog_3_method_16_code 1 = .ok (.iconst 3, 1) := by decide +kernel
theorem dc_CT_readUsage_2 : decode prog_3_method_16_code 2 = .ok (.invokevirtual 102, 3) := by decide +kernel
theorem dc_CT_readUsage_5 : decode prog_3_method_16_code 5 = .ok (.aload_n 1, 1) := by decide +kernel
theorem dc_CT_readUsage_6 : decode prog_3_method_16_code 6 = .ok (.invokevirtual 167, 3) := by decide +kernel
theorem dc_CT_readUsage_9 : decode prog_3_method_16_code 9 = .ok (.istore_n 2, 1) := by decide +kernel
theorem dc_CT_readUsage_10 : decode prog_3_method_16_code 10 = .ok (.iconst 0, 1) := by decide +kernel
theorem dc_CT_readUsage_11 : decode prog_3_method_16_code 11 = .ok (.istore_n 3, 1) := by decide +kernel
theorem dc_CT_readUsage_12 : decode prog_3_method_16_code 12 = .ok (.aload_n 1, 1) := by decide +kernel
theorem dc_CT_readUsage_13 : decode prog_3_method_16_code 13 = .ok (.invokevirtual 121, 3) := by decide +kernel
theorem dc_CT_readUsage_16 : decode prog_3_method_16_code 16 = .ok (.ifCond .le 27, 3) := by decide +kernel
theorem dc_CT_readUsage_19 : decode prog_3_method_16_code 19 = .ok (.aload_n 1, 1) := by decide +kernel
theorem dc_CT_readUsage_20 : decode prog_3_method_16_code 20 = .ok (.invokevirtual 167, 3) := by decide +kernel
theorem dc_CT_readUsage_23 : decode prog_3_method_16_code 23 = .ok (.istore_n 3, 1) := by decide +kernel
theorem dc_CT_readUsage_24 : decode prog_3_method_16_code 24 = .ok (.iload_n 3, 1) := by decide +kernel
theorem dc_CT_readUsage_25 : decode prog_3_method_16_code 25 = .ok (.ifCond .eq 11, 3) := by decide +kernel
theorem dc_CT_readUsage_28 : decode prog_3_method_16_code 28 = .ok (.iload_n 2, 1) := by decide +kernel
theorem dc_CT_readUsage_29 : decode prog_3_method_16_code 29 = .ok (.iload_n 3, 1) := by decide +kernel
theorem dc_CT_readUsage_30 : decode prog_3_method_16_code 30 = .ok (.invokestatic 170, 3) := by decide +kernel
theorem dc_CT_readUsage_33 : decode prog_3_method_16_code 33 = .ok (.if_icmp .eq 18, 3) := by decide +kernel
theorem dc_CT_readUsage_36 : decode prog_3_method_16_code 36 = .ok (.aload_n 1, 1) := by decide +kernel
theorem dc_CT_readUsage_37 : decode prog_3_method_16_code 37 = .ok (.invokevirtual 146, 3) := by decide +kernel
theorem dc_CT_readUsage_40 : decode prog_3_method_16_code 40 = .ok (.goto 11, 3) := by decide +kernel
theorem dc_CT_readUsage_43 : decode prog_3_method_16_code 43 = .ok (.iload_n 2, 1) := by decide +kernel
theorem dc_CT_readUsage_44 : decode prog_3_method_16_code 44 = .ok (.ifCond .eq 7, 3) := by decide +kernel
theorem dc_CT_readUsage_47 : decode prog_3_method_16_code 47 = .ok (.aload_n 1, 1) := by decide +kernel
theorem dc_CT_readUsage_48 : decode prog_3_method_16_code 48 = .ok (.invokevirtual 146, 3) := by decide +kernel
theorem dc_CT_readUsage_51 : decode prog_3_method_16_code 51 = .ok (.aload_n 0, 1) := by decide +kernel
theorem dc_CT_readUsage_52 : decode prog_3_method_16_code 52 = .ok (.iload_n 3, 1) := by decide +kernel
theorem dc_CT_readUsage_53 : decode prog_3_method_16_code 53 = .ok (.invokestatic 173, 3) := by decide +kernel
theorem dc_CT_readUsage_56 : decode prog_3_method_16_code 56 = .ok (.putfield 52, 3) := by decide +kernel
theorem dc_CT_readUsage_59 : decode prog_3_method_16_code 59 = .ok (.aload_n 1, 1) := by decide +kernel
theorem dc_CT_readUsage_60 : decode prog_3_method_16_code 60 = .ok (.invokevirtual 125, 3) := by decide +kernel
theorem dc_CT_readUsage_63 : decode prog_3_method_16_code 63 = .ok (.return_, 1) := by decide +kernel
theorem dc_CT_readBounds_0 : decode prog_3_method_17_code 0 = .ok (.aload_n 1, 1) := by decide +kernel
theorem dc_CT_readBounds_1 : decode prog_3_method_17_code 1 = .ok (.bipush 48, 2) := by decide +kernel
theorem dc_CT_readBounds_3 : decode prog_3_method_17_code 3 = .ok (.invokevirtual 102, 3) := by decide +kernel
theorem dc_CT_readBounds_6 : decode prog_3_method_17_code 6 = .ok (.aload_n 0, 1) := by decide +kernel
theorem dc_CT_readBounds_7 : decode prog_3_method_17_code 7 = .ok (.getfield 31, 3) := by decide +kernel
theorem dc_CT_readBounds_10 : decode prog_3_method_17_code 10 = .ok (.aload_n 1, 1) := by decide +kernel
theorem dc_CT_readBounds_11 : decode prog_3_method_17_code 11 = .ok (.sipush 160, 3) := by decide +kernel
theorem dc_CT_readBounds_14 : decode prog_3_method_17_code 14 = .ok (.invokevirtual 176, 3) := by decide +kernel
theorem dc_CT_readBounds_17 : decode prog_3_method_17_code 17 = .ok (.aload_n 0, 1) := by decide +kernel
theorem dc_CT_readBounds_18 : decode prog_3_method_17_code 18 = .ok (.getfield 35, 3) := by decide +kernel
theorem dc_CT_readBounds_21 : decode prog_3_method_17_code 21 = .ok (.aload_n 1, 1) := by decide +kernel
theorem dc_CT_readBounds_22 : decode prog_3_method_17_code 22 = .ok (.sipush 161, 3) := by decide +kernel
theorem dc_CT_readBounds_25 : decode prog_3_method_17_code 25 = .ok (.invokevirtual 176, 3) := by decide +kernel
theorem dc_CT_readBounds_28 : decode prog_3_method_17_code 28 = .ok (.aload_n 0, 1) := by decide +kernel
theorem dc_CT_readBounds_29 : decode prog_3_method_17_code 29 = .ok (.getfield 31, 3) := by decide +kernel
theorem dc_CT_readBounds_32 : decode prog_3_method_17_code 32 = .ok (.getfield 55, 3) := by decide +kernel
theorem dc_CT_readBounds_35 : decode prog_3_method_17_code 35 = .ok (.ifCond .ne 17, 3) := by decide +kernel
theorem dc_CT_readBounds_38 : decode prog_3_method_17_code 38 = .ok (.aload_n 0, 1) := by decide +kernel
theorem dc_CT_readBounds_39 : decode prog_3_method_17_code 39 = .ok (.getfield 35, 3) := by decide +kernel
theorem dc_CT_readBounds_42 : decode prog_3_method_17_code 42 = .ok (.getfield 55, 3) := by decide +kernel
theorem dc_CT_readBounds_45 : decode prog_3_method_17_code 45 = .ok (.ifCond .ne 7, 3) := by decide +kernel
theorem dc_CT_readBounds_48 : decode prog_3_method_17_code 48 = .ok (.aload_n 1, 1) := by decide +kernel
theorem dc_CT_readBounds_49 : decode prog_3_method_17_code 49 = .ok (.invokevirtual 146, 3) := by decide +kernel
theorem dc_CT_readBounds_52 : decode prog_3_method_17_code 52 = .ok (.aload_n 1, 1) := by decide +kernel
theorem dc_CT_readBounds_53 : decode prog_3_method_17_code 53 = .ok (.invokevirtual 125, 3) := by decide +kernel
theorem dc_CT_readBounds_56 : decode prog_3_method_17_code 56 = .ok (.return_, 1) := by decide +kernel
theorem dc_CT_writeTo_0 : decode prog_3_method_18_code 0 = .ok (.aload_n 1, 1) := by decide +kernel
theorem dc_CT_writeTo_1 : decode prog_3_method_18_code 1 = .ok (.bipush 48, 2) := by decide +kernel
theorem dc_CT_writeTo_3 : decode prog_3_method_18_code 3 = .ok (.invokevirtual 180, 3) := by decide +kernel
theorem dc_CT_writeTo_6 : decode prog_3_method_18_code 6 = .ok (.istore_n 2, 1) := by decide +kernel
theorem dc_CT_writeTo_7 : decode prog_3_method_18_code 7 = .ok (.aload_n 1, 1) := by decide +kernel
theorem dc_CT_writeTo_8 : decode prog_3_method_18_code 8 = .ok (.bipush 48, 2) := by decide +kernel
theorem dc_CT_writeTo_10 : decode prog_3_method_18_code 10 = .ok (.invokevirtual 180, 3) := by decide +kernel
theorem dc_CT_writeTo_13 : decode prog_3_method_18_code 13 = .ok (.istore_n 3, 1) := by decide +kernel
theorem dc_CT_writeTo_14 : decode prog_3_method_18_code 14 = .ok (.aload_n 0, 1) := by decide +kernel
theorem dc_CT_writeTo_15 : decode prog_3_method_18_code 15 = .ok (.aload_n 1, 1) := by decide +kernel
theorem dc_CT_writeTo_16 : decode prog_3_method_18_code 16 = .ok (.invokevirtual 185, 3) := by decide +kernel
theorem dc_CT_writeTo_19 : decode prog_3_method_18_code 19 = .ok (.aload_n 0, 1) := by decide +kernel
theorem dc_CT_writeTo_20 : decode prog_3_method_18_code 20 = .ok (.getfield 41, 3) := by decide +kernel
theorem dc_CT_writeTo_23 : decode prog_3_method_18_code 23 = .ok (.ifCond .le 62, 3) := by decide +kernel
theorem dc_CT_writeTo_26 : decode prog_3_method_18_code 26 = .ok (.aload_n 1, 1) := by decide +kernel
theorem dc_CT_writeTo_27 : decode prog_3_method_18_code 27 = .ok (.sipush 163, 3) := by decide +kernel
theorem dc_CT_writeTo_30 : decode prog_3_method_18_code 30 = .ok (.invokevirtual 180, 3) := by decide +kernel
theorem dc_CT_writeTo_33 : decode prog_3_method_18_code 33 = .ok (.istore 4, 2) := by decide +kernel
theorem dc_CT_writeTo_35 : decode prog_3_method_18_code 35 = .ok (.aload_n 1, 1) := by decide +kernel
theorem dc_CT_writeTo_36 : decode prog_3_method_18_code 36 = .ok (.bipush 48, 2) := by decide +kernel
theorem dc_CT_writeTo_38 : decode prog_3_method_18_code 38 = .ok (.invokevirtual 180, 3) := by decide +kernel
theorem dc_CT_writeTo_41 : decode prog_3_method_18_code 41 = .ok (.istore 5, 2) := by decide +kernel
theorem dc_CT_writeTo_43 : decode prog_3_method_18_code 43 = .ok (.iconst 0, 1) := by decide +kernel
theorem dc_CT_writeTo_44 : decode prog_3_method_18_code 44 = .ok (.istore 6, 2) := by decide +kernel
theorem dc_CT_writeTo_46 : decode prog_3_method_18_code 46 = .ok (.iload 6, 2) := by decide +kernel
theorem dc_CT_writeTo_48 : decode prog_3_method_18_code 48 = .ok (.aload_n 0, 1) := by decide +kernel
theorem dc_CT_writeTo_49 : decode prog_3_method_18_code 49 = .ok (.getfield 41, 3) := by decide +kernel
theorem dc_CT_writeTo_52 : decode prog_3_method_18_code 52 = .ok (.if_icmp .ge 21, 3) := by decide +kernel
theorem dc_CT_writeTo_55 : decode prog_3_method_18_code 55 = .ok (.aload_n 0, 1) := by decide +kernel
theorem dc_CT_writeTo_56 : decode prog_3_method_18_code 56 = .ok (.aload_n 1, 1) := by decide +kernel
theorem dc_CT_writeTo_57 : decode prog_3_method_18_code 57 = .ok (.aload_n 0, 1) := by decide +kernel
theorem dc_CT_writeTo_58 : decode prog_3_method_18_code 58 = .ok (.getfield 23, 3) := by decide +kernel
theorem dc_CT_writeTo_61 : decode prog_3_method_18_code 61 = .ok (.iload 6, 2) := by decide +kernel
theorem dc_CT_writeTo_63 : decode prog_3_method_18_code 63 = .ok (.aaload, 1) := by decide +kernel
theorem dc_CT_writeTo_64 : decode prog_3_method_18_code 64 = .ok (.invokevirtual 189, 3) := by decide +kernel
theorem dc_CT_writeTo_67 : decode prog_3_method_18_code 67 = .ok (.iinc 6 1, 3) := by decide +kernel
theorem dc_CT_writeTo_70 : decode prog_3_method_18_code 70 = .ok (.goto (-24), 3) := by decide +kernel
theorem dc_CT_writeTo_73 : decode prog_3_method_18_code 73 = .ok (.aload_n 1, 1) := by decide +kernel
theorem dc_CT_writeTo_74 : decode prog_3_method_18_code 74 = .ok (.iload 5, 2) := by decide +kernel
theorem dc_CT_writeTo_76 : decode prog_3_method_18_code 76 = .ok (.invokevirtual 193, 3) := by decide +kernel
theorem dc_CT_writeTo_79 : decode prog_3_method_18_code 79 = .ok (.aload_n 1, 1) := by decide +kernel
theorem dc_CT_writeTo_80 : decode prog_3_method_18_code 80 = .ok (.iload 4, 2) := by decide +kernel
theorem dc_CT_writeTo_82 : decode prog_3_method_18_code 82 = .ok (.invokevirtual 193, 3) := by decide +kernel
theorem dc_CT_writeTo_85 : decode prog_3_method_18_code 85 = .ok (.aload_n 1, 1) := by decide +kernel
theorem dc_CT_writeTo_86 : decode prog_3_method_18_code 86 = .ok (.iload_n 3, 1) := by decide +kernel
theorem dc_CT_writeTo_87 : decode prog_3_method_18_code 87 = .ok (.invokevirtual 193, 3) := by decide +kernel
theorem dc_CT_writeTo_90 : decode prog_3_method_18_code 90 = .ok (.aload_n 1, 1) := by decide +kernel
theorem dc_CT_writeTo_91 : decode prog_3_method_18_code 91 = .ok (.aload_n 0, 1) := by decide +kernel
theorem dc_CT_writeTo_92 : decode prog_3_method_18_code 92 = .ok (.getfield 73, 3) := by decide +kernel
theorem dc_CT_writeTo_95 : decode prog_3_method_18_code 95 = .ok (.invokevirtual 196, 3) := by decide +kernel
theorem dc_CT_writeTo_98 : decode prog_3_method_18_code 98 = .ok (.aload_n 1, 1) := by decide +kernel
theorem dc_CT_writeTo_99 : decode prog_3_method_18_code 99 = .ok (.iload_n 2, 1) := by decide +kernel
theorem dc_CT_writeTo_100 : decode prog_3_method_18_code 100 = .ok (.invokevirtual 193, 3) := by decide +kernel
theorem dc_CT_writeTo_103 : decode prog_3_method_18_code 103 = .ok (.return_, 1) := by decide +kernel
theorem dc_CT_writeHead_0 : decode prog_3_method_19_code 0 = .ok (.aload_n 1, 1) := by decide +kernel
theorem dc_CT_writeHead_1 : decode prog_3_method_19_code 1 = .ok (.aload_n 0, 1) := by decide +kernel
theorem dc_CT_writeHead_2 : decode prog_3_method_19_code 2 = .ok (.getfield 58, 3) := by decide +kernel
theorem dc_CT_writeHead_5 : decode prog_3_method_19_code 5 = .ok (.invokevirtual 196, 3) := by decide +kernel
theorem dc_CT_writeHead_8 : decode prog_3_method_19_code 8 = .ok (.aload_n 0, 1) := by decide +kernel
theorem dc_CT_writeHead_9 : decode prog_3_method_19_code 9 = .ok (.getfield 12, 3) := by decide +kernel
theorem dc_CT_writeHead_12 : decode prog_3_method_19_code 12 = .ok (.aload_n 1, 1) := by decide +kernel
theorem dc_CT_writeHead_13 : decode prog_3_method_19_code 13 = .ok (.invokevirtual 199, 3) := by decide +kernel
theorem dc_CT_writeHead_16 : decode prog_3_method_19_code 16 = .ok (.aload_n 1, 1) := by decide +kernel
theorem dc_CT_writeHead_17 : decode prog_3_method_19_code 17 = .ok (.bipush 48, 2) := by decide +kernel
theorem dc_CT_writeHead_19 : decode prog_3_method_19_code 19 = .ok (.invokevirtual 180, 3) := by decide +kernel
theorem dc_CT_writeHead_22 : decode prog_3_method_19_code 22 = .ok (.istore_n 2, 1) := by decide +kernel
theorem dc_CT_writeHead_23 : decode prog_3_method_19_code 23 = .ok (.aload_n 1, 1) := by decide +kernel
theorem dc_CT_writeHead_24 : decode prog_3_method_19_code 24 = .ok (.aload_n 0, 1) := by decide +kernel
theorem dc_CT_writeHead_25 : decode prog_3_method_19_code 25 = .ok (.getfield 61, 3) := by decide +kernel
theorem dc_CT_writeHead_28 : decode prog_3_method_19_code 28 = .ok (.invokevirtual 196, 3) := by decide +kernel
theorem dc_CT_writeHead_31 : decode prog_3_method_19_code 31 = .ok (.aload_n 1, 1) := by decide +kernel
theorem dc_CT_writeHead_32 : decode prog_3_method_19_code 32 = .ok (.aload_n 0, 1) := by decide +kernel
theorem dc_CT_writeHead_33 : decode prog_3_method_19_code 33 = .ok (.getfield 64, 3) := by decide +kernel
theorem dc_CT_writeHead_36 : decode prog_3_method_19_code 36 = .ok (.invokevirtual 196, 3) := by decide +kernel
theorem dc_CT_writeHead_39 : decode prog_3_method_19_code 39 = .ok (.aload_n 1, 1) := by decide +kernel
theorem dc_CT_writeHead_40 : decode prog_3_method_19_code 40 = .ok (.iload_n 2, 1) := by decide +kernel
theorem dc_CT_writeHead_41 : decode prog_3_method_19_code 41 = .ok (.invokevirtual 193, 3) := by decide +kernel
theorem dc_CT_writeHead_44 : decode prog_3_method_19_code 44 = .ok (.aload_n 0, 1) := by decide +kernel
theorem dc_CT_writeHead_45 : decode prog_3_method_19_code 45 = .ok (.getfield 18, 3) := by decide +kernel
theorem dc_CT_writeHead_48 : decode prog_3_method_19_code 48 = .ok (.aload_n 1, 1) := by decide +kernel
theorem dc_CT_writeHead_49 : decode prog_3_method_19_code 49 = .ok (.invokevirtual 199, 3) := by decide +kernel
theorem dc_CT_writeHead_52 : decode prog_3_method_19_code 52 = .ok (.aload_n 1, 1) := by decide +kernel
theorem dc_CT_writeHead_53 : decode prog_3_method_19_code 53 = .ok (.bipush 48, 2) := by decide +kernel
theorem dc_CT_writeHead_55 : decode prog_3_method_19_code 55 = .ok (.invokevirtual 180, 3) := by decide +kernel
theorem dc_CT_writeHead_58 : decode prog_3_method_19_code 58 = .ok (.istore_n 3, 1) := by decide +kernel
theorem dc_CT_writeHead_59 : decode prog_3_method_19_code 59 = .ok (.aload_n 1, 1) := by decide +kernel
theorem dc_CT_writeHead_60 : decode prog_3_method_19_code 60 = .ok (.aload_n 0, 1) := by decide +kernel
theorem dc_CT_writeHead_61 : decode prog_3_method_19_code 61 = .ok (.getfield 67, 3) := by decide +kernel
theorem dc_CT_writeHead_64 : decode prog_3_method_19_code 64 = .ok (.invokevirtual 196, 3) := by decide +kernel
theorem dc_CT_writeHead_67 : decode prog_3_method_19_code 67 = .ok (.aload_n 1, 1) := by decide +kernel
theorem dc_CT_writeHead_68 : decode prog_3_method_19_code 68 = .ok (.aload_n 0, 1) := by decide +kernel
theorem dc_CT_writeHead_69 : decode prog_3_method_19_code 69 = .ok (.getfield 70, 3) := by decide +kernel
theorem dc_CT_writeHead_72 : decode prog_3_method_19_code 72 = .ok (.invokevirtual 196, 3) := by decide +kernel
theorem dc_CT_writeHead_75 : decode prog_3_method_19_code 75 = .ok (.aload_n 1, 1) := by decide +kernel
theorem dc_CT_writeHead_76 : decode prog_3_method_19_code 76 = .ok (.iload_n 3, 1) := by decide +kernel
theorem dc_CT_writeHead_77 : decode prog_3_method_19_code 77 = .ok (.invokevirtual 193, 3) := by decide +kernel
theorem dc_CT_writeHead_80 : decode prog_3_method_19_code 80 = .ok (.return_, 1) := by decide +kernel
theorem dc_CT_writeExtension_0 : decode prog_3_method_20_code 0 = .ok (.aload_n 1, 1) := by decide +kernel
theorem dc_CT_writeExtension_1 : decode prog_3_method_20_code 1 = .ok (.bipush 48, 2) := by decide +kernel
theorem dc_CT_writeExtension_3 : decode prog_3_method_20_code 3 = .ok (.invokevirtual 180, 3) := by decide +kernel
theorem dc_CT_writeExtension_6 : decode prog_3_method_20_code 6 = .ok (.istore_n 3, 1) := by decide +kernel
theorem dc_CT_writeExtension_7 : decode prog_3_method_20_code 7 = .ok (.aload_n 1, 1) := by decide +kernel
theorem dc_CT_writeExtension_8 : decode prog_3_method_20_code 8 = .ok (.aload_n 2, 1) := by decide +kernel
theorem dc_CT_writeExtension_9 : decode prog_3_method_20_code 9 = .ok (.getfield 149, 3) := by decide +kernel
theorem dc_CT_writeExtension_12 : decode prog_3_method_20_code 12 = .ok (.invokevirtual 196, 3) := by decide +kernel
theorem dc_CT_writeExtension_15 : decode prog_3_method_20_code 15 = .ok (.aload_n 2, 1) := by decide +kernel
theorem dc_CT_writeExtension_16 : decode prog_3_method_20_code 16 = .ok (.getfield 84, 3) := by decide +kernel
theorem dc_CT_writeExtension_19 : decode prog_3_method_20_code 19 = .ok (.ifCond .eq 7, 3) := by decide +kernel
theorem dc_CT_writeExtension_22 : decode prog_3_method_20_code 22 = .ok (.aload_n 1, 1) := by decide +kernel
theorem dc_CT_writeExtension_23 : decode prog_3_method_20_code 23 = .ok (.invokevirtual 202, 3) := by decide +kernel
theorem dc_CT_writeExtension_26 : decode prog_3_method_20_code 26 = .ok (.aload_n 1, 1) := by decide +kernel
theorem dc_CT_writeExtension_27 : decode prog_3_method_20_code 27 = .ok (.iconst 4, 1) := by decide +kernel
theorem dc_CT_writeExtension_28 : decode prog_3_method_20_code 28 = .ok (.invokevirtual 180, 3) := by decide +kernel
theorem dc_CT_writeExtension_31 : decode prog_3_method_20_code 31 = .ok (.istore 4, 2) := by decide +kernel
theorem dc_CT_writeExtension_33 : decode prog_3_method_20_code 33 = .ok (.aload_n 2, 1) := by decide +kernel
theorem dc_CT_writeExtension_34 : decode prog_3_method_20_code 34 = .ok (.getfield 149, 3) := by decide +kernel
theorem dc_CT_writeExtension_37 : decode prog_3_method_20_code 37 = .ok (.tableswitch 51 1 3 #[27, 35, 43], 27) := by decide +kernel
theorem dc_CT_writeExtension_64 : decode prog_3_method_20_code 64 = .ok (.aload_n 0, 1) := by decide +kernel
theorem dc_CT_writeExtension_65 : decode prog_3_method_20_code 65 = .ok (.aload_n 1, 1) := by decide +kernel
theorem dc_CT_writeExtension_66 : decode prog_3_method_20_code 66 = .ok (.invokevirtual 205, 3) := by decide +kernel
theorem dc_CT_writeExtension_69 : decode prog_3_method_20_code 69 = .ok (.goto 24, 3) := by decide +kernel
theorem dc_CT_writeExtension_72 : decode prog_3_method_20_code 72 = .ok (.aload_n 0, 1) := by decide +kernel
theorem dc_CT_writeExtension_73 : decode prog_3_method_20_code 73 = .ok (.aload_n 1, 1) := by decide +kernel
theorem dc_CT_writeExtension_74 : decode prog_3_method_20_code 74 = .ok (.invokevirtual 208, 3) := by decide +kernel
theorem dc_CT_writeExtension_77 : decode prog_3_method_20_code 77 = .ok (.goto 16, 3) := by decide +kernel
theorem dc_CT_writeExtension_80 : decode prog_3_method_20_code 80 = .ok (.aload_n 0, 1) := by decide +kernel
theorem dc_CT_writeExtension_81 : decode prog_3_method_20_code 81 = .ok (.aload_n 1, 1) := by decide +kernel
theorem dc_CT_writeExtension_82 : decode prog_3_method_20_code 82 = .ok (.invokevirtual 211, 3) := by decide +kernel
theorem dc_CT_writeExtension_85 : decode prog_3_method_20_code 85 = .ok (.goto 8, 3) := by decide +kernel
theorem dc_CT_writeExtension_88 : decode prog_3_method_20_code 88 = .ok (.aload_n 2, 1) := by decide +kernel
theorem dc_CT_writeExtension_89 : decode prog_3_method_20_code 89 = .ok (.aload_n 1, 1) := by decide +kernel
theorem dc_CT_writeExtension_90 : decode prog_3_method_20_code 90 = .ok (.invokevirtual 214, 3) := by decide +kernel
theorem dc_CT_writeExtension_93 : decode prog_3_method_20_code 93 = .ok (.aload_n 1, 1) := by decide +kernel
theorem dc_CT_writeExtension_94 : decode prog_3_method_20_code 94 = .ok (.iload 4, 2) := by decide +kernel
theorem dc_CT_writeExtension_96 : decode prog_3_method_20_code 96 = .ok (.invokevirtual 193, 3) := by decide +kernel
theorem dc_CT_writeExtension_99 : decode prog_3_method_20_code 99 = .ok (.aload_n 1, 1) := by decide +kernel
theorem dc_CT_writeExtension_100 : decode prog_3_method_20_code 100 = .ok (.iload_n 3, 1) := by decide +kernel
theorem dc_CT_writeExtension_101 : decode prog_3_method_20_code 101 = .ok (.invokevirtual 193, 3) := by decide +kernel
theorem dc_CT_writeExtension_104 : decode prog_3_method_20_code 104 = .ok (.return_, 1) := by decide +kernel
theorem dc_CT_writeBasic_0 : decode prog_3_method_21_code 0 = .ok (.aload_n 1, 1) := by decide +kernel
theorem dc_CT_writeBasic_1 : decode prog_3_method_21_code 1 = .ok (.bipush 48, 2) := by decide +kernel
theorem dc_CT_writeBasic_3 : decode prog_3_method_21_code 3 = .ok (.invokevirtual 180, 3) := by decide +kernel
theorem dc_CT_writeBasic_6 : decode prog_3_method_21_code 6 = .ok (.istore_n 2, 1) := by decide +kernel
theorem dc_CT_writeBasic_7 : decode prog_3_method_21_code 7 = .ok (.aload_n 0, 1) := by decide +kernel
theorem dc_CT_writeBasic_8 : decode prog_3_method_21_code 8 = .ok (.getfield 45, 3) := by decide +kernel
theorem dc_CT_writeBasic_11 : decode prog_3_method_21_code 11 = .ok (.ifCond .eq 7, 3) := by decide +kernel
theorem dc_CT_writeBasic_14 : decode prog_3_method_21_code 14 = .ok (.aload_n 1, 1) := by decide +kernel
theorem dc_CT_writeBasic_15 : decode prog_3_method_21_code 15 = .ok (.invokevirtual 202, 3) := by decide +kernel
theorem dc_CT_writeBasic_18 : decode prog_3_method_21_code 18 = .ok (.aload_n 0, 1) := by decide +kernel
theorem dc_CT_writeBasic_19 : decode prog_3_method_21_code 19 = .ok (.getfield 49, 3) := by decide +kernel
theorem dc_CT_writeBasic_22 : decode prog_3_method_21_code 22 = .ok (.iconst (-1), 1) := by decide +kernel
theorem dc_CT_writeBasic_23 : decode prog_3_method_21_code 23 = .ok (.if_icmp .eq 11, 3) := by decide +kernel
theorem dc_CT_writeBasic_26 : decode prog_3_method_21_code 26 = .ok (.aload_n 1, 1) := by decide +kernel
theorem dc_CT_writeBasic_27 : decode prog_3_method_21_code 27 = .ok (.aload_n 0, 1) := by decide +kernel
theorem dc_CT_writeBasic_28 : decode prog_3_method_21_code 28 = .ok (.getfield 49, 3) := by decide +kernel
theorem dc_CT_writeBasic_31 : decode prog_3_method_21_code 31 = .ok (.invokevirtual 196, 3) := by decide +kernel
theorem dc_CT_writeBasic_34 : decode prog_3_method_21_code 34 = .ok (.aload_n 1, 1) := by decide +kernel
theorem dc_CT_writeBasic_35 : decode prog_3_method_21_code 35 = .ok (.iload_n 2, 1) := by decide +kernel
theorem dc_CT_writeBasic_36 : decode prog_3_method_21_code 36 = .ok (.invokevirtual 193, 3) := by decide +kernel
theorem dc_CT_writeBasic_39 : decode prog_3_method_21_code 39 = .ok (.return_, 1) := by decide +kernel
theorem dc_CT_writeUsage_0 : decode prog_3_method_22_code 0 = .ok (.aload_n 1, 1) := by decide +kernel
theorem dc_CT_writeUsage_1 : decode prog_3_method_22_code 1 = .ok (.iconst 3, 1) := by decide +kernel
theorem dc_CT_writeUsage_2 : decode prog_3_method_22_code 2 = .ok (.invokevirtual 180, 3) := by decide +kernel
theorem dc_CT_writeUsage_5 : decode prog_3_method_22_code 5 = .ok (.istore_n 2, 1) := by decide +kernel
theorem dc_CT_writeUsage_6 : decode prog_3_method_22_code 6 = .ok (.aload_n 0, 1) := by decide +kernel
theorem dc_CT_writeUsage_7 : decode prog_3_method_22_code 7 = .ok (.getfield 52, 3) := by decide +kernel
theorem dc_CT_writeUsage_10 : decode prog_3_method_22_code 10 = .ok (.invokestatic 173, 3) := by decide +kernel
theorem dc_CT_writeUsage_13 : decode prog_3_method_22_code 13 = .ok (.istore_n 3, 1) := by decide +kernel
theorem dc_CT_writeUsage_14 : decode prog_3_method_22_code 14 = .ok (.iload_n 3, 1) := by decide +kernel
theorem dc_CT_writeUsage_15 : decode prog_3_method_22_code 15 = .ok (.ifCond .ne 12, 3) := by decide +kernel
theorem dc_CT_writeUsage_18 : decode prog_3_method_22_code 18 = .ok (.aload_n 1, 1) := by decide +kernel
theorem dc_CT_writeUsage_19 : decode prog_3_method_22_code 19 = .ok (.iconst 0, 1) := by decide +kernel
theorem dc_CT_writeUsage_20 : decode prog_3_method_22_code 20 = .ok (.invokevirtual 180, 3) := by decide +kernel
theorem dc_CT_writeUsage_23 : decode prog_3_method_22_code 23 = .ok (.pop, 1) := by decide +kernel
theorem dc_CT_writeUsage_24 : decode prog_3_method_22_code 24 = .ok (.goto 18, 3) := by decide +kernel
theorem dc_CT_writeUsage_27 : decode prog_3_method_22_code 27 = .ok (.aload_n 1, 1) := by decide +kernel
theorem dc_CT_writeUsage_28 : decode prog_3_method_22_code 28 = .ok (.iload_n 3, 1) := by decide +kernel
theorem dc_CT_writeUsage_29 : decode prog_3_method_22_code 29 = .ok (.invokestatic 170, 3) := by decide +kernel
theorem dc_CT_writeUsage_32 : decode prog_3_method_22_code 32 = .ok (.invokevirtual 180, 3) := by decide +kernel
theorem dc_CT_writeUsage_35 : decode prog_3_method_22_code 35 = .ok (.pop, 1) := by decide +kernel
theorem dc_CT_writeUsage_36 : decode prog_3_method_22_code 36 = .ok (.aload_n 1, 1) := by decide +kernel
theorem dc_CT_writeUsage_37 : decode prog_3_method_22_code 37 = .ok (.iload_n 3, 1) := by decide +kernel
theorem dc_CT_writeUsage_38 : decode prog_3_method_22_code 38 = .ok (.invokevirtual 180, 3) := by decide +kernel
theorem dc_CT_writeUsage_41 : decode prog_3_method_22_code 41 = .ok (.pop, 1) := by decide +kernel
theorem dc_CT_writeUsage_42 : decode prog_3_method_22_code 42 = .ok (.aload_n 1, 1) := by decide +kernel
theorem dc_CT_writeUsage_43 : decode prog_3_method_22_code 43 = .ok (.iload_n 2, 1) := by decide +kernel
theorem dc_CT_writeUsage_44 : decode prog_3_method_22_code 44 = .ok (.invokevirtual 193, 3) := by decide +kernel
theorem dc_CT_writeUsage_47 : decode prog_3_method_22_code 47 = .ok (.return_, 1) := by decide +kernel
theorem dc_CT_writeBounds_0 : decode prog_3_method_23_code 0 = .ok (.aload_n 1, 1) := by decide +kernel
theorem dc_CT_writeBounds_1 : decode prog_3_method_23_code 1 = .ok (.bipush 48, 2) := by decide +kernel
theorem dc_CT_writeBounds_3 : decode prog_3_method_23_code 3 = .ok (.invokevirtual 180, 3) := by decide +kernel
theorem dc_CT_writeBounds_6 : decode prog_3_method_23_code 6 = .ok (.istore_n 2, 1) := by decide +kernel
theorem dc_CT_writeBounds_7 : decode prog_3_method_23_code 7 = .ok (.aload_n 0, 1) := by decide +kernel
theorem dc_CT_writeBounds_8 : decode prog_3_method_23_code 8 = .ok (.getfield 31, 3) := by decide +kernel
theorem dc_CT_writeBounds_11 : decode prog_3_method_23_code 11 = .ok (.aload_n 1, 1) := by decide +kernel
theorem dc_CT_writeBounds_12 : decode prog_3_method_23_code 12 = .ok (.sipush 160, 3) := by decide +kernel
theorem dc_CT_writeBounds_15 : decode prog_3_method_23_code 15 = .ok (.invokevirtual 217, 3) := by decide +kernel
theorem dc_CT_writeBounds_18 : decode prog_3_method_23_code 18 = .ok (.aload_n 0, 1) := by decide +kernel
theorem dc_CT_writeBounds_19 : decode prog_3_method_23_code 19 = .ok (.getfield 35, 3) := by decide +kernel
theorem dc_CT_writeBounds_22 : decode prog_3_method_23_code 22 = .ok (.aload_n 1, 1) := by decide +kernel
theorem dc_CT_writeBounds_23 : decode prog_3_method_23_code 23 = .ok (.sipush 161, 3) := by decide +kernel
theorem dc_CT_writeBounds_26 : decode prog_3_method_23_code 26 = .ok (.invokevirtual 217, 3) := by decide +kernel
theorem dc_CT_writeBounds_29 : decode prog_3_method_23_code 29 = .ok (.aload_n 1, 1) := by decide +kernel
theorem dc_CT_writeBounds_30 : decode prog_3_method_23_code 30 = .ok (.iload_n 2, 1) := by decide +kernel
theorem dc_CT_writeBounds_31 : decode prog_3_method_23_code 31 = .ok (.invokevirtual 193, 3) := by decide +kernel
theorem dc_CT_writeBounds_34 : decode prog_3_method_23_code 34 = .ok (.return_, 1) := by decide +kernel
theorem dc_CT_mirrored_0 : decode prog_3_method_24_code 0 = .ok (.iconst 0, 1) := by decide +kernel
theorem dc_CT_mirrored_1 : decode prog_3_method_24_code 1 = .ok (.istore_n 1, 1) := by decide +kernel
theorem dc_CT_mirrored_2 : decode prog_3_method_24_code 2 = .ok (.iconst 0, 1) := by decide +kernel
theorem dc_CT_mirrored_3 : decode prog_3_method_24_code 3 = .ok (.istore_n 2, 1) := by decide +kernel
theorem dc_CT_mirrored_4 : decode prog_3_method_24_code 4 = .ok (.iload_n 2, 1) := by decide +kernel
theorem dc_CT_mirrored_5 : decode prog_3_method_24_code 5 = .ok (.bipush 8, 2) := by decide +kernel
theorem dc_CT_mirrored_7 : decode prog_3_method_24_code 7 = .ok (.if_icmp .ge 19, 3) := by decide +kernel
theorem dc_CT_mirrored_10 : decode prog_3_method_24_code 10 = .ok (.iload_n 1, 1) := by decide +kernel
theorem dc_CT_mirrored_11 : decode prog_3_method_24_code 11 = .ok (.iconst 1, 1) := by decide +kernel
theorem dc_CT_mirrored_12 : decode prog_3_method_24_code 12 = .ok (.ishl, 1) := by decide +kernel
theorem dc_CT_mirrored_13 : decode prog_3_method_24_code 13 = .ok (.iload_n 0, 1) := by decide +kernel
theorem dc_CT_mirrored_14 : decode prog_3_method_24_code 14 = .ok (.iload_n 2, 1) := by decide +kernel
theorem dc_CT_mirrored_15 : decode prog_3_method_24_code 15 = .ok (.iushr, 1) := by decide +kernel
theorem dc_CT_mirrored_16 : decode prog_3_method_24_code 16 = .ok (.iconst 1, 1) := by decide +kernel
theorem dc_CT_mirrored_17 : decode prog_3_method_24_code 17 = .ok (.iand, 1) := by decide +kernel
theorem dc_CT_mirrored_18 : decode prog_3_method_24_code 18 = .ok (.ior, 1) := by decide +kernel
theorem dc_CT_mirrored_19 : decode prog_3_method_24_code 19 = .ok (.istore_n 1, 1) := by decide +kernel
theorem dc_CT_mirrored_20 : decode prog_3_method_24_code 20 = .ok (.iinc 2 1, 3) := by decide +kernel
theorem dc_CT_mirrored_23 : decode prog_3_method_24_code 23 = .ok (.goto (-19), 3) := by decide +kernel
theorem dc_CT_mirrored_26 : decode prog_3_method_24_code 26 = .ok (.iload_n 1, 1) := by decide +kernel
theorem dc_CT_mirrored_27 : decode prog_3_method_24_code 27 = .ok (.ireturn, 1) := by decide +kernel
theorem dc_CT_zerosBehind_0 : decode prog_3_method_25_code 0 = .ok (.iconst 0, 1) := by decide +kernel
theorem dc_CT_zerosBehind_1 : decode prog_3_method_25_code 1 = .ok (.istore_n 1, 1) := by decide +kernel
theorem dc_CT_zerosBehind_2 : decode prog_3_method_25_code 2 = .ok (.iload_n 1, 1) := by decide +kernel
theorem dc_CT_zerosBehind_3 : decode prog_3_method_25_code 3 = .ok (.bipush 8, 2) := by decide +kernel
theorem dc_CT_zerosBehind_5 : decode prog_3_method_25_code 5 = .ok (.if_icmp .ge 17, 3) := by decide +kernel
theorem dc_CT_zerosBehind_8 : decode prog_3_method_25_code 8 = .ok (.iload_n 0, 1) := by decide +kernel
theorem dc_CT_zerosBehind_9 : decode prog_3_method_25_code 9 = .ok (.iload_n 1, 1) := by decide +kernel
theorem dc_CT_zerosBehind_10 : decode prog_3_method_25_code 10 = .ok (.iushr, 1) := by decide +kernel
theorem dc_CT_zerosBehind_11 : decode prog_3_method_25_code 11 = .ok (.iconst 1, 1) := by decide +kernel
theorem dc_CT_zerosBehind_12 : decode prog_3_method_25_code 12 = .ok (.iand, 1) := by decide +kernel
theorem dc_CT_zerosBehind_13 : decode prog_3_method_25_code 13 = .ok (.ifCond .ne 9, 3) := by decide +kernel
theorem dc_CT_zerosBehind_16 : decode prog_3_method_25_code 16 = .ok (.iinc 1 1, 3) := by decide +kernel
theorem dc_CT_zerosBehind_19 : decode prog_3_method_25_code 19 = .ok (.goto (-17), 3) := by decide +kernel
theorem dc_CT_zerosBehind_22 : decode prog_3_method_25_code 22 = .ok (.iload_n 1, 1) := by decide +kernel
theorem dc_CT_zerosBehind_23 : decode prog_3_method_25_code 23 = .ok (.ireturn, 1) := by decide +kernel
