/-! what each instruction is -/
theorem dc_MD_key_52 : decode prog_9_method_20_code 52 = .ok (.if_icmp .lt 13, 3) := by decide +kernel
theorem dc_MD_key_55 : decode prog_9_method_20_code 55 = .ok (.aload_n 0, 1) := by decide +kernel
theorem dc_MD_key_56 : decode prog_9_method_20_code 56 = .ok (.getfield 123, 3) := by decide +kernel
theorem dc_MD_key_59 : decode prog_9_method_20_code 59 = .ok (.sipush 1000, 3) := by decide +kernel
theorem dc_MD_key_62 : decode prog_9_method_20_code 62 = .ok (.if_icmp .le 7, 3) := by decide +kernel
theorem dc_MD_key_65 : decode prog_9_method_20_code 65 = .ok (.iconst 1, 1) := by decide +kernel
theorem dc_MD_key_66 : decode prog_9_method_20_code 66 = .ok (.goto 4, 3) := by decide +kernel
theorem dc_MD_key_69 : decode prog_9_method_20_code 69 = .ok (.iconst 0, 1) := by decide +kernel
theorem dc_MD_key_70 : decode prog_9_method_20_code 70 = .ok (.putfield 34, 3) := by decide +kernel
theorem dc_MD_key_73 : decode prog_9_method_20_code 73 = .ok (.return_, 1) := by decide +kernel
theorem dc_MD_more_0 : decode prog_9_method_21_code 0 = .ok (.aload_n 0, 1) := by decide +kernel
theorem dc_MD_more_1 : decode prog_9_method_21_code 1 = .ok (.sipush 163, 3) := by decide +kernel
theorem dc_MD_more_4 : decode prog_9_method_21_code 4 = .ok (.iload_n 1, 1) := by decide +kernel
theorem dc_MD_more_5 : decode prog_9_method_21_code 5 = .ok (.invokevirtual 45, 3) := by decide +kernel
theorem dc_MD_more_8 : decode prog_9_method_21_code 8 = .ok (.istore_n 2, 1) := by decide +kernel
theorem dc_MD_more_9 : decode prog_9_method_21_code 9 = .ok (.aload_n 0, 1) := by decide +kernel
theorem dc_MD_more_10 : decode prog_9_method_21_code 10 = .ok (.bipush 48, 2) := by decide +kernel
theorem dc_MD_more_12 : decode prog_9_method_21_code 12 = .ok (.iload_n 2, 1) := by decide +kernel
theorem dc_MD_more_13 : decode prog_9_method_21_code 13 = .ok (.invokevirtual 45, 3) := by decide +kernel
theorem dc_MD_more_16 : decode prog_9_method_21_code 16 = .ok (.istore_n 3, 1) := by decide +kernel
theorem dc_MD_more_17 : decode prog_9_method_21_code 17 = .ok (.aload_n 0, 1) := by decide +kernel
theorem dc_MD_more_18 : decode prog_9_method_21_code 18 = .ok (.getfield 34, 3) := by decide +kernel
theorem dc_MD_more_21 : decode prog_9_method_21_code 21 = .ok (.ifCond .ne 19, 3) := by decide +kernel
theorem dc_MD_more_24 : decode prog_9_method_21_code 24 = .ok (.aload_n 0, 1) := by decide +kernel
theorem dc_MD_more_25 : decode prog_9_method_21_code 25 = .ok (.getfield 38, 3) := by decide +kernel
theorem dc_MD_more_28 : decode prog_9_method_21_code 28 = .ok (.iload_n 3, 1) := by decide +kernel
theorem dc_MD_more_29 : decode prog_9_method_21_code 29 = .ok (.if_icmp .ge 11, 3) := by decide +kernel
theorem dc_MD_more_32 : decode prog_9_method_21_code 32 = .ok (.aload_n 0, 1) := by decide +kernel
theorem dc_MD_more_33 : decode prog_9_method_21_code 33 = .ok (.iload_n 3, 1) := by decide +kernel
theorem dc_MD_more_34 : decode prog_9_method_21_code 34 = .ok (.invokevirtual 126, 3) := by decide +kernel
theorem dc_MD_more_37 : decode prog_9_method_21_code 37 = .ok (.goto (-20), 3) := by decide +kernel
theorem dc_MD_more_40 : decode prog_9_method_21_code 40 = .ok (.aload_n 0, 1) := by decide +kernel
theorem dc_MD_more_41 : decode prog_9_method_21_code 41 = .ok (.aload_n 0, 1) := by decide +kernel
theorem dc_MD_more_42 : decode prog_9_method_21_code 42 = .ok (.getfield 34, 3) := by decide +kernel
theorem dc_MD_more_45 : decode prog_9_method_21_code 45 = .ok (.ifCond .ne 10, 3) := by decide +kernel
theorem dc_MD_more_48 : decode prog_9_method_21_code 48 = .ok (.aload_n 0, 1) := by decide +kernel
theorem dc_MD_more_49 : decode prog_9_method_21_code 49 = .ok (.getfield 105, 3) := by decide +kernel
theorem dc_MD_more_52 : decode prog_9_method_21_code 52 = .ok (.ifCond .ne 7, 3) := by decide +kernel
theorem dc_MD_more_55 : decode prog_9_method_21_code 55 = .ok (.iconst 1, 1) := by decide +kernel
theorem dc_MD_more_56 : decode prog_9_method_21_code 56 = .ok (.goto 4, 3) := by decide +kernel
theorem dc_MD_more_59 : decode prog_9_method_21_code 59 = .ok (.iconst 0, 1) := by decide +kernel
theorem dc_MD_more_60 : decode prog_9_method_21_code 60 = .ok (.putfield 34, 3) := by decide +kernel
theorem dc_MD_more_63 : decode prog_9_method_21_code 63 = .ok (.aload_n 0, 1) := by decide +kernel
theorem dc_MD_more_64 : decode prog_9_method_21_code 64 = .ok (.iload_n 3, 1) := by decide +kernel
theorem dc_MD_more_65 : decode prog_9_method_21_code 65 = .ok (.invokevirtual 77, 3) := by decide +kernel
theorem dc_MD_more_68 : decode prog_9_method_21_code 68 = .ok (.aload_n 0, 1) := by decide +kernel
theorem dc_MD_more_69 : decode prog_9_method_21_code 69 = .ok (.iload_n 2, 1) := by decide +kernel
theorem dc_MD_more_70 : decode prog_9_method_21_code 70 = .ok (.invokevirtual 77, 3) := by decide +kernel
theorem dc_MD_more_73 : decode prog_9_method_21_code 73 = .ok (.return_, 1) := by decide +kernel
theorem dc_MD_body_0 : decode prog_9_method_22_code 0 = .ok (.aload_n 0, 1) := by decide +kernel
theorem dc_MD_body_1 : decode prog_9_method_22_code 1 = .ok (.aload_n 0, 1) := by decide +kernel
theorem dc_MD_body_2 : decode prog_9_method_22_code 2 = .ok (.getfield 38, 3) := by decide +kernel
theorem dc_MD_body_5 : decode prog_9_method_22_code 5 = .ok (.putfield 129, 3) := by decide +kernel
theorem dc_MD_body_8 : decode prog_9_method_22_code 8 = .ok (.aload_n 0, 1) := by decide +kernel
theorem dc_MD_body_9 : decode prog_9_method_22_code 9 = .ok (.bipush 48, 2) := by decide +kernel
theorem dc_MD_body_11 : decode prog_9_method_22_code 11 = .ok (.iload_n 1, 1) := by decide +kernel
theorem dc_MD_body_12 : decode prog_9_method_22_code 12 = .ok (.invokevirtual 45, 3) := by decide +kernel
theorem dc_MD_body_15 : decode prog_9_method_22_code 15 = .ok (.istore_n 2, 1) := by decide +kernel
theorem dc_MD_body_16 : decode prog_9_method_22_code 16 = .ok (.aload_n 0, 1) := by decide +kernel
theorem dc_MD_body_17 : decode prog_9_method_22_code 17 = .ok (.aload_n 0, 1) := by decide +kernel
theorem dc_MD_body_18 : decode prog_9_method_22_code 18 = .ok (.iload_n 2, 1) := by decide +kernel
theorem dc_MD_body_19 : decode prog_9_method_22_code 19 = .ok (.invokevirtual 70, 3) := by decide +kernel
theorem dc_MD_body_22 : decode prog_9_method_22_code 22 = .ok (.putfield 132, 3) := by decide +kernel
theorem dc_MD_body_25 : decode prog_9_method_22_code 25 = .ok (.aload_n 0, 1) := by decide +kernel
theorem dc_MD_body_26 : decode prog_9_method_22_code 26 = .ok (.iload_n 2, 1) := by decide +kernel
theorem dc_MD_body_27 : decode prog_9_method_22_code 27 = .ok (.invokevirtual 81, 3) := by decide +kernel
theorem dc_MD_body_30 : decode prog_9_method_22_code 30 = .ok (.aload_n 0, 1) := by decide +kernel
theorem dc_MD_body_31 : decode prog_9_method_22_code 31 = .ok (.aload_n 0, 1) := by decide +kernel
theorem dc_MD_body_32 : decode prog_9_method_22_code 32 = .ok (.getfield 48, 3) := by decide +kernel
theorem dc_MD_body_35 : decode prog_9_method_22_code 35 = .ok (.putfield 135, 3) := by decide +kernel
theorem dc_MD_body_38 : decode prog_9_method_22_code 38 = .ok (.aload_n 0, 1) := by decide +kernel
theorem dc_MD_body_39 : decode prog_9_method_22_code 39 = .ok (.aload_n 0, 1) := by decide +kernel
theorem dc_MD_body_40 : decode prog_9_method_22_code 40 = .ok (.getfield 51, 3) := by decide +kernel
theorem dc_MD_body_43 : decode prog_9_method_22_code 43 = .ok (.putfield 138, 3) := by decide +kernel
theorem dc_MD_body_46 : decode prog_9_method_22_code 46 = .ok (.aload_n 0, 1) := by decide +kernel
theorem dc_MD_body_47 : decode prog_9_method_22_code 47 = .ok (.aload_n 0, 1) := by decide +kernel
theorem dc_MD_body_48 : decode prog_9_method_22_code 48 = .ok (.getfield 54, 3) := by decide +kernel
theorem dc_MD_body_51 : decode prog_9_method_22_code 51 = .ok (.putfield 141, 3) := by decide +kernel
theorem dc_MD_body_54 : decode prog_9_method_22_code 54 = .ok (.aload_n 0, 1) := by decide +kernel
theorem dc_MD_body_55 : decode prog_9_method_22_code 55 = .ok (.bipush 48, 2) := by decide +kernel
theorem dc_MD_body_57 : decode prog_9_method_22_code 57 = .ok (.iload_n 2, 1) := by decide +kernel
theorem dc_MD_body_58 : decode prog_9_method_22_code 58 = .ok (.invokevirtual 45, 3) := by decide +kernel
theorem dc_MD_body_61 : decode prog_9_method_22_code 61 = .ok (.istore_n 3, 1) := by decide +kernel
theorem dc_MD_body_62 : decode prog_9_method_22_code 62 = .ok (.aload_n 0, 1) := by decide +kernel
theorem dc_MD_body_63 : decode prog_9_method_22_code 63 = .ok (.aload_n 0, 1) := by decide +kernel
theorem dc_MD_body_64 : decode prog_9_method_22_code 64 = .ok (.iload_n 3, 1) := by decide +kernel
theorem dc_MD_body_65 : decode prog_9_method_22_code 65 = .ok (.invokevirtual 70, 3) := by decide +kernel
theorem dc_MD_body_68 : decode prog_9_method_22_code 68 = .ok (.putfield 144, 3) := by decide +kernel
theorem dc_MD_body_71 : decode prog_9_method_22_code 71 = .ok (.aload_n 0, 1) := by decide +kernel
theorem dc_MD_body_72 : decode prog_9_method_22_code 72 = .ok (.aload_n 0, 1) := by decide +kernel
theorem dc_MD_body_73 : decode prog_9_method_22_code 73 = .ok (.iload_n 3, 1) := by decide +kernel
theorem dc_MD_body_74 : decode prog_9_method_22_code 74 = .ok (.invokevirtual 70, 3) := by decide +kernel
theorem dc_MD_body_77 : decode prog_9_method_22_code 77 = .ok (.putfield 147, 3) := by decide +kernel
theorem dc_MD_body_80 : decode prog_9_method_22_code 80 = .ok (.aload_n 0, 1) := by decide +kernel
theorem dc_MD_body_81 : decode prog_9_method_22_code 81 = .ok (.iload_n 3, 1) := by decide +kernel
theorem dc_MD_body_82 : decode prog_9_method_22_code 82 = .ok (.invokevirtual 77, 3) := by decide +kernel
theorem dc_MD_body_85 : decode prog_9_method_22_code 85 = .ok (.aload_n 0, 1) := by decide +kernel
theorem dc_MD_body_86 : decode prog_9_method_22_code 86 = .ok (.iload_n 2, 1) := by decide +kernel
theorem dc_MD_body_87 : decode prog_9_method_22_code 87 = .ok (.invokevirtual 81, 3) := by decide +kernel
theorem dc_MD_body_90 : decode prog_9_method_22_code 90 = .ok (.aload_n 0, 1) := by decide +kernel
theorem dc_MD_body_91 : decode prog_9_method_22_code 91 = .ok (.aload_n 0, 1) := by decide +kernel
theorem dc_MD_body_92 : decode prog_9_method_22_code 92 = .ok (.getfield 48, 3) := by decide +kernel
theorem dc_MD_body_95 : decode prog_9_method_22_code 95 = .ok (.putfield 150, 3) := by decide +kernel
theorem dc_MD_body_98 : decode prog_9_method_22_code 98 = .ok (.aload_n 0, 1) := by decide +kernel
theorem dc_MD_body_99 : decode prog_9_method_22_code 99 = .ok (.aload_n 0, 1) := by decide +kernel
theorem dc_MD_body_100 : decode prog_9_method_22_code 100 = .ok (.getfield 51, 3) := by decide +kernel
theorem dc_MD_body_103 : decode prog_9_method_22_code 103 = .ok (.putfield 153, 3) := by decide +kernel
theorem dc_MD_body_106 : decode prog_9_method_22_code 106 = .ok (.aload_n 0, 1) := by decide +kernel
theorem dc_MD_body_107 : decode prog_9_method_22_code 107 = .ok (.aload_n 0, 1) := by decide +kernel
theorem dc_MD_body_108 : decode prog_9_method_22_code 108 = .ok (.getfield 54, 3) := by decide +kernel
theorem dc_MD_body_111 : decode prog_9_method_22_code 111 = .ok (.putfield 156, 3) := by decide +kernel
theorem dc_MD_body_114 : decode prog_9_method_22_code 114 = .ok (.aload_n 0, 1) := by decide +kernel
theorem dc_MD_body_115 : decode prog_9_method_22_code 115 = .ok (.iload_n 2, 1) := by decide +kernel
theorem dc_MD_body_116 : decode prog_9_method_22_code 116 = .ok (.invokevirtual 159, 3) := by decide +kernel
theorem dc_MD_body_119 : decode prog_9_method_22_code 119 = .ok (.aload_n 0, 1) := by decide +kernel
theorem dc_MD_body_120 : decode prog_9_method_22_code 120 = .ok (.getfield 34, 3) := by decide +kernel
theorem dc_MD_body_123 : decode prog_9_method_22_code 123 = .ok (.ifCond .ne 16, 3) := by decide +kernel
theorem dc_MD_body_126 : decode prog_9_method_22_code 126 = .ok (.aload_n 0, 1) := by decide +kernel
theorem dc_MD_body_127 : decode prog_9_method_22_code 127 = .ok (.getfield 38, 3) := by decide +kernel
theorem dc_MD_body_130 : decode prog_9_method_22_code 130 = .ok (.iload_n 2, 1) := by decide +kernel
theorem dc_MD_body_131 : decode prog_9_method_22_code 131 = .ok (.if_icmp .ge 8, 3) := by decide +kernel
theorem dc_MD_body_134 : decode prog_9_method_22_code 134 = .ok (.aload_n 0, 1) := by decide +kernel
theorem dc_MD_body_135 : decode prog_9_method_22_code 135 = .ok (.iload_n 2, 1) := by decide +kernel
theorem dc_MD_body_136 : decode prog_9_method_22_code 136 = .ok (.invokevirtual 162, 3) := by decide +kernel
theorem dc_MD_body_139 : decode prog_9_method_22_code 139 = .ok (.aload_n 0, 1) := by decide +kernel
theorem dc_MD_body_140 : decode prog_9_method_22_code 140 = .ok (.iload_n 2, 1) := by decide +kernel
theorem dc_MD_body_141 : decode prog_9_method_22_code 141 = .ok (.invokevirtual 77, 3) := by decide +kernel
theorem dc_MD_body_144 : decode prog_9_method_22_code 144 = .ok (.aload_n 0, 1) := by decide +kernel
theorem dc_MD_body_145 : decode prog_9_method_22_code 145 = .ok (.aload_n 0, 1) := by decide +kernel
theorem dc_MD_body_146 : decode prog_9_method_22_code 146 = .ok (.getfield 38, 3) := by decide +kernel
theorem dc_MD_body_149 : decode prog_9_method_22_code 149 = .ok (.putfield 165, 3) := by decide +kernel
theorem dc_MD_body_152 : decode prog_9_method_22_code 152 = .ok (.return_, 1) := by decide +kernel
theorem dc_MD_read_0 : decode prog_9_method_23_code 0 = .ok (.aload_n 0, 1) := by decide +kernel
theorem dc_MD_read_1 : decode prog_9_method_23_code 1 = .ok (.iload_n 1, 1) := by decide +kernel
theorem dc_MD_read_2 : decode prog_9_method_23_code 2 = .ok (.putfield 38, 3) := by decide +kernel
theorem dc_MD_read_5 : decode prog_9_method_23_code 5 = .ok (.aload_n 0, 1) := by decide +kernel
theorem dc_MD_read_6 : decode prog_9_method_23_code 6 = .ok (.iconst 0, 1) := by decide +kernel
theorem dc_MD_read_7 : decode prog_9_method_23_code 7 = .ok (.putfield 34, 3) := by decide +kernel
theorem dc_MD_read_10 : decode prog_9_method_23_code 10 = .ok (.aload_n 0, 1) := by decide +kernel
theorem dc_MD_read_11 : decode prog_9_method_23_code 11 = .ok (.iconst 0, 1) := by decide +kernel
theorem dc_MD_read_12 : decode prog_9_method_23_code 12 = .ok (.putfield 105, 3) := by decide +kernel
theorem dc_MD_read_15 : decode prog_9_method_23_code 15 = .ok (.aload_n 0, 1) := by decide +kernel
theorem dc_MD_read_16 : decode prog_9_method_23_code 16 = .ok (.iconst 0, 1) := by decide +kernel
theorem dc_MD_read_17 : decode prog_9_method_23_code 17 = .ok (.putfield 108, 3) := by decide +kernel
theorem dc_MD_read_20 : decode prog_9_method_23_code 20 = .ok (.aload_n 0, 1) := by decide +kernel
theorem dc_MD_read_21 : decode prog_9_method_23_code 21 = .ok (.iconst 0, 1) := by decide +kernel
theorem dc_MD_read_22 : decode prog_9_method_23_code 22 = .ok (.putfield 60, 3) := by decide +kernel
theorem dc_MD_read_25 : decode prog_9_method_23_code 25 = .ok (.aload_n 0, 1) := by decide +kernel
theorem dc_MD_read_26 : decode prog_9_method_23_code 26 = .ok (.iconst 0, 1) := by decide +kernel
theorem dc_MD_read_27 : decode prog_9_method_23_code 27 = .ok (.putfield 67, 3) := by decide +kernel
theorem dc_MD_read_30 : decode prog_9_method_23_code 30 = .ok (.aload_n 0, 1) := by decide +kernel
theorem dc_MD_read_31 : decode prog_9_method_23_code 31 = .ok (.iconst (-1), 1) := by decide +kernel
theorem dc_MD_read_32 : decode prog_9_method_23_code 32 = .ok (.putfield 74, 3) := by decide +kernel
theorem dc_MD_read_35 : decode prog_9_method_23_code 35 = .ok (.aload_n 0, 1) := by decide +kernel
theorem dc_MD_read_36 : decode prog_9_method_23_code 36 = .ok (.iconst (-1), 1) := by decide +kernel
theorem dc_MD_read_37 : decode prog_9_method_23_code 37 = .ok (.putfield 57, 3) := by decide +kernel
theorem dc_MD_read_40 : decode prog_9_method_23_code 40 = .ok (.aload_n 0, 1) := by decide +kernel
theorem dc_MD_read_41 : decode prog_9_method_23_code 41 = .ok (.iconst 0, 1) := by decide +kernel
theorem dc_MD_read_42 : decode prog_9_method_23_code 42 = .ok (.putfield 90, 3) := by decide +kernel
theorem dc_MD_read_45 : decode prog_9_method_23_code 45 = .ok (.aload_n 0, 1) := by decide +kernel
theorem dc_MD_read_46 : decode prog_9_method_23_code 46 = .ok (.iconst 0, 1) := by decide +kernel
theorem dc_MD_read_47 : decode prog_9_method_23_code 47 = .ok (.putfield 99, 3) := by decide +kernel
theorem dc_MD_read_50 : decode prog_9_method_23_code 50 = .ok (.aload_n 0, 1) := by decide +kernel
theorem dc_MD_read_51 : decode prog_9_method_23_code 51 = .ok (.bipush 48, 2) := by decide +kernel
theorem dc_MD_read_53 : decode prog_9_method_23_code 53 = .ok (.iload_n 1, 1) := by decide +kernel
theorem dc_MD_read_54 : decode prog_9_method_23_code 54 = .ok (.iload_n 2, 1) := by decide +kernel
theorem dc_MD_read_55 : decode prog_9_method_23_code 55 = .ok (.iadd, 1) := by decide +kernel
theorem dc_MD_read_56 : decode prog_9_method_23_code 56 = .ok (.invokevirtual 45, 3) := by decide +kernel
theorem dc_MD_read_59 : decode prog_9_method_23_code 59 = .ok (.istore_n 3, 1) := by decide +kernel
theorem dc_MD_read_60 : decode prog_9_method_23_code 60 = .ok (.aload_n 0, 1) := by decide +kernel
theorem dc_MD_read_61 : decode prog_9_method_23_code 61 = .ok (.iload_n 3, 1) := by decide +kernel
theorem dc_MD_read_62 : decode prog_9_method_23_code 62 = .ok (.invokevirtual 168, 3) := by decide +kernel
theorem dc_MD_read_65 : decode prog_9_method_23_code 65 = .ok (.aload_n 0, 1) := by decide +kernel
theorem dc_MD_read_66 : decode prog_9_method_23_code 66 = .ok (.aload_n 0, 1) := by decide +kernel
theorem dc_MD_read_67 : decode prog_9_method_23_code 67 = .ok (.iload_n 3, 1) := by decide +kernel
theorem dc_MD_read_68 : decode prog_9_method_23_code 68 = .ok (.invokevirtual 70, 3) := by decide +kernel
theorem dc_MD_read_71 : decode prog_9_method_23_code 71 = .ok (.putfield 171, 3) := by decide +kernel
theorem dc_MD_read_74 : decode prog_9_method_23_code 74 = .ok (.aload_n 0, 1) := by decide +kernel
theorem dc_MD_read_75 : decode prog_9_method_23_code 75 = .ok (.iload_n 3, 1) := by decide +kernel
theorem dc_MD_read_76 : decode prog_9_method_23_code 76 = .ok (.invokevirtual 77, 3) := by decide +kernel
theorem dc_MD_read_79 : decode prog_9_method_23_code 79 = .ok (.aload_n 0, 1) := by decide +kernel
theorem dc_MD_read_80 : decode prog_9_method_23_code 80 = .ok (.iload_n 1, 1) := by decide +kernel
theorem dc_MD_read_81 : decode prog_9_method_23_code 81 = .ok (.iload_n 2, 1) := by decide +kernel
theorem dc_MD_read_82 : decode prog_9_method_23_code 82 = .ok (.iadd, 1) := by decide +kernel
theorem dc_MD_read_83 : decode prog_9_method_23_code 83 = .ok (.invokevirtual 77, 3) := by decide +kernel
theorem dc_MD_read_86 : decode prog_9_method_23_code 86 = .ok (.aload_n 0, 1) := by decide +kernel
theorem dc_MD_read_87 : decode prog_9_method_23_code 87 = .ok (.getfield 34, 3) := by decide +kernel
theorem dc_MD_read_90 : decode prog_9_method_23_code 90 = .ok (.ifCond .ne 7, 3) := by decide +kernel
theorem dc_MD_read_93 : decode prog_9_method_23_code 93 = .ok (.iconst 1, 1) := by decide +kernel
theorem dc_MD_read_94 : decode prog_9_method_23_code 94 = .ok (.goto 4, 3) := by decide +kernel
theorem dc_MD_read_97 : decode prog_9_method_23_code 97 = .ok (.iconst 0, 1) := by decide +kernel
theorem dc_MD_read_98 : decode prog_9_method_23_code 98 = .ok (.ireturn, 1) := by decide +kernel
theorem dc_MD_kept_0 : decode prog_9_method_24_code 0 = .ok (.iload_n 1, 1) := by decide +kernel
theorem dc_MD_kept_1 : decode prog_9_method_24_code 1 = .ok (.ifCond .lt 15, 3) := by decide +kernel
theorem dc_MD_kept_4 : decode prog_9_method_24_code 4 = .ok (.iload_n 1, 1) := by decide +kernel
theorem dc_MD_kept_5 : decode prog_9_method_24_code 5 = .ok (.aload_n 0, 1) := by decide +kernel
theorem dc_MD_kept_6 : decode prog_9_method_24_code 6 = .ok (.getfield 174, 3) := by decide +kernel
theorem dc_MD_kept_9 : decode prog_9_method_24_code 9 = .ok (.if_icmp .ge 7, 3) := by decide +kernel
theorem dc_MD_kept_12 : decode prog_9_method_24_code 12 = .ok (.iconst 1, 1) := by decide +kernel
theorem dc_MD_kept_13 : decode prog_9_method_24_code 13 = .ok (.goto 4, 3) := by decide +kernel
theorem dc_MD_kept_16 : decode prog_9_method_24_code 16 = .ok (.iconst 0, 1) := by decide +kernel
theorem dc_MD_kept_17 : decode prog_9_method_24_code 17 = .ok (.ireturn, 1) := by decide +kernel
theorem dc_MD_fetch_0 : decode prog_9_method_25_code 0 = .ok (.aload_n 0, 1) := by decide +kernel
theorem dc_MD_fetch_1 : decode prog_9_method_25_code 1 = .ok (.iload_n 1, 1) := by decide +kernel
theorem dc_MD_fetch_2 : decode prog_9_method_25_code 2 = .ok (.invokevirtual 177, 3) := by decide +kernel
theorem dc_MD_fetch_5 : decode prog_9_method_25_code 5 = .ok (.ifCond .eq 25, 3) := by decide +kernel
theorem dc_MD_fetch_8 : decode prog_9_method_25_code 8 = .ok (.aload_n 0, 1) := by decide +kernel
theorem dc_MD_fetch_9 : decode prog_9_method_25_code 9 = .ok (.sipush 160, 3) := by decide +kernel
theorem dc_MD_fetch_12 : decode prog_9_method_25_code 12 = .ok (.iload_n 1, 1) := by decide +kernel
theorem dc_MD_fetch_13 : decode prog_9_method_25_code 13 = .ok (.imul, 1) := by decide +kernel
theorem dc_MD_fetch_14 : decode prog_9_method_25_code 14 = .ok (.aload_n 0, 1) := by decide +kernel
theorem dc_MD_fetch_15 : decode prog_9_method_25_code 15 = .ok (.getfield 13, 3) := by decide +kernel
theorem dc_MD_fetch_18 : decode prog_9_method_25_code 18 = .ok (.iload_n 1, 1) := by decide +kernel
theorem dc_MD_fetch_19 : decode prog_9_method_25_code 19 = .ok (.iaload, 1) := by decide +kernel
theorem dc_MD_fetch_20 : decode prog_9_method_25_code 20 = .ok (.invokevirtual 180, 3) := by decide +kernel
theorem dc_MD_fetch_23 : decode prog_9_method_25_code 23 = .ok (.ifCond .eq 7, 3) := by decide +kernel
theorem dc_MD_fetch_26 : decode prog_9_method_25_code 26 = .ok (.iconst 1, 1) := by decide +kernel
theorem dc_MD_fetch_27 : decode prog_9_method_25_code 27 = .ok (.goto 4, 3) := by decide +kernel
theorem dc_MD_fetch_30 : decode prog_9_method_25_code 30 = .ok (.iconst 0, 1) := by decide +kernel
theorem dc_MD_fetch_31 : decode prog_9_method_25_code 31 = .ok (.ireturn, 1) := by decide +kernel
theorem dc_MD_accept_0 : decode prog_9_method_26_code 0 = .ok (.aload_n 0, 1) := by decide +kernel
theorem dc_MD_accept_1 : decode prog_9_method_26_code 1 = .ok (.sipush 1280, 3) := by decide +kernel
theorem dc_MD_accept_4 : decode prog_9_method_26_code 4 = .ok (.aload_n 0, 1) := by decide +kernel
theorem dc_MD_accept_5 : decode prog_9_method_26_code 5 = .ok (.getfield 22, 3) := by decide +kernel
theorem dc_MD_accept_8 : decode prog_9_method_26_code 8 = .ok (.invokevirtual 180, 3) := by decide +kernel
theorem dc_MD_accept_11 : decode prog_9_method_26_code 11 = .ok (.ifCond .ne 5, 3) := by decide +kernel
theorem dc_MD_accept_14 : decode prog_9_method_26_code 14 = .ok (.iconst (-1), 1) := by decide +kernel
theorem dc_MD_accept_15 : decode prog_9_method_26_code 15 = .ok (.ireturn, 1) := by decide +kernel
theorem dc_MD_accept_16 : decode prog_9_method_26_code 16 = .ok (.aload_n 0, 1) := by decide +kernel
theorem dc_MD_accept_17 : decode prog_9_method_26_code 17 = .ok (.getfield 174, 3) := by decide +kernel
theorem dc_MD_accept_20 : decode prog_9_method_26_code 20 = .ok (.bipush 8, 2) := by decide +kernel
theorem dc_MD_accept_22 : decode prog_9_method_26_code 22 = .ok (.if_icmp .ne 6, 3) := by decide +kernel
theorem dc_MD_accept_25 : decode prog_9_method_26_code 25 = .ok (.bipush (-2), 2) := by decide +kernel
theorem dc_MD_accept_27 : decode prog_9_method_26_code 27 = .ok (.ireturn, 1) := by decide +kernel
theorem dc_MD_accept_28 : decode prog_9_method_26_code 28 = .ok (.iconst 0, 1) := by decide +kernel
theorem dc_MD_accept_29 : decode prog_9_method_26_code 29 = .ok (.istore_n 1, 1) := by decide +kernel
theorem dc_MD_accept_30 : decode prog_9_method_26_code 30 = .ok (.iload_n 1, 1) := by decide +kernel
theorem dc_MD_accept_31 : decode prog_9_method_26_code 31 = .ok (.aload_n 0, 1) := by decide +kernel
theorem dc_MD_accept_32 : decode prog_9_method_26_code 32 = .ok (.getfield 22, 3) := by decide +kernel
theorem dc_MD_accept_35 : decode prog_9_method_26_code 35 = .ok (.if_icmp .ge 34, 3) := by decide +kernel
theorem dc_MD_accept_38 : decode prog_9_method_26_code 38 = .ok (.aload_n 0, 1) := by decide +kernel
theorem dc_MD_accept_39 : decode prog_9_method_26_code 39 = .ok (.getfield 7, 3) := by decide +kernel
theorem dc_MD_accept_42 : decode prog_9_method_26_code 42 = .ok (.sipush 160, 3) := by decide +kernel
theorem dc_MD_accept_45 : decode prog_9_method_26_code 45 = .ok (.aload_n 0, 1) := by decide +kernel
theorem dc_MD_accept_46 : decode prog_9_method_26_code 46 = .ok (.getfield 174, 3) := by decide +kernel
theorem dc_MD_accept_49 : decode prog_9_method_26_code 49 = .ok (.imul, 1) := by decide +kernel
theorem dc_MD_accept_50 : decode prog_9_method_26_code 50 = .ok (.iload_n 1, 1) := by decide +kernel
theorem dc_MD_accept_51 : decode prog_9_method_26_code 51 = .ok (.iadd, 1) := by decide +kernel
theorem dc_MD_accept_52 : decode prog_9_method_26_code 52 = .ok (.aload_n 0, 1) := by decide +kernel
theorem dc_MD_accept_53 : decode prog_9_method_26_code 53 = .ok (.getfield 7, 3) := by decide +kernel
theorem dc_MD_accept_56 : decode prog_9_method_26_code 56 = .ok (.sipush 1280, 3) := by decide +kernel
theorem dc_MD_accept_59 : decode prog_9_method_26_code 59 = .ok (.iload_n 1, 1) := by decide +kernel
theorem dc_MD_accept_60 : decode prog_9_method_26_code 60 = .ok (.iadd, 1) := by decide +kernel
theorem dc_MD_accept_61 : decode prog_9_method_26_code 61 = .ok (.iaload, 1) := by decide +kernel
theorem dc_MD_accept_62 : decode prog_9_method_26_code 62 = .ok (.iastore, 1) := by decide +kernel
theorem dc_MD_accept_63 : decode prog_9_method_26_code 63 = .ok (.iinc 1 1, 3) := by decide +kernel
theorem dc_MD_accept_66 : decode prog_9_method_26_code 66 = .ok (.goto (-36), 3) := by decide +kernel
theorem dc_MD_accept_69 : decode prog_9_method_26_code 69 = .ok (.aload_n 0, 1) := by decide +kernel
theorem dc_MD_accept_70 : decode prog_9_method_26_code 70 = .ok (.getfield 13, 3) := by decide +kernel
theorem dc_MD_accept_73 : decode prog_9_method_26_code 73 = .ok (.aload_n 0, 1) := by decide +kernel
theorem dc_MD_accept_74 : decode prog_9_method_26_code 74 = .ok (.getfield 174, 3) := by decide +kernel
theorem dc_MD_accept_77 : decode prog_9_method_26_code 77 = .ok (.aload_n 0, 1) := by decide +kernel
theorem dc_MD_accept_78 : decode prog_9_method_26_code 78 = .ok (.getfield 22, 3) := by decide +kernel
theorem dc_MD_accept_81 : decode prog_9_method_26_code 81 = .ok (.iastore, 1) := by decide +kernel
theorem dc_MD_accept_82 : decode prog_9_method_26_code 82 = .ok (.aload_n 0, 1) := by decide +kernel
theorem dc_MD_accept_83 : decode prog_9_method_26_code 83 = .ok (.aload_n 0, 1) := by decide +kernel
theorem dc_MD_accept_84 : decode prog_9_method_26_code 84 = .ok (.getfield 174, 3) := by decide +kernel
theorem dc_MD_accept_87 : decode prog_9_method_26_code 87 = .ok (.iconst 1, 1) := by decide +kernel
theorem dc_MD_accept_88 : decode prog_9_method_26_code 88 = .ok (.iadd, 1) := by decide +kernel
theorem dc_MD_accept_89 : decode prog_9_method_26_code 89 = .ok (.putfield 174, 3) := by decide +kernel
theorem dc_MD_accept_92 : decode prog_9_method_26_code 92 = .ok (.aload_n 0, 1) := by decide +kernel
theorem dc_MD_accept_93 : decode prog_9_method_26_code 93 = .ok (.getfield 174, 3) := by decide +kernel
theorem dc_MD_accept_96 : decode prog_9_method_26_code 96 = .ok (.iconst 1, 1) := by decide +kernel
theorem dc_MD_accept_97 : decode prog_9_method_26_code 97 = .ok (.isub, 1) := by decide +kernel
theorem dc_MD_accept_98 : decode prog_9_method_26_code 98 = .ok (.ireturn, 1) := by decide +kernel
theorem dc_MD_count_0 : decode prog_9_method_27_code 0 = .ok (.aload_n 0, 1) := by decide +kernel
theorem dc_MD_count_1 : decode prog_9_method_27_code 1 = .ok (.getfield 174, 3) := by decide +kernel
theorem dc_MD_count_4 : decode prog_9_method_27_code 4 = .ok (.ireturn, 1) := by decide +kernel
theorem dc_MD_field_0 : decode prog_9_method_28_code 0 = .ok (.aload_n 0, 1) := by decide +kernel
theorem dc_MD_field_1 : decode prog_9_method_28_code 1 = .ok (.iload_n 1, 1) := by decide +kernel
theorem dc_MD_field_2 : decode prog_9_method_28_code 2 = .ok (.invokevirtual 183, 3) := by decide +kernel
theorem dc_MD_field_5 : decode prog_9_method_28_code 5 = .ok (.ifCond .ne 5, 3) := by decide +kernel
theorem dc_MD_field_8 : decode prog_9_method_28_code 8 = .ok (.iconst (-1), 1) := by decide +kernel
theorem dc_MD_field_9 : decode prog_9_method_28_code 9 = .ok (.ireturn, 1) := by decide +kernel
theorem dc_MD_field_10 : decode prog_9_method_28_code 10 = .ok (.iload_n 2, 1) := by decide +kernel
theorem dc_MD_field_11 : decode prog_9_method_28_code 11 = .ok (.tableswitch 164 0 14 #[73, 78, 83, 88, 93, 98, 103, 116, 129, 134, 139, 144, 149, 154, 159], 73) := by decide +kernel
theorem dc_MD_field_84 : decode prog_9_method_28_code 84 = .ok (.aload_n 0, 1) := by decide +kernel
theorem dc_MD_field_85 : decode prog_9_method_28_code 85 = .ok (.getfield 132, 3) := by decide +kernel
theorem dc_MD_field_88 : decode prog_9_method_28_code 88 = .ok (.ireturn, 1) := by decide +kernel
theorem dc_MD_field_89 : decode prog_9_method_28_code 89 = .ok (.aload_n 0, 1) := by decide +kernel
theorem dc_MD_field_90 : decode prog_9_method_28_code 90 = .ok (.getfield 144, 3) := by decide +kernel
theorem dc_MD_field_93 : decode prog_9_method_28_code 93 = .ok (.ireturn, 1) := by decide +kernel
theorem dc_MD_field_94 : decode prog_9_method_28_code 94 = .ok (.aload_n 0, 1) := by decide +kernel
theorem dc_MD_field_95 : decode prog_9_method_28_code 95 = .ok (.getfield 147, 3) := by decide +kernel
theorem dc_MD_field_98 : decode prog_9_method_28_code 98 = .ok (.ireturn, 1) := by decide +kernel
theorem dc_MD_field_99 : decode prog_9_method_28_code 99 = .ok (.aload_n 0, 1) := by decide +kernel
theorem dc_MD_field_100 : decode prog_9_method_28_code 100 = .ok (.getfield 120, 3) := by decide +kernel
theorem dc_MD_field_103 : decode prog_9_method_28_code 103 = .ok (.ireturn, 1) := by decide +kernel
theorem dc_MD_field_104 : decode prog_9_method_28_code 104 = .ok (.aload_n 0, 1) := by decide +kernel
theorem dc_MD_field_105 : decode prog_9_method_28_code 105 = .ok (.getfield 123, 3) := by decide +kernel
theorem dc_MD_field_108 : decode prog_9_method_28_code 108 = .ok (.ireturn, 1) := by decide +kernel
theorem dc_MD_field_109 : decode prog_9_method_28_code 109 = .ok (.aload_n 0, 1) := by decide +kernel
theorem dc_MD_field_110 : decode prog_9_method_28_code 110 = .ok (.getfield 171, 3) := by decide +kernel
theorem dc_MD_field_113 : decode prog_9_method_28_code 113 = .ok (.ireturn, 1) := by decide +kernel
theorem dc_MD_field_114 : decode prog_9_method_28_code 114 = .ok (.aload_n 0, 1) := by decide +kernel
theorem dc_MD_field_115 : decode prog_9_method_28_code 115 = .ok (.aload_n 0, 1) := by decide +kernel
theorem dc_MD_field_116 : decode prog_9_method_28_code 116 = .ok (.getfield 129, 3) := by decide +kernel
theorem dc_MD_field_119 : decode prog_9_method_28_code 119 = .ok (.aload_n 0, 1) := by decide +kernel
theorem dc_MD_field_120 : decode prog_9_method_28_code 120 = .ok (.getfield 165, 3) := by decide +kernel
theorem dc_MD_field_123 : decode prog_9_method_28_code 123 = .ok (.invokevirtual 30, 3) := by decide +kernel
theorem dc_MD_field_126 : decode prog_9_method_28_code 126 = .ok (.ireturn, 1) := by decide +kernel
theorem dc_MD_field_127 : decode prog_9_method_28_code 127 = .ok (.aload_n 0, 1) := by decide +kernel
theorem dc_MD_field_128 : decode prog_9_method_28_code 128 = .ok (.getfield 67, 3) := by decide +kernel
theorem dc_MD_field_131 : decode prog_9_method_28_code 131 = .ok (.ifCond .eq 7, 3) := by decide +kernel
theorem dc_MD_field_134 : decode prog_9_method_28_code 134 = .ok (.iconst 1, 1) := by decide +kernel
theorem dc_MD_field_135 : decode prog_9_method_28_code 135 = .ok (.goto 4, 3) := by decide +kernel
theorem dc_MD_field_138 : decode prog_9_method_28_code 138 = .ok (.iconst 0, 1) := by decide +kernel
theorem dc_MD_field_139 : decode prog_9_method_28_code 139 = .ok (.ireturn, 1) := by decide +kernel
theorem dc_MD_field_140 : decode prog_9_method_28_code 140 = .ok (.aload_n 0, 1) := by decide +kernel
theorem dc_MD_field_141 : decode prog_9_method_28_code 141 = .ok (.getfield 74, 3) := by decide +kernel
theorem dc_MD_field_144 : decode prog_9_method_28_code 144 = .ok (.ireturn, 1) := by decide +kernel
theorem dc_MD_field_145 : decode prog_9_method_28_code 145 = .ok (.aload_n 0, 1) := by decide +kernel
theorem dc_MD_field_146 : decode prog_9_method_28_code 146 = .ok (.getfield 57, 3) := by decide +kernel
theorem dc_MD_field_149 : decode prog_9_method_28_code 149 = .ok (.ireturn, 1) := by decide +kernel
theorem dc_MD_field_150 : decode prog_9_method_28_code 150 = .ok (.aload_n 0, 1) := by decide +kernel
theorem dc_MD_field_151 : decode prog_9_method_28_code 151 = .ok (.getfield 105, 3) := by decide +kernel
theorem dc_MD_field_154 : decode prog_9_method_28_code 154 = .ok (.ireturn, 1) := by decide +kernel
theorem dc_MD_field_155 : decode prog_9_method_28_code 155 = .ok (.aload_n 0, 1) := by decide +kernel
theorem dc_MD_field_156 : decode prog_9_method_28_code 156 = .ok (.getfield 90, 3) := by decide +kernel
theorem dc_MD_field_159 : decode prog_9_method_28_code 159 = .ok (.ireturn, 1) := by decide +kernel
theorem dc_MD_field_160 : decode prog_9_method_28_code 160 = .ok (.aload_n 0, 1) := by decide +kernel
theorem dc_MD_field_161 : decode prog_9_method_28_code 161 = .ok (.getfield 99, 3) := by decide +kernel
theorem dc_MD_field_164 : decode prog_9_method_28_code 164 = .ok (.ireturn, 1) := by decide +kernel
theorem dc_MD_field_165 : decode prog_9_method_28_code 165 = .ok (.aload_n 0, 1) := by decide +kernel
theorem dc_MD_field_166 : decode prog_9_method_28_code 166 = .ok (.getfield 141, 3) := by decide +kernel
theorem dc_MD_field_169 : decode prog_9_method_28_code 169 = .ok (.ireturn, 1) := by decide +kernel
theorem dc_MD_field_170 : decode prog_9_method_28_code 170 = .ok (.aload_n 0, 1) := by decide +kernel
theorem dc_MD_field_171 : decode prog_9_method_28_code 171 = .ok (.getfield 156, 3) := by decide +kernel
theorem dc_MD_field_174 : decode prog_9_method_28_code 174 = .ok (.ireturn, 1) := by decide +kernel
theorem dc_MD_field_175 : decode prog_9_method_28_code 175 = .ok (.iconst (-1), 1) := by decide +kernel
theorem dc_MD_field_176 : decode prog_9_method_28_code 176 = .ok (.ireturn, 1) := by decide +kernel
theorem dc_MD_inside_0 : decode prog_9_method_29_code 0 = .ok (.iload 4, 2) := by decide +kernel
theorem dc_MD_inside_2 : decode prog_9_method_29_code 2 = .ok (.iload_n 3, 1) := by decide +kernel
theorem dc_MD_inside_3 : decode prog_9_method_29_code 3 = .ok (.isub, 1) := by decide +kernel
theorem dc_MD_inside_4 : decode prog_9_method_29_code 4 = .ok (.iload_n 2, 1) := by decide +kernel
theorem dc_MD_inside_5 : decode prog_9_method_29_code 5 = .ok (.iload_n 1, 1) := by decide +kernel
theorem dc_MD_inside_6 : decode prog_9_method_29_code 6 = .ok (.isub, 1) := by decide +kernel
theorem dc_MD_inside_7 : decode prog_9_method_29_code 7 = .ok (.if_icmp .le 5, 3) := by decide +kernel
theorem dc_MD_inside_10 : decode prog_9_method_29_code 10 = .ok (.iconst 0, 1) := by decide +kernel
theorem dc_MD_inside_11 : decode prog_9_method_29_code 11 = .ok (.ireturn, 1) := by decide +kernel
theorem dc_MD_inside_12 : decode prog_9_method_29_code 12 = .ok (.iconst 1, 1) := by decide +kernel
theorem dc_MD_inside_13 : decode prog_9_method_29_code 13 = .ok (.istore 5, 2) := by decide +kernel
theorem dc_MD_inside_15 : decode prog_9_method_29_code 15 = .ok (.iconst 0, 1) := by decide +kernel
theorem dc_MD_inside_16 : decode prog_9_method_29_code 16 = .ok (.istore 6, 2) := by decide +kernel
theorem dc_MD_inside_18 : decode prog_9_method_29_code 18 = .ok (.iload 6, 2) := by decide +kernel
theorem dc_MD_inside_20 : decode prog_9_method_29_code 20 = .ok (.iload 4, 2) := by decide +kernel
theorem dc_MD_inside_22 : decode prog_9_method_29_code 22 = .ok (.iload_n 3, 1) := by decide +kernel
theorem dc_MD_inside_23 : decode prog_9_method_29_code 23 = .ok (.isub, 1) := by decide +kernel
theorem dc_MD_inside_24 : decode prog_9_method_29_code 24 = .ok (.if_icmp .ge 42, 3) := by decide +kernel
theorem dc_MD_inside_27 : decode prog_9_method_29_code 27 = .ok (.iload 5, 2) := by decide +kernel
theorem dc_MD_inside_29 : decode prog_9_method_29_code 29 = .ok (.ifCond .eq 28, 3) := by decide +kernel
theorem dc_MD_inside_32 : decode prog_9_method_29_code 32 = .ok (.aload_n 0, 1) := by decide +kernel
theorem dc_MD_inside_33 : decode prog_9_method_29_code 33 = .ok (.getfield 7, 3) := by decide +kernel
theorem dc_MD_inside_36 : decode prog_9_method_29_code 36 = .ok (.iload_n 1, 1) := by decide +kernel
theorem dc_MD_inside_37 : decode prog_9_method_29_code 37 = .ok (.iload 6, 2) := by decide +kernel
theorem dc_MD_inside_39 : decode prog_9_method_29_code 39 = .ok (.iadd, 1) := by decide +kernel
theorem dc_MD_inside_40 : decode prog_9_method_29_code 40 = .ok (.iaload, 1) := by decide +kernel
theorem dc_MD_inside_41 : decode prog_9_method_29_code 41 = .ok (.aload_n 0, 1) := by decide +kernel
theorem dc_MD_inside_42 : decode prog_9_method_29_code 42 = .ok (.getfield 7, 3) := by decide +kernel
theorem dc_MD_inside_45 : decode prog_9_method_29_code 45 = .ok (.iload_n 3, 1) := by decide +kernel
theorem dc_MD_inside_46 : decode prog_9_method_29_code 46 = .ok (.iload 6, 2) := by decide +kernel
theorem dc_MD_inside_48 : decode prog_9_method_29_code 48 = .ok (.iadd, 1) := by decide +kernel
theorem dc_MD_inside_49 : decode prog_9_method_29_code 49 = .ok (.iaload, 1) := by decide +kernel
theorem dc_MD_inside_50 : decode prog_9_method_29_code 50 = .ok (.if_icmp .ne 7, 3) := by decide +kernel
theorem dc_MD_inside_53 : decode prog_9_method_29_code 53 = .ok (.iconst 1, 1) := by decide +kernel
theorem dc_MD_inside_54 : decode prog_9_method_29_code 54 = .ok (.goto 4, 3) := by decide +kernel
theorem dc_MD_inside_57 : decode prog_9_method_29_code 57 = .ok (.iconst 0, 1) := by decide +kernel
theorem dc_MD_inside_58 : decode prog_9_method_29_code 58 = .ok (.istore 5, 2) := by decide +kernel
theorem dc_MD_inside_60 : decode prog_9_method_29_code 60 = .ok (.iinc 6 1, 3) := by decide +kernel
theorem dc_MD_inside_63 : decode prog_9_method_29_code 63 = .ok (.goto (-45), 3) := by decide +kernel
theorem dc_MD_inside_66 : decode prog_9_method_29_code 66 = .ok (.iload 5, 2) := by decide +kernel
theorem dc_MD_inside_68 : decode prog_9_method_29_code 68 = .ok (.ireturn, 1) := by decide +kernel
theorem dc_MD_equalNames_0 : decode prog_9_method_30_code 0 = .ok (.iload_n 2, 1) := by decide +kernel
theorem dc_MD_equalNames_1 : decode prog_9_method_30_code 1 = .ok (.iload_n 1, 1) := by decide +kernel
theorem dc_MD_equalNames_2 : decode prog_9_method_30_code 2 = .ok (.isub, 1) := by decide +kernel
theorem dc_MD_equalNames_3 : decode prog_9_method_30_code 3 = .ok (.iload 4, 2) := by decide +kernel
theorem dc_MD_equalNames_5 : decode prog_9_method_30_code 5 = .ok (.iload_n 3, 1) := by decide +kernel
theorem dc_MD_equalNames_6 : decode prog_9_method_30_code 6 = .ok (.isub, 1) := by decide +kernel
theorem dc_MD_equalNames_7 : decode prog_9_method_30_code 7 = .ok (.if_icmp .ne 19, 3) := by decide +kernel
theorem dc_MD_equalNames_10 : decode prog_9_method_30_code 10 = .ok (.aload_n 0, 1) := by decide +kernel
theorem dc_MD_equalNames_11 : decode prog_9_method_30_code 11 = .ok (.iload_n 1, 1) := by decide +kernel
theorem dc_MD_equalNames_12 : decode prog_9_method_30_code 12 = .ok (.iload_n 2, 1) := by decide +kernel
theorem dc_MD_equalNames_13 : decode prog_9_method_30_code 13 = .ok (.iload_n 3, 1) := by decide +kernel
theorem dc_MD_equalNames_14 : decode prog_9_method_30_code 14 = .ok (.iload 4, 2) := by decide +kernel
theorem dc_MD_equalNames_16 : decode prog_9_method_30_code 16 = .ok (.invokevirtual 186, 3) := by decide +kernel
theorem dc_MD_equalNames_19 : decode prog_9_method_30_code 19 = .ok (.ifCond .eq 7, 3) := by decide +kernel
theorem dc_MD_equalNames_22 : decode prog_9_method_30_code 22 = .ok (.iconst 1, 1) := by decide +kernel
theorem dc_MD_equalNames_23 : decode prog_9_method_30_code 23 = .ok (.goto 4, 3) := by decide +kernel
theorem dc_MD_equalNames_26 : decode prog_9_method_30_code 26 = .ok (.iconst 0, 1) := by decide +kernel
theorem dc_MD_equalNames_27 : decode prog_9_method_30_code 27 = .ok (.ireturn, 1) := by decide +kernel
theorem dc_MD_within_0 : decode prog_9_method_31_code 0 = .ok (.aload_n 0, 1) := by decide +kernel
theorem dc_MD_within_1 : decode prog_9_method_31_code 1 = .ok (.iload_n 1, 1) := by decide +kernel
theorem dc_MD_within_2 : decode prog_9_method_31_code 2 = .ok (.invokevirtual 183, 3) := by decide +kernel
theorem dc_MD_within_5 : decode prog_9_method_31_code 5 = .ok (.ifCond .ne 5, 3) := by decide +kernel
theorem dc_MD_within_8 : decode prog_9_method_31_code 8 = .ok (.iconst 0, 1) := by decide +kernel
theorem dc_MD_within_9 : decode prog_9_method_31_code 9 = .ok (.ireturn, 1) := by decide +kernel
theorem dc_MD_within_10 : decode prog_9_method_31_code 10 = .ok (.iload_n 2, 1) := by decide +kernel
theorem dc_MD_within_11 : decode prog_9_method_31_code 11 = .ok (.ifCond .eq 10, 3) := by decide +kernel
theorem dc_MD_within_14 : decode prog_9_method_31_code 14 = .ok (.aload_n 0, 1) := by decide +kernel
theorem dc_MD_within_15 : decode prog_9_method_31_code 15 = .ok (.getfield 135, 3) := by decide +kernel
theorem dc_MD_within_18 : decode prog_9_method_31_code 18 = .ok (.goto 7, 3) := by decide +kernel
theorem dc_MD_within_21 : decode prog_9_method_31_code 21 = .ok (.aload_n 0, 1) := by decide +kernel
theorem dc_MD_within_22 : decode prog_9_method_31_code 22 = .ok (.getfield 150, 3) := by decide +kernel
theorem dc_MD_within_25 : decode prog_9_method_31_code 25 = .ok (.istore 5, 2) := by decide +kernel
theorem dc_MD_within_27 : decode prog_9_method_31_code 27 = .ok (.iload_n 2, 1) := by decide +kernel
theorem dc_MD_within_28 : decode prog_9_method_31_code 28 = .ok (.ifCond .eq 10, 3) := by decide +kernel
theorem dc_MD_within_31 : decode prog_9_method_31_code 31 = .ok (.aload_n 0, 1) := by decide +kernel
theorem dc_MD_within_32 : decode prog_9_method_31_code 32 = .ok (.getfield 138, 3) := by decide +kernel
theorem dc_MD_within_35 : decode prog_9_method_31_code 35 = .ok (.goto 7, 3) := by decide +kernel
theorem dc_MD_within_38 : decode prog_9_method_31_code 38 = .ok (.aload_n 0, 1) := by decide +kernel
theorem dc_MD_within_39 : decode prog_9_method_31_code 39 = .ok (.getfield 153, 3) := by decide +kernel
theorem dc_MD_within_42 : decode prog_9_method_31_code 42 = .ok (.istore 6, 2) := by decide +kernel
theorem dc_MD_within_44 : decode prog_9_method_31_code 44 = .ok (.aload_n 0, 1) := by decide +kernel
theorem dc_MD_within_45 : decode prog_9_method_31_code 45 = .ok (.iload_n 3, 1) := by decide +kernel
theorem dc_MD_within_46 : decode prog_9_method_31_code 46 = .ok (.invokevirtual 183, 3) := by decide +kernel
theorem dc_MD_within_49 : decode prog_9_method_31_code 49 = .ok (.ifCond .ne 5, 3) := by decide +kernel
theorem dc_MD_within_52 : decode prog_9_method_31_code 52 = .ok (.iconst 0, 1) := by decide +kernel
theorem dc_MD_within_53 : decode prog_9_method_31_code 53 = .ok (.ireturn, 1) := by decide +kernel
theorem dc_MD_within_54 : decode prog_9_method_31_code 54 = .ok (.aload_n 0, 1) := by decide +kernel
theorem dc_MD_within_55 : decode prog_9_method_31_code 55 = .ok (.iload 5, 2) := by decide +kernel
theorem dc_MD_within_57 : decode prog_9_method_31_code 57 = .ok (.iload 6, 2) := by decide +kernel
theorem dc_MD_within_59 : decode prog_9_method_31_code 59 = .ok (.iload 4, 2) := by decide +kernel
theorem dc_MD_within_61 : decode prog_9_method_31_code 61 = .ok (.ifCond .eq 10, 3) := by decide +kernel
theorem dc_MD_within_64 : decode prog_9_method_31_code 64 = .ok (.aload_n 0, 1) := by decide +kernel
theorem dc_MD_within_65 : decode prog_9_method_31_code 65 = .ok (.getfield 135, 3) := by decide +kernel
theorem dc_MD_within_68 : decode prog_9_method_31_code 68 = .ok (.goto 7, 3) := by decide +kernel
theorem dc_MD_within_71 : decode prog_9_method_31_code 71 = .ok (.aload_n 0, 1) := by decide +kernel
theorem dc_MD_within_72 : decode prog_9_method_31_code 72 = .ok (.getfield 150, 3) := by decide +kernel
theorem dc_MD_within_75 : decode prog_9_method_31_code 75 = .ok (.iload 4, 2) := by decide +kernel
theorem dc_MD_within_77 : decode prog_9_method_31_code 77 = .ok (.ifCond .eq 10, 3) := by decide +kernel
theorem dc_MD_within_80 : decode prog_9_method_31_code 80 = .ok (.aload_n 0, 1) := by decide +kernel
theorem dc_MD_within_81 : decode prog_9_method_31_code 81 = .ok (.getfield 138, 3) := by decide +kernel
theorem dc_MD_within_84 : decode prog_9_method_31_code 84 = .ok (.goto 7, 3) := by decide +kernel
theorem dc_MD_within_87 : decode prog_9_method_31_code 87 = .ok (.aload_n 0, 1) := by decide +kernel
theorem dc_MD_within_88 : decode prog_9_method_31_code 88 = .ok (.getfield 153, 3) := by decide +kernel
theorem dc_MD_within_91 : decode prog_9_method_31_code 91 = .ok (.invokevirtual 186, 3) := by decide +kernel
theorem dc_MD_within_94 : decode prog_9_method_31_code 94 = .ok (.ireturn, 1) := by decide +kernel
theorem dc_MD_recode_0 : decode prog_9_method_32_code 0 = .ok (.aload_n 0, 1) := by decide +kernel
theorem dc_MD_recode_1 : decode prog_9_method_32_code 1 = .ok (.iload_n 1, 1) := by decide +kernel
theorem dc_MD_recode_2 : decode prog_9_method_32_code 2 = .ok (.invokevirtual 177, 3) := by decide +kernel
theorem dc_MD_recode_5 : decode prog_9_method_32_code 5 = .ok (.ifCond .ne 5, 3) := by decide +kernel
theorem dc_MD_recode_8 : decode prog_9_method_32_code 8 = .ok (.iconst (-1), 1) := by decide +kernel
theorem dc_MD_recode_9 : decode prog_9_method_32_code 9 = .ok (.ireturn, 1) := by decide +kernel
theorem dc_MD_recode_10 : decode prog_9_method_32_code 10 = .ok (.aload_n 0, 1) := by decide +kernel
theorem dc_MD_recode_11 : decode prog_9_method_32_code 11 = .ok (.aload_n 0, 1) := by decide +kernel
theorem dc_MD_recode_12 : decode prog_9_method_32_code 12 = .ok (.getfield 13, 3) := by decide +kernel
theorem dc_MD_recode_15 : decode prog_9_method_32_code 15 = .ok (.iload_n 1, 1) := by decide +kernel
theorem dc_MD_recode_16 : decode prog_9_method_32_code 16 = .ok (.iaload, 1) := by decide +kernel
theorem dc_MD_recode_17 : decode prog_9_method_32_code 17 = .ok (.putfield 22, 3) := by decide +kernel
theorem dc_MD_recode_20 : decode prog_9_method_32_code 20 = .ok (.iconst 0, 1) := by decide +kernel
theorem dc_MD_recode_21 : decode prog_9_method_32_code 21 = .ok (.istore_n 2, 1) := by decide +kernel
theorem dc_MD_recode_22 : decode prog_9_method_32_code 22 = .ok (.iload_n 2, 1) := by decide +kernel
theorem dc_MD_recode_23 : decode prog_9_method_32_code 23 = .ok (.aload_n 0, 1) := by decide +kernel
theorem dc_MD_recode_24 : decode prog_9_method_32_code 24 = .ok (.getfield 22, 3) := by decide +kernel
theorem dc_MD_recode_27 : decode prog_9_method_32_code 27 = .ok (.if_icmp .ge 31, 3) := by decide +kernel
theorem dc_MD_recode_30 : decode prog_9_method_32_code 30 = .ok (.aload_n 0, 1) := by decide +kernel
theorem dc_MD_recode_31 : decode prog_9_method_32_code 31 = .ok (.getfield 7, 3) := by decide +kernel
theorem dc_MD_recode_34 : decode prog_9_method_32_code 34 = .ok (.sipush 1280, 3) := by decide +kernel
theorem dc_MD_recode_37 : decode prog_9_method_32_code 37 = .ok (.iload_n 2, 1) := by decide +kernel
theorem dc_MD_recode_38 : decode prog_9_method_32_code 38 = .ok (.iadd, 1) := by decide +kernel
theorem dc_MD_recode_39 : decode prog_9_method_32_code 39 = .ok (.aload_n 0, 1) := by decide +kernel
theorem dc_MD_recode_40 : decode prog_9_method_32_code 40 = .ok (.getfield 7, 3) := by decide +kernel
theorem dc_MD_recode_43 : decode prog_9_method_32_code 43 = .ok (.sipush 160, 3) := by decide +kernel
theorem dc_MD_recode_46 : decode prog_9_method_32_code 46 = .ok (.iload_n 1, 1) := by decide +kernel
theorem dc_MD_recode_47 : decode prog_9_method_32_code 47 = .ok (.imul, 1) := by decide +kernel
theorem dc_MD_recode_48 : decode prog_9_method_32_code 48 = .ok (.iload_n 2, 1) := by decide +kernel
theorem dc_MD_recode_49 : decode prog_9_method_32_code 49 = .ok (.iadd, 1) := by decide +kernel
theorem dc_MD_recode_50 : decode prog_9_method_32_code 50 = .ok (.iaload, 1) := by decide +kernel
theorem dc_MD_recode_51 : decode prog_9_method_32_code 51 = .ok (.iastore, 1) := by decide +kernel
theorem dc_MD_recode_52 : decode prog_9_method_32_code 52 = .ok (.iinc 2 1, 3) := by decide +kernel
theorem dc_MD_recode_55 : decode prog_9_method_32_code 55 = .ok (.goto (-33), 3) := by decide +kernel
theorem dc_MD_recode_58 : decode prog_9_method_32_code 58 = .ok (.aload_n 0, 1) := by decide +kernel
theorem dc_MD_recode_59 : decode prog_9_method_32_code 59 = .ok (.getfield 22, 3) := by decide +kernel
theorem dc_MD_recode_62 : decode prog_9_method_32_code 62 = .ok (.ireturn, 1) := by decide +kernel
theorem dc_MD_link_0 : decode prog_9_method_33_code 0 = .ok (.aload_n 0, 1) := by decide +kernel
theorem dc_MD_link_1 : decode prog_9_method_33_code 1 = .ok (.iload_n 1, 1) := by decide +kernel
theorem dc_MD_link_2 : decode prog_9_method_33_code 2 = .ok (.invokevirtual 177, 3) := by decide +kernel
theorem dc_MD_link_5 : decode prog_9_method_33_code 5 = .ok (.ifCond .eq 12, 3) := by decide +kernel
theorem dc_MD_link_8 : decode prog_9_method_33_code 8 = .ok (.aload_n 0, 1) := by decide +kernel
theorem dc_MD_link_9 : decode prog_9_method_33_code 9 = .ok (.getfield 190, 3) := by decide +kernel
theorem dc_MD_link_12 : decode prog_9_method_33_code 12 = .ok (.bipush 6, 2) := by decide +kernel
theorem dc_MD_link_14 : decode prog_9_method_33_code 14 = .ok (.if_icmp .ne 5, 3) := by decide +kernel
theorem dc_MD_link_17 : decode prog_9_method_33_code 17 = .ok (.iconst 0, 1) := by decide +kernel
theorem dc_MD_link_18 : decode prog_9_method_33_code 18 = .ok (.ireturn, 1) := by decide +kernel
theorem dc_MD_link_19 : decode prog_9_method_33_code 19 = .ok (.aload_n 0, 1) := by decide +kernel
theorem dc_MD_link_20 : decode prog_9_method_33_code 20 = .ok (.getfield 16, 3) := by decide +kernel
theorem dc_MD_link_23 : decode prog_9_method_33_code 23 = .ok (.aload_n 0, 1) := by decide +kernel
theorem dc_MD_link_24 : decode prog_9_method_33_code 24 = .ok (.getfield 190, 3) := by decide +kernel
theorem dc_MD_link_27 : decode prog_9_method_33_code 27 = .ok (.iload_n 1, 1) := by decide +kernel
theorem dc_MD_link_28 : decode prog_9_method_33_code 28 = .ok (.iastore, 1) := by decide +kernel
theorem dc_MD_link_29 : decode prog_9_method_33_code 29 = .ok (.aload_n 0, 1) := by decide +kernel
theorem dc_MD_link_30 : decode prog_9_method_33_code 30 = .ok (.aload_n 0, 1) := by decide +kernel
theorem dc_MD_link_31 : decode prog_9_method_33_code 31 = .ok (.getfield 190, 3) := by decide +kernel
theorem dc_MD_link_34 : decode prog_9_method_33_code 34 = .ok (.iconst 1, 1) := by decide +kernel
theorem dc_MD_link_35 : decode prog_9_method_33_code 35 = .ok (.iadd, 1) := by decide +kernel
theorem dc_MD_link_36 : decode prog_9_method_33_code 36 = .ok (.putfield 190, 3) := by decide +kernel
theorem dc_MD_link_39 : decode prog_9_method_33_code 39 = .ok (.iconst 1, 1) := by decide +kernel
theorem dc_MD_link_40 : decode prog_9_method_33_code 40 = .ok (.ireturn, 1) := by decide +kernel
theorem dc_MD_unlink_0 : decode prog_9_method_34_code 0 = .ok (.aload_n 0, 1) := by decide +kernel
theorem dc_MD_unlink_1 : decode prog_9_method_34_code 1 = .ok (.getfield 190, 3) := by decide +kernel
theorem dc_MD_unlink_4 : decode prog_9_method_34_code 4 = .ok (.ifCond .ne 5, 3) := by decide +kernel
theorem dc_MD_unlink_7 : decode prog_9_method_34_code 7 = .ok (.iconst 0, 1) := by decide +kernel
theorem dc_MD_unlink_8 : decode prog_9_method_34_code 8 = .ok (.ireturn, 1) := by decide +kernel
theorem dc_MD_unlink_9 : decode prog_9_method_34_code 9 = .ok (.aload_n 0, 1) := by decide +kernel
theorem dc_MD_unlink_10 : decode prog_9_method_34_code 10 = .ok (.aload_n 0, 1) := by decide +kernel
theorem dc_MD_unlink_11 : decode prog_9_method_34_code 11 = .ok (.getfield 190, 3) := by decide +kernel
theorem dc_MD_unlink_14 : decode prog_9_method_34_code 14 = .ok (.iconst 1, 1) := by decide +kernel
theorem dc_MD_unlink_15 : decode prog_9_method_34_code 15 = .ok (.isub, 1) := by decide +kernel
theorem dc_MD_unlink_16 : decode prog_9_method_34_code 16 = .ok (.putfield 190, 3) := by decide +kernel
theorem dc_MD_unlink_19 : decode prog_9_method_34_code 19 = .ok (.iconst 1, 1) := by decide +kernel
theorem dc_MD_unlink_20 : decode prog_9_method_34_code 20 = .ok (.ireturn, 1) := by decide +kernel
theorem dc_MD_links_0 : decode prog_9_method_35_code 0 = .ok (.aload_n 0, 1) := by decide +kernel
theorem dc_MD_links_1 : decode prog_9_method_35_code 1 = .ok (.getfield 190, 3) := by decide +kernel
theorem dc_MD_links_4 : decode prog_9_method_35_code 4 = .ok (.ireturn, 1) := by decide +kernel
theorem dc_MD_some_0 : decode prog_9_method_36_code 0 = .ok (.iconst 0, 1) := by decide +kernel
theorem dc_MD_some_1 : decode prog_9_method_36_code 1 = .ok (.istore 5, 2) := by decide +kernel
theorem dc_MD_some_3 : decode prog_9_method_36_code 3 = .ok (.aload_n 0, 1) := by decide +kernel
theorem dc_MD_some_4 : decode prog_9_method_36_code 4 = .ok (.iload_n 3, 1) := by decide +kernel
theorem dc_MD_some_5 : decode prog_9_method_36_code 5 = .ok (.putfield 38, 3) := by decide +kernel
theorem dc_MD_some_8 : decode prog_9_method_36_code 8 = .ok (.aload_n 0, 1) := by decide +kernel
theorem dc_MD_some_9 : decode prog_9_method_36_code 9 = .ok (.iconst 0, 1) := by decide +kernel
theorem dc_MD_some_10 : decode prog_9_method_36_code 10 = .ok (.putfield 34, 3) := by decide +kernel
theorem dc_MD_some_13 : decode prog_9_method_36_code 13 = .ok (.aload_n 0, 1) := by decide +kernel
theorem dc_MD_some_14 : decode prog_9_method_36_code 14 = .ok (.getfield 38, 3) := by decide +kernel
theorem dc_MD_some_17 : decode prog_9_method_36_code 17 = .ok (.iload 4, 2) := by decide +kernel
theorem dc_MD_some_19 : decode prog_9_method_36_code 19 = .ok (.if_icmp .ge 56, 3) := by decide +kernel
theorem dc_MD_some_22 : decode prog_9_method_36_code 22 = .ok (.aload_n 0, 1) := by decide +kernel
theorem dc_MD_some_23 : decode prog_9_method_36_code 23 = .ok (.getfield 34, 3) := by decide +kernel
theorem dc_MD_some_26 : decode prog_9_method_36_code 26 = .ok (.ifCond .ne 49, 3) := by decide +kernel
theorem dc_MD_some_29 : decode prog_9_method_36_code 29 = .ok (.aload_n 0, 1) := by decide +kernel
theorem dc_MD_some_30 : decode prog_9_method_36_code 30 = .ok (.bipush 48, 2) := by decide +kernel
theorem dc_MD_some_32 : decode prog_9_method_36_code 32 = .ok (.iload 4, 2) := by decide +kernel
theorem dc_MD_some_34 : decode prog_9_method_36_code 34 = .ok (.invokevirtual 45, 3) := by decide +kernel
theorem dc_MD_some_37 : decode prog_9_method_36_code 37 = .ok (.istore 6, 2) := by decide +kernel
theorem dc_MD_some_39 : decode prog_9_method_36_code 39 = .ok (.iload 5, 2) := by decide +kernel
theorem dc_MD_some_41 : decode prog_9_method_36_code 41 = .ok (.ifCond .ne 18, 3) := by decide +kernel
theorem dc_MD_some_44 : decode prog_9_method_36_code 44 = .ok (.aload_n 0, 1) := by decide +kernel
theorem dc_MD_some_45 : decode prog_9_method_36_code 45 = .ok (.iload_n 1, 1) := by decide +kernel
theorem dc_MD_some_46 : decode prog_9_method_36_code 46 = .ok (.iload_n 2, 1) := by decide +kernel
theorem dc_MD_some_47 : decode prog_9_method_36_code 47 = .ok (.aload_n 0, 1) := by decide +kernel
theorem dc_MD_some_48 : decode prog_9_method_36_code 48 = .ok (.getfield 38, 3) := by decide +kernel
theorem dc_MD_some_51 : decode prog_9_method_36_code 51 = .ok (.iload 6, 2) := by decide +kernel
theorem dc_MD_some_53 : decode prog_9_method_36_code 53 = .ok (.invokevirtual 186, 3) := by decide +kernel
theorem dc_MD_some_56 : decode prog_9_method_36_code 56 = .ok (.ifCond .eq 7, 3) := by decide +kernel
theorem dc_MD_some_59 : decode prog_9_method_36_code 59 = .ok (.iconst 1, 1) := by decide +kernel
theorem dc_MD_some_60 : decode prog_9_method_36_code 60 = .ok (.goto 4, 3) := by decide +kernel
theorem dc_MD_some_63 : decode prog_9_method_36_code 63 = .ok (.iconst 0, 1) := by decide +kernel
theorem dc_MD_some_64 : decode prog_9_method_36_code 64 = .ok (.istore 5, 2) := by decide +kernel
theorem dc_MD_some_66 : decode prog_9_method_36_code 66 = .ok (.aload_n 0, 1) := by decide +kernel
theorem dc_MD_some_67 : decode prog_9_method_36_code 67 = .ok (.iload 6, 2) := by decide +kernel
theorem dc_MD_some_69 : decode prog_9_method_36_code 69 = .ok (.putfield 38, 3) := by decide +kernel
theorem dc_MD_some_72 : decode prog_9_method_36_code 72 = .ok (.goto (-59), 3) := by decide +kernel
theorem dc_MD_some_75 : decode prog_9_method_36_code 75 = .ok (.iload 5, 2) := by decide +kernel
theorem dc_MD_some_77 : decode prog_9_method_36_code 77 = .ok (.ireturn, 1) := by decide +kernel
theorem dc_MD_passes_0 : decode prog_9_method_37_code 0 = .ok (.iconst 1, 1) := by decide +kernel
theorem dc_MD_passes_1 : decode prog_9_method_37_code 1 = .ok (.istore 4, 2) := by decide +kernel
theorem dc_MD_passes_3 : decode prog_9_method_37_code 3 = .ok (.iconst 0, 1) := by decide +kernel
theorem dc_MD_passes_4 : decode prog_9_method_37_code 4 = .ok (.istore 5, 2) := by decide +kernel
theorem dc_MD_passes_6 : decode prog_9_method_37_code 6 = .ok (.iload 5, 2) := by decide +kernel
theorem dc_MD_passes_8 : decode prog_9_method_37_code 8 = .ok (.iload_n 1, 1) := by decide +kernel
theorem dc_MD_passes_9 : decode prog_9_method_37_code 9 = .ok (.if_icmp .ge 91, 3) := by decide +kernel
theorem dc_MD_passes_12 : decode prog_9_method_37_code 12 = .ok (.iload 4, 2) := by decide +kernel
theorem dc_MD_passes_14 : decode prog_9_method_37_code 14 = .ok (.ifCond .eq 86, 3) := by decide +kernel
theorem dc_MD_passes_17 : decode prog_9_method_37_code 17 = .ok (.aload_n 0, 1) := by decide +kernel
theorem dc_MD_passes_18 : decode prog_9_method_37_code 18 = .ok (.aload_n 0, 1) := by decide +kernel
theorem dc_MD_passes_19 : decode prog_9_method_37_code 19 = .ok (.getfield 16, 3) := by decide +kernel
theorem dc_MD_passes_22 : decode prog_9_method_37_code 22 = .ok (.iload 5, 2) := by decide +kernel
theorem dc_MD_passes_24 : decode prog_9_method_37_code 24 = .ok (.iaload, 1) := by decide +kernel
theorem dc_MD_passes_25 : decode prog_9_method_37_code 25 = .ok (.invokevirtual 183, 3) := by decide +kernel
theorem dc_MD_passes_28 : decode prog_9_method_37_code 28 = .ok (.istore 4, 2) := by decide +kernel
theorem dc_MD_passes_30 : decode prog_9_method_37_code 30 = .ok (.iload 4, 2) := by decide +kernel
theorem dc_MD_passes_32 : decode prog_9_method_37_code 32 = .ok (.ifCond .eq 26, 3) := by decide +kernel
theorem dc_MD_passes_35 : decode prog_9_method_37_code 35 = .ok (.aload_n 0, 1) := by decide +kernel
theorem dc_MD_passes_36 : decode prog_9_method_37_code 36 = .ok (.getfield 90, 3) := by decide +kernel
theorem dc_MD_passes_39 : decode prog_9_method_37_code 39 = .ok (.ifCond .le 19, 3) := by decide +kernel
theorem dc_MD_passes_42 : decode prog_9_method_37_code 42 = .ok (.aload_n 0, 1) := by decide +kernel
theorem dc_MD_passes_43 : decode prog_9_method_37_code 43 = .ok (.iload_n 2, 1) := by decide +kernel
theorem dc_MD_passes_44 : decode prog_9_method_37_code 44 = .ok (.iload_n 3, 1) := by decide +kernel
theorem dc_MD_passes_45 : decode prog_9_method_37_code 45 = .ok (.aload_n 0, 1) := by decide +kernel
theorem dc_MD_passes_46 : decode prog_9_method_37_code 46 = .ok (.getfield 84, 3) := by decide +kernel
theorem dc_MD_passes_49 : decode prog_9_method_37_code 49 = .ok (.aload_n 0, 1) := by decide +kernel
theorem dc_MD_passes_50 : decode prog_9_method_37_code 50 = .ok (.getfield 93, 3) := by decide +kernel
theorem dc_MD_passes_53 : decode prog_9_method_37_code 53 = .ok (.invokevirtual 193, 3) := by decide +kernel
theorem dc_MD_passes_56 : decode prog_9_method_37_code 56 = .ok (.istore 4, 2) := by decide +kernel
theorem dc_MD_passes_58 : decode prog_9_method_37_code 58 = .ok (.iload 4, 2) := by decide +kernel
theorem dc_MD_passes_60 : decode prog_9_method_37_code 60 = .ok (.ifCond .eq 34, 3) := by decide +kernel
theorem dc_MD_passes_63 : decode prog_9_method_37_code 63 = .ok (.aload_n 0, 1) := by decide +kernel
theorem dc_MD_passes_64 : decode prog_9_method_37_code 64 = .ok (.getfield 99, 3) := by decide +kernel
theorem dc_MD_passes_67 : decode prog_9_method_37_code 67 = .ok (.ifCond .le 27, 3) := by decide +kernel
theorem dc_MD_passes_70 : decode prog_9_method_37_code 70 = .ok (.aload_n 0, 1) := by decide +kernel
theorem dc_MD_passes_71 : decode prog_9_method_37_code 71 = .ok (.iload_n 2, 1) := by decide +kernel
theorem dc_MD_passes_72 : decode prog_9_method_37_code 72 = .ok (.iload_n 3, 1) := by decide +kernel
theorem dc_MD_passes_73 : decode prog_9_method_37_code 73 = .ok (.aload_n 0, 1) := by decide +kernel
theorem dc_MD_passes_74 : decode prog_9_method_37_code 74 = .ok (.getfield 96, 3) := by decide +kernel
theorem dc_MD_passes_77 : decode prog_9_method_37_code 77 = .ok (.aload_n 0, 1) := by decide +kernel
theorem dc_MD_passes_78 : decode prog_9_method_37_code 78 = .ok (.getfield 102, 3) := by decide +kernel
theorem dc_MD_passes_81 : decode prog_9_method_37_code 81 = .ok (.invokevirtual 193, 3) := by decide +kernel
theorem dc_MD_passes_84 : decode prog_9_method_37_code 84 = .ok (.ifCond .ne 7, 3) := by decide +kernel
theorem dc_MD_passes_87 : decode prog_9_method_37_code 87 = .ok (.iconst 1, 1) := by decide +kernel
theorem dc_MD_passes_88 : decode prog_9_method_37_code 88 = .ok (.goto 4, 3) := by decide +kernel
theorem dc_MD_passes_91 : decode prog_9_method_37_code 91 = .ok (.iconst 0, 1) := by decide +kernel
theorem dc_MD_passes_92 : decode prog_9_method_37_code 92 = .ok (.istore 4, 2) := by decide +kernel
theorem dc_MD_passes_94 : decode prog_9_method_37_code 94 = .ok (.iinc 5 1, 3) := by decide +kernel
theorem dc_MD_passes_97 : decode prog_9_method_37_code 97 = .ok (.goto (-91), 3) := by decide +kernel
theorem dc_MD_passes_100 : decode prog_9_method_37_code 100 = .ok (.iload 4, 2) := by decide +kernel
theorem dc_MD_passes_102 : decode prog_9_method_37_code 102 = .ok (.ireturn, 1) := by decide +kernel
theorem dc_MD_signedByKey_0 : decode prog_9_method_38_code 0 = .ok (.lconst 1, 1) := by decide +kernel
theorem dc_MD_signedByKey_1 : decode prog_9_method_38_code 1 = .ok (.lstore_n 1, 1) := by decide +kernel
theorem dc_MD_signedByKey_2 : decode prog_9_method_38_code 2 = .ok (.iconst 0, 1) := by decide +kernel
theorem dc_MD_signedByKey_3 : decode prog_9_method_38_code 3 = .ok (.istore_n 3, 1) := by decide +kernel
theorem dc_MD_signedByKey_4 : decode prog_9_method_38_code 4 = .ok (.iload_n 3, 1) := by decide +kernel
theorem dc_MD_signedByKey_5 : decode prog_9_method_38_code 5 = .ok (.aload_n 0, 1) := by decide +kernel
theorem dc_MD_signedByKey_6 : decode prog_9_method_38_code 6 = .ok (.getfield 196, 3) := by decide +kernel
theorem dc_MD_signedByKey_9 : decode prog_9_method_38_code 9 = .ok (.if_icmp .ge 23, 3) := by decide +kernel
theorem dc_MD_signedByKey_12 : decode prog_9_method_38_code 12 = .ok (.lload_n 1, 1) := by decide +kernel
theorem dc_MD_signedByKey_13 : decode prog_9_method_38_code 13 = .ok (.aload_n 0, 1) := by decide +kernel
theorem dc_MD_signedByKey_14 : decode prog_9_method_38_code 14 = .ok (.getfield 171, 3) := by decide +kernel
theorem dc_MD_signedByKey_17 : decode prog_9_method_38_code 17 = .ok (.i2l, 1) := by decide +kernel
theorem dc_MD_signedByKey_18 : decode prog_9_method_38_code 18 = .ok (.lmul, 1) := by decide +kernel
theorem dc_MD_signedByKey_19 : decode prog_9_method_38_code 19 = .ok (.aload_n 0, 1) := by decide +kernel
theorem dc_MD_signedByKey_20 : decode prog_9_method_38_code 20 = .ok (.getfield 199, 3) := by decide +kernel
theorem dc_MD_signedByKey_23 : decode prog_9_method_38_code 23 = .ok (.i2l, 1) := by decide +kernel
theorem dc_MD_signedByKey_24 : decode prog_9_method_38_code 24 = .ok (.lrem, 1) := by decide +kernel
theorem dc_MD_signedByKey_25 : decode prog_9_method_38_code 25 = .ok (.lstore_n 1, 1) := by decide +kernel
theorem dc_MD_signedByKey_26 : decode prog_9_method_38_code 26 = .ok (.iinc 3 1, 3) := by decide +kernel
theorem dc_MD_signedByKey_29 : decode prog_9_method_38_code 29 = .ok (.goto (-25), 3) := by decide +kernel
theorem dc_MD_signedByKey_32 : decode prog_9_method_38_code 32 = .ok (.aload_n 0, 1) := by decide +kernel
theorem dc_MD_signedByKey_33 : decode prog_9_method_38_code 33 = .ok (.getfield 171, 3) := by decide +kernel
theorem dc_MD_signedByKey_36 : decode prog_9_method_38_code 36 = .ok (.aload_n 0, 1) := by decide +kernel
theorem dc_MD_signedByKey_37 : decode prog_9_method_38_code 37 = .ok (.getfield 199, 3) := by decide +kernel
theorem dc_MD_signedByKey_40 : decode prog_9_method_38_code 40 = .ok (.if_icmp .ge 30, 3) := by decide +kernel
theorem dc_MD_signedByKey_43 : decode prog_9_method_38_code 43 = .ok (.lload_n 1, 1) := by decide +kernel
theorem dc_MD_signedByKey_44 : decode prog_9_method_38_code 44 = .ok (.aload_n 0, 1) := by decide +kernel
theorem dc_MD_signedByKey_45 : decode prog_9_method_38_code 45 = .ok (.aload_n 0, 1) := by decide +kernel
theorem dc_MD_signedByKey_46 : decode prog_9_method_38_code 46 = .ok (.getfield 129, 3) := by decide +kernel
theorem dc_MD_signedByKey_49 : decode prog_9_method_38_code 49 = .ok (.aload_n 0, 1) := by decide +kernel
theorem dc_MD_signedByKey_50 : decode prog_9_method_38_code 50 = .ok (.getfield 165, 3) := by decide +kernel
theorem dc_MD_signedByKey_53 : decode prog_9_method_38_code 53 = .ok (.invokevirtual 30, 3) := by decide +kernel
theorem dc_MD_signedByKey_56 : decode prog_9_method_38_code 56 = .ok (.aload_n 0, 1) := by decide +kernel
theorem dc_MD_signedByKey_57 : decode prog_9_method_38_code 57 = .ok (.getfield 199, 3) := by decide +kernel
theorem dc_MD_signedByKey_60 : decode prog_9_method_38_code 60 = .ok (.irem, 1) := by decide +kernel
theorem dc_MD_signedByKey_61 : decode prog_9_method_38_code 61 = .ok (.i2l, 1) := by decide +kernel
theorem dc_MD_signedByKey_62 : decode prog_9_method_38_code 62 = .ok (.lcmp, 1) := by decide +kernel
theorem dc_MD_signedByKey_63 : decode prog_9_method_38_code 63 = .ok (.ifCond .ne 7, 3) := by decide +kernel
theorem dc_MD_signedByKey_66 : decode prog_9_method_38_code 66 = .ok (.iconst 1, 1) := by decide +kernel
theorem dc_MD_signedByKey_67 : decode prog_9_method_38_code 67 = .ok (.goto 4, 3) := by decide +kernel
theorem dc_MD_signedByKey_70 : decode prog_9_method_38_code 70 = .ok (.iconst 0, 1) := by decide +kernel
theorem dc_MD_signedByKey_71 : decode prog_9_method_38_code 71 = .ok (.ireturn, 1) := by decide +kernel
theorem dc_MD_takeKey_0 : decode prog_9_method_39_code 0 = .ok (.aload_n 0, 1) := by decide +kernel
theorem dc_MD_takeKey_1 : decode prog_9_method_39_code 1 = .ok (.aload_n 0, 1) := by decide +kernel
theorem dc_MD_takeKey_2 : decode prog_9_method_39_code 2 = .ok (.getfield 120, 3) := by decide +kernel
theorem dc_MD_takeKey_5 : decode prog_9_method_39_code 5 = .ok (.putfield 199, 3) := by decide +kernel
theorem dc_MD_takeKey_8 : decode prog_9_method_39_code 8 = .ok (.aload_n 0, 1) := by decide +kernel
theorem dc_MD_takeKey_9 : decode prog_9_method_39_code 9 = .ok (.aload_n 0, 1) := by decide +kernel
theorem dc_MD_takeKey_10 : decode prog_9_method_39_code 10 = .ok (.getfield 123, 3) := by decide +kernel
theorem dc_MD_takeKey_13 : decode prog_9_method_39_code 13 = .ok (.putfield 196, 3) := by decide +kernel
theorem dc_MD_takeKey_16 : decode prog_9_method_39_code 16 = .ok (.aload_n 0, 1) := by decide +kernel
theorem dc_MD_takeKey_17 : decode prog_9_method_39_code 17 = .ok (.aload_n 0, 1) := by decide +kernel
theorem dc_MD_takeKey_18 : decode prog_9_method_39_code 18 = .ok (.getfield 150, 3) := by decide +kernel
theorem dc_MD_takeKey_21 : decode prog_9_method_39_code 21 = .ok (.putfield 202, 3) := by decide +kernel
theorem dc_MD_takeKey_24 : decode prog_9_method_39_code 24 = .ok (.aload_n 0, 1) := by decide +kernel
theorem dc_MD_takeKey_25 : decode prog_9_method_39_code 25 = .ok (.aload_n 0, 1) := by decide +kernel
theorem dc_MD_takeKey_26 : decode prog_9_method_39_code 26 = .ok (.getfield 153, 3) := by decide +kernel
theorem dc_MD_takeKey_29 : decode prog_9_method_39_code 29 = .ok (.putfield 205, 3) := by decide +kernel
theorem dc_MD_takeKey_32 : decode prog_9_method_39_code 32 = .ok (.return_, 1) := by decide +kernel
theorem dc_MD_broken_0 : decode prog_9_method_40_code 0 = .ok (.iload_n 1, 1) := by decide +kernel
theorem dc_MD_broken_1 : decode prog_9_method_40_code 1 = .ok (.aload_n 0, 1) := by decide +kernel
theorem dc_MD_broken_2 : decode prog_9_method_40_code 2 = .ok (.getfield 190, 3) := by decide +kernel
theorem dc_MD_broken_5 : decode prog_9_method_40_code 5 = .ok (.iconst 1, 1) := by decide +kernel
theorem dc_MD_broken_6 : decode prog_9_method_40_code 6 = .ok (.isub, 1) := by decide +kernel
theorem dc_MD_broken_7 : decode prog_9_method_40_code 7 = .ok (.if_icmp .ne 7, 3) := by decide +kernel
theorem dc_MD_broken_10 : decode prog_9_method_40_code 10 = .ok (.iconst 1, 1) := by decide +kernel
theorem dc_MD_broken_11 : decode prog_9_method_40_code 11 = .ok (.goto 4, 3) := by decide +kernel
theorem dc_MD_broken_14 : decode prog_9_method_40_code 14 = .ok (.iconst 0, 1) := by decide +kernel
theorem dc_MD_broken_15 : decode prog_9_method_40_code 15 = .ok (.istore 4, 2) := by decide +kernel
theorem dc_MD_broken_17 : decode prog_9_method_40_code 17 = .ok (.aload_n 0, 1) := by decide +kernel
theorem dc_MD_broken_18 : decode prog_9_method_40_code 18 = .ok (.aload_n 0, 1) := by decide +kernel
theorem dc_MD_broken_19 : decode prog_9_method_40_code 19 = .ok (.getfield 16, 3) := by decide +kernel
theorem dc_MD_broken_22 : decode prog_9_method_40_code 22 = .ok (.iload_n 1, 1) := by decide +kernel
theorem dc_MD_broken_23 : decode prog_9_method_40_code 23 = .ok (.iaload, 1) := by decide +kernel
theorem dc_MD_broken_24 : decode prog_9_method_40_code 24 = .ok (.invokevirtual 183, 3) := by decide +kernel
theorem dc_MD_broken_27 : decode prog_9_method_40_code 27 = .ok (.istore 5, 2) := by decide +kernel
theorem dc_MD_broken_29 : decode prog_9_method_40_code 29 = .ok (.iload 5, 2) := by decide +kernel
theorem dc_MD_broken_31 : decode prog_9_method_40_code 31 = .ok (.ifCond .eq 10, 3) := by decide +kernel
theorem dc_MD_broken_34 : decode prog_9_method_40_code 34 = .ok (.aload_n 0, 1) := by decide +kernel
theorem dc_MD_broken_35 : decode prog_9_method_40_code 35 = .ok (.invokevirtual 208, 3) := by decide +kernel
theorem dc_MD_broken_38 : decode prog_9_method_40_code 38 = .ok (.ifCond .ne 5, 3) := by decide +kernel
theorem dc_MD_broken_41 : decode prog_9_method_40_code 41 = .ok (.iconst 1, 1) := by decide +kernel
theorem dc_MD_broken_42 : decode prog_9_method_40_code 42 = .ok (.ireturn, 1) := by decide +kernel
theorem dc_MD_broken_43 : decode prog_9_method_40_code 43 = .ok (.iload_n 2, 1) := by decide +kernel
theorem dc_MD_broken_44 : decode prog_9_method_40_code 44 = .ok (.aload_n 0, 1) := by decide +kernel
theorem dc_MD_broken_45 : decode prog_9_method_40_code 45 = .ok (.getfield 144, 3) := by decide +kernel
theorem dc_MD_broken_48 : decode prog_9_method_40_code 48 = .ok (.if_icmp .lt 11, 3) := by decide +kernel
theorem dc_MD_broken_51 : decode prog_9_method_40_code 51 = .ok (.iload_n 2, 1) := by decide +kernel
theorem dc_MD_broken_52 : decode prog_9_method_40_code 52 = .ok (.aload_n 0, 1) := by decide +kernel
theorem dc_MD_broken_53 : decode prog_9_method_40_code 53 = .ok (.getfield 147, 3) := by decide +kernel
theorem dc_MD_broken_56 : decode prog_9_method_40_code 56 = .ok (.if_icmp .le 5, 3) := by decide +kernel
theorem dc_MD_broken_59 : decode prog_9_method_40_code 59 = .ok (.iconst 2, 1) := by decide +kernel
theorem dc_MD_broken_60 : decode prog_9_method_40_code 60 = .ok (.ireturn, 1) := by decide +kernel
theorem dc_MD_broken_61 : decode prog_9_method_40_code 61 = .ok (.aload_n 0, 1) := by decide +kernel
theorem dc_MD_broken_62 : decode prog_9_method_40_code 62 = .ok (.aload_n 0, 1) := by decide +kernel
theorem dc_MD_broken_63 : decode prog_9_method_40_code 63 = .ok (.getfield 135, 3) := by decide +kernel
theorem dc_MD_broken_66 : decode prog_9_method_40_code 66 = .ok (.aload_n 0, 1) := by decide +kernel
theorem dc_MD_broken_67 : decode prog_9_method_40_code 67 = .ok (.getfield 138, 3) := by decide +kernel
theorem dc_MD_broken_70 : decode prog_9_method_40_code 70 = .ok (.aload_n 0, 1) := by decide +kernel
theorem dc_MD_broken_71 : decode prog_9_method_40_code 71 = .ok (.getfield 202, 3) := by decide +kernel
theorem dc_MD_broken_74 : decode prog_9_method_40_code 74 = .ok (.aload_n 0, 1) := by decide +kernel
theorem dc_MD_broken_75 : decode prog_9_method_40_code 75 = .ok (.getfield 205, 3) := by decide +kernel
theorem dc_MD_broken_78 : decode prog_9_method_40_code 78 = .ok (.invokevirtual 212, 3) := by decide +kernel
theorem dc_MD_broken_81 : decode prog_9_method_40_code 81 = .ok (.ifCond .ne 5, 3) := by decide +kernel
theorem dc_MD_broken_84 : decode prog_9_method_40_code 84 = .ok (.iconst 3, 1) := by decide +kernel
theorem dc_MD_broken_85 : decode prog_9_method_40_code 85 = .ok (.ireturn, 1) := by decide +kernel
theorem dc_MD_broken_86 : decode prog_9_method_40_code 86 = .ok (.aload_n 0, 1) := by decide +kernel
theorem dc_MD_broken_87 : decode prog_9_method_40_code 87 = .ok (.aload_n 0, 1) := by decide +kernel
theorem dc_MD_broken_88 : decode prog_9_method_40_code 88 = .ok (.getfield 135, 3) := by decide +kernel
theorem dc_MD_broken_91 : decode prog_9_method_40_code 91 = .ok (.aload_n 0, 1) := by decide +kernel
theorem dc_MD_broken_92 : decode prog_9_method_40_code 92 = .ok (.getfield 138, 3) := by decide +kernel
theorem dc_MD_broken_95 : decode prog_9_method_40_code 95 = .ok (.aload_n 0, 1) := by decide +kernel
theorem dc_MD_broken_96 : decode prog_9_method_40_code 96 = .ok (.getfield 150, 3) := by decide +kernel
theorem dc_MD_broken_99 : decode prog_9_method_40_code 99 = .ok (.aload_n 0, 1) := by decide +kernel
theorem dc_MD_broken_100 : decode prog_9_method_40_code 100 = .ok (.getfield 153, 3) := by decide +kernel
theorem dc_MD_broken_103 : decode prog_9_method_40_code 103 = .ok (.invokevirtual 212, 3) := by decide +kernel
theorem dc_MD_broken_106 : decode prog_9_method_40_code 106 = .ok (.istore 6, 2) := by decide +kernel
theorem dc_MD_broken_108 : decode prog_9_method_40_code 108 = .ok (.iload 4, 2) := by decide +kernel
theorem dc_MD_broken_110 : decode prog_9_method_40_code 110 = .ok (.ifCond .ne 8, 3) := by decide +kernel
theorem dc_MD_broken_113 : decode prog_9_method_40_code 113 = .ok (.iload 6, 2) := by decide +kernel
theorem dc_MD_broken_115 : decode prog_9_method_40_code 115 = .ok (.ifCond .ne 21, 3) := by decide +kernel
theorem dc_MD_broken_118 : decode prog_9_method_40_code 118 = .ok (.aload_n 0, 1) := by decide +kernel
theorem dc_MD_broken_119 : decode prog_9_method_40_code 119 = .ok (.iload_n 1, 1) := by decide +kernel
theorem dc_MD_broken_120 : decode prog_9_method_40_code 120 = .ok (.aload_n 0, 1) := by decide +kernel
theorem dc_MD_broken_121 : decode prog_9_method_40_code 121 = .ok (.getfield 150, 3) := by decide +kernel
theorem dc_MD_broken_124 : decode prog_9_method_40_code 124 = .ok (.aload_n 0, 1) := by decide +kernel
theorem dc_MD_broken_125 : decode prog_9_method_40_code 125 = .ok (.getfield 153, 3) := by decide +kernel
theorem dc_MD_broken_128 : decode prog_9_method_40_code 128 = .ok (.invokevirtual 215, 3) := by decide +kernel
theorem dc_MD_broken_131 : decode prog_9_method_40_code 131 = .ok (.ifCond .ne 5, 3) := by decide +kernel
theorem dc_MD_broken_134 : decode prog_9_method_40_code 134 = .ok (.iconst 4, 1) := by decide +kernel
theorem dc_MD_broken_135 : decode prog_9_method_40_code 135 = .ok (.ireturn, 1) := by decide +kernel
theorem dc_MD_broken_136 : decode prog_9_method_40_code 136 = .ok (.aload_n 0, 1) := by decide +kernel
theorem dc_MD_broken_137 : decode prog_9_method_40_code 137 = .ok (.aload_n 0, 1) := by decide +kernel
theorem dc_MD_broken_138 : decode prog_9_method_40_code 138 = .ok (.getfield 16, 3) := by decide +kernel
theorem dc_MD_broken_141 : decode prog_9_method_40_code 141 = .ok (.iload_n 1, 1) := by decide +kernel
theorem dc_MD_broken_142 : decode prog_9_method_40_code 142 = .ok (.iaload, 1) := by decide +kernel
theorem dc_MD_broken_143 : decode prog_9_method_40_code 143 = .ok (.invokevirtual 183, 3) := by decide +kernel
theorem dc_MD_broken_146 : decode prog_9_method_40_code 146 = .ok (.istore 5, 2) := by decide +kernel
theorem dc_MD_broken_148 : decode prog_9_method_40_code 148 = .ok (.aload_n 0, 1) := by decide +kernel
theorem dc_MD_broken_149 : decode prog_9_method_40_code 149 = .ok (.getfield 108, 3) := by decide +kernel
theorem dc_MD_broken_152 : decode prog_9_method_40_code 152 = .ok (.ifCond .eq 5, 3) := by decide +kernel
theorem dc_MD_broken_155 : decode prog_9_method_40_code 155 = .ok (.iconst 5, 1) := by decide +kernel
theorem dc_MD_broken_156 : decode prog_9_method_40_code 156 = .ok (.ireturn, 1) := by decide +kernel
theorem dc_MD_broken_157 : decode prog_9_method_40_code 157 = .ok (.iload 4, 2) := by decide +kernel
theorem dc_MD_broken_159 : decode prog_9_method_40_code 159 = .ok (.ifCond .eq 29, 3) := by decide +kernel
theorem dc_MD_broken_162 : decode prog_9_method_40_code 162 = .ok (.aload_n 0, 1) := by decide +kernel
theorem dc_MD_broken_163 : decode prog_9_method_40_code 163 = .ok (.getfield 57, 3) := by decide +kernel
theorem dc_MD_broken_166 : decode prog_9_method_40_code 166 = .ok (.iconst (-1), 1) := by decide +kernel
theorem dc_MD_broken_167 : decode prog_9_method_40_code 167 = .ok (.if_icmp .eq 19, 3) := by decide +kernel
theorem dc_MD_broken_170 : decode prog_9_method_40_code 170 = .ok (.iload_n 3, 1) := by decide +kernel
theorem dc_MD_broken_171 : decode prog_9_method_40_code 171 = .ok (.aload_n 0, 1) := by decide +kernel
theorem dc_MD_broken_172 : decode prog_9_method_40_code 172 = .ok (.getfield 57, 3) := by decide +kernel
theorem dc_MD_broken_175 : decode prog_9_method_40_code 175 = .ok (.iconst (-1), 1) := by decide +kernel
theorem dc_MD_broken_176 : decode prog_9_method_40_code 176 = .ok (.ixor, 1) := by decide +kernel
theorem dc_MD_broken_177 : decode prog_9_method_40_code 177 = .ok (.iand, 1) := by decide +kernel
theorem dc_MD_broken_178 : decode prog_9_method_40_code 178 = .ok (.ifCond .eq 8, 3) := by decide +kernel
theorem dc_MD_broken_181 : decode prog_9_method_40_code 181 = .ok (.bipush 9, 2) := by decide +kernel
theorem dc_MD_broken_183 : decode prog_9_method_40_code 183 = .ok (.goto 4, 3) := by decide +kernel
theorem dc_MD_broken_186 : decode prog_9_method_40_code 186 = .ok (.iconst 0, 1) := by decide +kernel
theorem dc_MD_broken_187 : decode prog_9_method_40_code 187 = .ok (.ireturn, 1) := by decide +kernel
theorem dc_MD_broken_188 : decode prog_9_method_40_code 188 = .ok (.aload_n 0, 1) := by decide +kernel
theorem dc_MD_broken_189 : decode prog_9_method_40_code 189 = .ok (.getfield 60, 3) := by decide +kernel
theorem dc_MD_broken_192 : decode prog_9_method_40_code 192 = .ok (.ifCond .eq 10, 3) := by decide +kernel
theorem dc_MD_broken_195 : decode prog_9_method_40_code 195 = .ok (.aload_n 0, 1) := by decide +kernel
theorem dc_MD_broken_196 : decode prog_9_method_40_code 196 = .ok (.getfield 67, 3) := by decide +kernel
theorem dc_MD_broken_199 : decode prog_9_method_40_code 199 = .ok (.ifCond .ne 6, 3) := by decide +kernel
theorem dc_MD_broken_202 : decode prog_9_method_40_code 202 = .ok (.bipush 6, 2) := by decide +kernel
theorem dc_MD_broken_204 : decode prog_9_method_40_code 204 = .ok (.ireturn, 1) := by decide +kernel
theorem dc_MD_broken_205 : decode prog_9_method_40_code 205 = .ok (.iload 6, 2) := by decide +kernel
theorem dc_MD_broken_207 : decode prog_9_method_40_code 207 = .ok (.ifCond .ne 13, 3) := by decide +kernel
theorem dc_MD_broken_210 : decode prog_9_method_40_code 210 = .ok (.aload_n 0, 1) := by decide +kernel
theorem dc_MD_broken_211 : decode prog_9_method_40_code 211 = .ok (.getfield 219, 3) := by decide +kernel
theorem dc_MD_broken_214 : decode prog_9_method_40_code 214 = .ok (.ifCond .gt 6, 3) := by decide +kernel
theorem dc_MD_broken_217 : decode prog_9_method_40_code 217 = .ok (.bipush 7, 2) := by decide +kernel
theorem dc_MD_broken_219 : decode prog_9_method_40_code 219 = .ok (.ireturn, 1) := by decide +kernel
theorem dc_MD_broken_220 : decode prog_9_method_40_code 220 = .ok (.aload_n 0, 1) := by decide +kernel
theorem dc_MD_broken_221 : decode prog_9_method_40_code 221 = .ok (.iload 6, 2) := by decide +kernel
theorem dc_MD_broken_223 : decode prog_9_method_40_code 223 = .ok (.ifCond .eq 10, 3) := by decide +kernel
theorem dc_MD_broken_226 : decode prog_9_method_40_code 226 = .ok (.aload_n 0, 1) := by decide +kernel
theorem dc_MD_broken_227 : decode prog_9_method_40_code 227 = .ok (.getfield 219, 3) := by decide +kernel
theorem dc_MD_broken_230 : decode prog_9_method_40_code 230 = .ok (.goto 9, 3) := by decide +kernel
theorem dc_MD_broken_233 : decode prog_9_method_40_code 233 = .ok (.aload_n 0, 1) := by decide +kernel
theorem dc_MD_broken_234 : decode prog_9_method_40_code 234 = .ok (.getfield 219, 3) := by decide +kernel
theorem dc_MD_broken_237 : decode prog_9_method_40_code 237 = .ok (.iconst 1, 1) := by decide +kernel
theorem dc_MD_broken_238 : decode prog_9_method_40_code 238 = .ok (.isub, 1) := by decide +kernel
theorem dc_MD_broken_239 : decode prog_9_method_40_code 239 = .ok (.putfield 219, 3) := by decide +kernel
theorem dc_MD_broken_242 : decode prog_9_method_40_code 242 = .ok (.aload_n 0, 1) := by decide +kernel
theorem dc_MD_broken_243 : decode prog_9_method_40_code 243 = .ok (.aload_n 0, 1) := by decide +kernel
theorem dc_MD_broken_244 : decode prog_9_method_40_code 244 = .ok (.getfield 74, 3) := by decide +kernel
theorem dc_MD_broken_247 : decode prog_9_method_40_code 247 = .ok (.iconst (-1), 1) := by decide +kernel
theorem dc_MD_broken_248 : decode prog_9_method_40_code 248 = .ok (.if_icmp .eq 21, 3) := by decide +kernel
theorem dc_MD_broken_251 : decode prog_9_method_40_code 251 = .ok (.aload_n 0, 1) := by decide +kernel
theorem dc_MD_broken_252 : decode prog_9_method_40_code 252 = .ok (.getfield 74, 3) := by decide +kernel
theorem dc_MD_broken_255 : decode prog_9_method_40_code 255 = .ok (.aload_n 0, 1) := by decide +kernel
theorem dc_MD_broken_256 : decode prog_9_method_40_code 256 = .ok (.getfield 219, 3) := by decide +kernel
theorem dc_MD_broken_259 : decode prog_9_method_40_code 259 = .ok (.if_icmp .ge 10, 3) := by decide +kernel
theorem dc_MD_broken_262 : decode prog_9_method_40_code 262 = .ok (.aload_n 0, 1) := by decide +kernel
theorem dc_MD_broken_263 : decode prog_9_method_40_code 263 = .ok (.getfield 74, 3) := by decide +kernel
theorem dc_MD_broken_266 : decode prog_9_method_40_code 266 = .ok (.goto 7, 3) := by decide +kernel
theorem dc_MD_broken_269 : decode prog_9_method_40_code 269 = .ok (.aload_n 0, 1) := by decide +kernel
theorem dc_MD_broken_270 : decode prog_9_method_40_code 270 = .ok (.getfield 219, 3) := by decide +kernel
theorem dc_MD_broken_273 : decode prog_9_method_40_code 273 = .ok (.putfield 219, 3) := by decide +kernel
theorem dc_MD_broken_276 : decode prog_9_method_40_code 276 = .ok (.aload_n 0, 1) := by decide +kernel
theorem dc_MD_broken_277 : decode prog_9_method_40_code 277 = .ok (.getfield 57, 3) := by decide +kernel
theorem dc_MD_broken_280 : decode prog_9_method_40_code 280 = .ok (.iconst (-1), 1) := by decide +kernel
theorem dc_MD_broken_281 : decode prog_9_method_40_code 281 = .ok (.if_icmp .eq 17, 3) := by decide +kernel
theorem dc_MD_broken_284 : decode prog_9_method_40_code 284 = .ok (.aload_n 0, 1) := by decide +kernel
theorem dc_MD_broken_285 : decode prog_9_method_40_code 285 = .ok (.getfield 57, 3) := by decide +kernel
theorem dc_MD_broken_288 : decode prog_9_method_40_code 288 = .ok (.iconst 5, 1) := by decide +kernel
theorem dc_MD_broken_289 : decode prog_9_method_40_code 289 = .ok (.ishr, 1) := by decide +kernel
theorem dc_MD_broken_290 : decode prog_9_method_40_code 290 = .ok (.iconst 1, 1) := by decide +kernel
theorem dc_MD_broken_291 : decode prog_9_method_40_code 291 = .ok (.iand, 1) := by decide +kernel
theorem dc_MD_broken_292 : decode prog_9_method_40_code 292 = .ok (.ifCond .ne 6, 3) := by decide +kernel
theorem dc_MD_broken_295 : decode prog_9_method_40_code 295 = .ok (.bipush 8, 2) := by decide +kernel
theorem dc_MD_broken_297 : decode prog_9_method_40_code 297 = .ok (.ireturn, 1) := by decide +kernel
theorem dc_MD_broken_298 : decode prog_9_method_40_code 298 = .ok (.aload_n 0, 1) := by decide +kernel
theorem dc_MD_broken_299 : decode prog_9_method_40_code 299 = .ok (.invokevirtual 222, 3) := by decide +kernel
theorem dc_MD_broken_302 : decode prog_9_method_40_code 302 = .ok (.iconst 0, 1) := by decide +kernel
theorem dc_MD_broken_303 : decode prog_9_method_40_code 303 = .ok (.ireturn, 1) := by decide +kernel
theorem dc_MD_check_0 : decode prog_9_method_41_code 0 = .ok (.aload_n 0, 1) := by decide +kernel
theorem dc_MD_check_1 : decode prog_9_method_41_code 1 = .ok (.iload_n 1, 1) := by decide +kernel
theorem dc_MD_check_2 : decode prog_9_method_41_code 2 = .ok (.invokevirtual 177, 3) := by decide +kernel
theorem dc_MD_check_5 : decode prog_9_method_41_code 5 = .ok (.ifCond .eq 29, 3) := by decide +kernel
theorem dc_MD_check_8 : decode prog_9_method_41_code 8 = .ok (.aload_n 0, 1) := by decide +kernel
theorem dc_MD_check_9 : decode prog_9_method_41_code 9 = .ok (.getfield 190, 3) := by decide +kernel
theorem dc_MD_check_12 : decode prog_9_method_41_code 12 = .ok (.ifCond .eq 22, 3) := by decide +kernel
theorem dc_MD_check_15 : decode prog_9_method_41_code 15 = .ok (.iload_n 3, 1) := by decide +kernel
theorem dc_MD_check_16 : decode prog_9_method_41_code 16 = .ok (.ifCond .lt 18, 3) := by decide +kernel
theorem dc_MD_check_19 : decode prog_9_method_41_code 19 = .ok (.iload_n 3, 1) := by decide +kernel
theorem dc_MD_check_20 : decode prog_9_method_41_code 20 = .ok (.sipush 255, 3) := by decide +kernel
theorem dc_MD_check_23 : decode prog_9_method_41_code 23 = .ok (.if_icmp .gt 11, 3) := by decide +kernel
theorem dc_MD_check_26 : decode prog_9_method_41_code 26 = .ok (.aload_n 0, 1) := by decide +kernel
theorem dc_MD_check_27 : decode prog_9_method_41_code 27 = .ok (.iload_n 1, 1) := by decide +kernel
theorem dc_MD_check_28 : decode prog_9_method_41_code 28 = .ok (.invokevirtual 183, 3) := by decide +kernel
theorem dc_MD_check_31 : decode prog_9_method_41_code 31 = .ok (.ifCond .ne 5, 3) := by decide +kernel
theorem dc_MD_check_34 : decode prog_9_method_41_code 34 = .ok (.iconst (-1), 1) := by decide +kernel
theorem dc_MD_check_35 : decode prog_9_method_41_code 35 = .ok (.ireturn, 1) := by decide +kernel
theorem dc_MD_check_36 : decode prog_9_method_41_code 36 = .ok (.aload_n 0, 1) := by decide +kernel
theorem dc_MD_check_37 : decode prog_9_method_41_code 37 = .ok (.invokevirtual 222, 3) := by decide +kernel
theorem dc_MD_check_40 : decode prog_9_method_41_code 40 = .ok (.aload_n 0, 1) := by decide +kernel
theorem dc_MD_check_41 : decode prog_9_method_41_code 41 = .ok (.aload_n 0, 1) := by decide +kernel
theorem dc_MD_check_42 : decode prog_9_method_41_code 42 = .ok (.getfield 190, 3) := by decide +kernel
theorem dc_MD_check_45 : decode prog_9_method_41_code 45 = .ok (.putfield 219, 3) := by decide +kernel
theorem dc_MD_check_48 : decode prog_9_method_41_code 48 = .ok (.iconst 0, 1) := by decide +kernel
theorem dc_MD_check_49 : decode prog_9_method_41_code 49 = .ok (.istore 4, 2) := by decide +kernel
theorem dc_MD_check_51 : decode prog_9_method_41_code 51 = .ok (.iload 4, 2) := by decide +kernel
theorem dc_MD_check_53 : decode prog_9_method_41_code 53 = .ok (.aload_n 0, 1) := by decide +kernel
theorem dc_MD_check_54 : decode prog_9_method_41_code 54 = .ok (.getfield 190, 3) := by decide +kernel
theorem dc_MD_check_57 : decode prog_9_method_41_code 57 = .ok (.if_icmp .ge 33, 3) := by decide +kernel
theorem dc_MD_check_60 : decode prog_9_method_41_code 60 = .ok (.aload_n 0, 1) := by decide +kernel
theorem dc_MD_check_61 : decode prog_9_method_41_code 61 = .ok (.iload 4, 2) := by decide +kernel
theorem dc_MD_check_63 : decode prog_9_method_41_code 63 = .ok (.iload_n 2, 1) := by decide +kernel
theorem dc_MD_check_64 : decode prog_9_method_41_code 64 = .ok (.iload_n 3, 1) := by decide +kernel
theorem dc_MD_check_65 : decode prog_9_method_41_code 65 = .ok (.invokevirtual 225, 3) := by decide +kernel
theorem dc_MD_check_68 : decode prog_9_method_41_code 68 = .ok (.istore 5, 2) := by decide +kernel
theorem dc_MD_check_70 : decode prog_9_method_41_code 70 = .ok (.iload 5, 2) := by decide +kernel
theorem dc_MD_check_72 : decode prog_9_method_41_code 72 = .ok (.ifCond .eq 12, 3) := by decide +kernel
theorem dc_MD_check_75 : decode prog_9_method_41_code 75 = .ok (.bipush 16, 2) := by decide +kernel
theorem dc_MD_check_77 : decode prog_9_method_41_code 77 = .ok (.iload 4, 2) := by decide +kernel
theorem dc_MD_check_79 : decode prog_9_method_41_code 79 = .ok (.imul, 1) := by decide +kernel
theorem dc_MD_check_80 : decode prog_9_method_41_code 80 = .ok (.iload 5, 2) := by decide +kernel
theorem dc_MD_check_82 : decode prog_9_method_41_code 82 = .ok (.iadd, 1) := by decide +kernel
theorem dc_MD_check_83 : decode prog_9_method_41_code 83 = .ok (.ireturn, 1) := by decide +kernel
theorem dc_MD_check_84 : decode prog_9_method_41_code 84 = .ok (.iinc 4 1, 3) := by decide +kernel
theorem dc_MD_check_87 : decode prog_9_method_41_code 87 = .ok (.goto (-36), 3) := by decide +kernel
theorem dc_MD_check_90 : decode prog_9_method_41_code 90 = .ok (.iconst 0, 1) := by decide +kernel
theorem dc_MD_check_91 : decode prog_9_method_41_code 91 = .ok (.ireturn, 1) := by decide +kernel
theorem dc_MD_reset_0 : decode prog_9_method_42_code 0 = .ok (.aload_n 0, 1) := by decide +kernel
theorem dc_MD_reset_1 : decode prog_9_method_42_code 1 = .ok (.iconst 0, 1) := by decide +kernel
theorem dc_MD_reset_2 : decode prog_9_method_42_code 2 = .ok (.putfield 174, 3) := by decide +kernel
theorem dc_MD_reset_5 : decode prog_9_method_42_code 5 = .ok (.aload_n 0, 1) := by decide +kernel
theorem dc_MD_reset_6 : decode prog_9_method_42_code 6 = .ok (.iconst 0, 1) := by decide +kernel
theorem dc_MD_reset_7 : decode prog_9_method_42_code 7 = .ok (.putfield 190, 3) := by decide +kernel
theorem dc_MD_reset_10 : decode prog_9_method_42_code 10 = .ok (.return_, 1) := by decide +kernel
