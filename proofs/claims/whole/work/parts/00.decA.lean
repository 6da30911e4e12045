/-! what each instruction is: rows and reader -/
theorem dc_BR_init_0 : decode prog_2_method_1_code 0 = .ok (.aload_n 0, 1) := by decide +kernel
theorem dc_BR_init_1 : decode prog_2_method_1_code 1 = .ok (.invokespecial 3, 3) := by decide +kernel
theorem dc_BR_init_4 : decode prog_2_method_1_code 4 = .ok (.aload_n 0, 1) := by decide +kernel
theorem dc_BR_init_5 : decode prog_2_method_1_code 5 = .ok (.sipush 160, 3) := by decide +kernel
theorem dc_BR_init_8 : decode prog_2_method_1_code 8 = .ok (.newarray .int, 2) := by decide +kernel
theorem dc_BR_init_10 : decode prog_2_method_1_code 10 = .ok (.putfield 9, 3) := by decide +kernel
theorem dc_BR_init_13 : decode prog_2_method_1_code 13 = .ok (.aload_n 0, 1) := by decide +kernel
theorem dc_BR_init_14 : decode prog_2_method_1_code 14 = .ok (.iconst 0, 1) := by decide +kernel
theorem dc_BR_init_15 : decode prog_2_method_1_code 15 = .ok (.putfield 15, 3) := by decide +kernel
theorem dc_BR_init_18 : decode prog_2_method_1_code 18 = .ok (.return_, 1) := by decide +kernel
theorem dc_BR_has_0 : decode prog_2_method_2_code 0 = .ok (.iload_n 1, 1) := by decide +kernel
theorem dc_BR_has_1 : decode prog_2_method_2_code 1 = .ok (.ifCond .lt 15, 3) := by decide +kernel
theorem dc_BR_has_4 : decode prog_2_method_2_code 4 = .ok (.iload_n 1, 1) := by decide +kernel
theorem dc_BR_has_5 : decode prog_2_method_2_code 5 = .ok (.aload_n 0, 1) := by decide +kernel
theorem dc_BR_has_6 : decode prog_2_method_2_code 6 = .ok (.getfield 15, 3) := by decide +kernel
theorem dc_BR_has_9 : decode prog_2_method_2_code 9 = .ok (.if_icmp .ge 7, 3) := by decide +kernel
theorem dc_BR_has_12 : decode prog_2_method_2_code 12 = .ok (.iconst 1, 1) := by decide +kernel
theorem dc_BR_has_13 : decode prog_2_method_2_code 13 = .ok (.goto 4, 3) := by decide +kernel
theorem dc_BR_has_16 : decode prog_2_method_2_code 16 = .ok (.iconst 0, 1) := by decide +kernel
theorem dc_BR_has_17 : decode prog_2_method_2_code 17 = .ok (.ireturn, 1) := by decide +kernel
theorem dc_BR_hashBetween_0 : decode prog_2_method_3_code 0 = .ok (.iconst 0, 1) := by decide +kernel
theorem dc_BR_hashBetween_1 : decode prog_2_method_3_code 1 = .ok (.istore_n 3, 1) := by decide +kernel
theorem dc_BR_hashBetween_2 : decode prog_2_method_3_code 2 = .ok (.iload_n 1, 1) := by decide +kernel
theorem dc_BR_hashBetween_3 : decode prog_2_method_3_code 3 = .ok (.istore 4, 2) := by decide +kernel
theorem dc_BR_hashBetween_5 : decode prog_2_method_3_code 5 = .ok (.iload 4, 2) := by decide +kernel
theorem dc_BR_hashBetween_7 : decode prog_2_method_3_code 7 = .ok (.iload_n 2, 1) := by decide +kernel
theorem dc_BR_hashBetween_8 : decode prog_2_method_3_code 8 = .ok (.if_icmp .ge 28, 3) := by decide +kernel
theorem dc_BR_hashBetween_11 : decode prog_2_method_3_code 11 = .ok (.sipush 263, 3) := by decide +kernel
theorem dc_BR_hashBetween_14 : decode prog_2_method_3_code 14 = .ok (.iload_n 3, 1) := by decide +kernel
theorem dc_BR_hashBetween_15 : decode prog_2_method_3_code 15 = .ok (.imul, 1) := by decide +kernel
theorem dc_BR_hashBetween_16 : decode prog_2_method_3_code 16 = .ok (.aload_n 0, 1) := by decide +kernel
theorem dc_BR_hashBetween_17 : decode prog_2_method_3_code 17 = .ok (.getfield 9, 3) := by decide +kernel
theorem dc_BR_hashBetween_20 : decode prog_2_method_3_code 20 = .ok (.iload 4, 2) := by decide +kernel
theorem dc_BR_hashBetween_22 : decode prog_2_method_3_code 22 = .ok (.iaload, 1) := by decide +kernel
theorem dc_BR_hashBetween_23 : decode prog_2_method_3_code 23 = .ok (.iadd, 1) := by decide +kernel
theorem dc_BR_hashBetween_24 : decode prog_2_method_3_code 24 = .ok (.iconst 1, 1) := by decide +kernel
theorem dc_BR_hashBetween_25 : decode prog_2_method_3_code 25 = .ok (.iadd, 1) := by decide +kernel
theorem dc_BR_hashBetween_26 : decode prog_2_method_3_code 26 = .ok (.ldc 19, 2) := by decide +kernel
theorem dc_BR_hashBetween_28 : decode prog_2_method_3_code 28 = .ok (.irem, 1) := by decide +kernel
theorem dc_BR_hashBetween_29 : decode prog_2_method_3_code 29 = .ok (.istore_n 3, 1) := by decide +kernel
theorem dc_BR_hashBetween_30 : decode prog_2_method_3_code 30 = .ok (.iinc 4 1, 3) := by decide +kernel
theorem dc_BR_hashBetween_33 : decode prog_2_method_3_code 33 = .ok (.goto (-28), 3) := by decide +kernel
theorem dc_BR_hashBetween_36 : decode prog_2_method_3_code 36 = .ok (.iload_n 3, 1) := by decide +kernel
theorem dc_BR_hashBetween_37 : decode prog_2_method_3_code 37 = .ok (.ireturn, 1) := by decide +kernel
theorem dc_BR_append_0 : decode prog_2_method_4_code 0 = .ok (.aload_n 0, 1) := by decide +kernel
theorem dc_BR_append_1 : decode prog_2_method_4_code 1 = .ok (.getfield 15, 3) := by decide +kernel
theorem dc_BR_append_4 : decode prog_2_method_4_code 4 = .ok (.aload_n 0, 1) := by decide +kernel
theorem dc_BR_append_5 : decode prog_2_method_4_code 5 = .ok (.getfield 9, 3) := by decide +kernel
theorem dc_BR_append_8 : decode prog_2_method_4_code 8 = .ok (.arraylength, 1) := by decide +kernel
theorem dc_BR_append_9 : decode prog_2_method_4_code 9 = .ok (.if_icmp .ge 23, 3) := by decide +kernel
theorem dc_BR_append_12 : decode prog_2_method_4_code 12 = .ok (.aload_n 0, 1) := by decide +kernel
theorem dc_BR_append_13 : decode prog_2_method_4_code 13 = .ok (.getfield 9, 3) := by decide +kernel
theorem dc_BR_append_16 : decode prog_2_method_4_code 16 = .ok (.aload_n 0, 1) := by decide +kernel
theorem dc_BR_append_17 : decode prog_2_method_4_code 17 = .ok (.getfield 15, 3) := by decide +kernel
theorem dc_BR_append_20 : decode prog_2_method_4_code 20 = .ok (.iload_n 1, 1) := by decide +kernel
theorem dc_BR_append_21 : decode prog_2_method_4_code 21 = .ok (.iastore, 1) := by decide +kernel
theorem dc_BR_append_22 : decode prog_2_method_4_code 22 = .ok (.aload_n 0, 1) := by decide +kernel
theorem dc_BR_append_23 : decode prog_2_method_4_code 23 = .ok (.dup, 1) := by decide +kernel
theorem dc_BR_append_24 : decode prog_2_method_4_code 24 = .ok (.getfield 15, 3) := by decide +kernel
theorem dc_BR_append_27 : decode prog_2_method_4_code 27 = .ok (.iconst 1, 1) := by decide +kernel
theorem dc_BR_append_28 : decode prog_2_method_4_code 28 = .ok (.iadd, 1) := by decide +kernel
theorem dc_BR_append_29 : decode prog_2_method_4_code 29 = .ok (.putfield 15, 3) := by decide +kernel
theorem dc_BR_append_32 : decode prog_2_method_4_code 32 = .ok (.aload_n 0, 1) := by decide +kernel
theorem dc_BR_append_33 : decode prog_2_method_4_code 33 = .ok (.getfield 15, 3) := by decide +kernel
theorem dc_BR_append_36 : decode prog_2_method_4_code 36 = .ok (.ireturn, 1) := by decide +kernel
theorem dc_BR_insertLength_0 : decode prog_2_method_5_code 0 = .ok (.aload_n 0, 1) := by decide +kernel
theorem dc_BR_insertLength_1 : decode prog_2_method_5_code 1 = .ok (.getfield 15, 3) := by decide +kernel
theorem dc_BR_insertLength_4 : decode prog_2_method_5_code 4 = .ok (.iload_n 1, 1) := by decide +kernel
theorem dc_BR_insertLength_5 : decode prog_2_method_5_code 5 = .ok (.isub, 1) := by decide +kernel
theorem dc_BR_insertLength_6 : decode prog_2_method_5_code 6 = .ok (.istore_n 2, 1) := by decide +kernel
theorem dc_BR_insertLength_7 : decode prog_2_method_5_code 7 = .ok (.iload_n 2, 1) := by decide +kernel
theorem dc_BR_insertLength_8 : decode prog_2_method_5_code 8 = .ok (.bipush 127, 2) := by decide +kernel
theorem dc_BR_insertLength_10 : decode prog_2_method_5_code 10 = .ok (.if_icmp .le 7, 3) := by decide +kernel
theorem dc_BR_insertLength_13 : decode prog_2_method_5_code 13 = .ok (.iconst 2, 1) := by decide +kernel
theorem dc_BR_insertLength_14 : decode prog_2_method_5_code 14 = .ok (.goto 4, 3) := by decide +kernel
theorem dc_BR_insertLength_17 : decode prog_2_method_5_code 17 = .ok (.iconst 1, 1) := by decide +kernel
theorem dc_BR_insertLength_18 : decode prog_2_method_5_code 18 = .ok (.istore_n 3, 1) := by decide +kernel
theorem dc_BR_insertLength_19 : decode prog_2_method_5_code 19 = .ok (.iload_n 1, 1) := by decide +kernel
theorem dc_BR_insertLength_20 : decode prog_2_method_5_code 20 = .ok (.ifCond .lt 21, 3) := by decide +kernel
theorem dc_BR_insertLength_23 : decode prog_2_method_5_code 23 = .ok (.iload_n 2, 1) := by decide +kernel
theorem dc_BR_insertLength_24 : decode prog_2_method_5_code 24 = .ok (.ifCond .lt 17, 3) := by decide +kernel
theorem dc_BR_insertLength_27 : decode prog_2_method_5_code 27 = .ok (.iload_n 3, 1) := by decide +kernel
theorem dc_BR_insertLength_28 : decode prog_2_method_5_code 28 = .ok (.aload_n 0, 1) := by decide +kernel
theorem dc_BR_insertLength_29 : decode prog_2_method_5_code 29 = .ok (.getfield 9, 3) := by decide +kernel
theorem dc_BR_insertLength_32 : decode prog_2_method_5_code 32 = .ok (.arraylength, 1) := by decide +kernel
theorem dc_BR_insertLength_33 : decode prog_2_method_5_code 33 = .ok (.aload_n 0, 1) := by decide +kernel
theorem dc_BR_insertLength_34 : decode prog_2_method_5_code 34 = .ok (.getfield 15, 3) := by decide +kernel
theorem dc_BR_insertLength_37 : decode prog_2_method_5_code 37 = .ok (.isub, 1) := by decide +kernel
theorem dc_BR_insertLength_38 : decode prog_2_method_5_code 38 = .ok (.if_icmp .le 4, 3) := by decide +kernel
theorem dc_BR_insertLength_41 : decode prog_2_method_5_code 41 = .ok (.return_, 1) := by decide +kernel
theorem dc_BR_insertLength_42 : decode prog_2_method_5_code 42 = .ok (.aload_n 0, 1) := by decide +kernel
theorem dc_BR_insertLength_43 : decode prog_2_method_5_code 43 = .ok (.getfield 15, 3) := by decide +kernel
theorem dc_BR_insertLength_46 : decode prog_2_method_5_code 46 = .ok (.iconst 1, 1) := by decide +kernel
theorem dc_BR_insertLength_47 : decode prog_2_method_5_code 47 = .ok (.isub, 1) := by decide +kernel
theorem dc_BR_insertLength_48 : decode prog_2_method_5_code 48 = .ok (.istore 4, 2) := by decide +kernel
theorem dc_BR_insertLength_50 : decode prog_2_method_5_code 50 = .ok (.iload 4, 2) := by decide +kernel
theorem dc_BR_insertLength_52 : decode prog_2_method_5_code 52 = .ok (.iload_n 1, 1) := by decide +kernel
theorem dc_BR_insertLength_53 : decode prog_2_method_5_code 53 = .ok (.if_icmp .lt 25, 3) := by decide +kernel
theorem dc_BR_insertLength_56 : decode prog_2_method_5_code 56 = .ok (.aload_n 0, 1) := by decide +kernel
theorem dc_BR_insertLength_57 : decode prog_2_method_5_code 57 = .ok (.getfield 9, 3) := by decide +kernel
theorem dc_BR_insertLength_60 : decode prog_2_method_5_code 60 = .ok (.iload 4, 2) := by decide +kernel
theorem dc_BR_insertLength_62 : decode prog_2_method_5_code 62 = .ok (.iload_n 3, 1) := by decide +kernel
theorem dc_BR_insertLength_63 : decode prog_2_method_5_code 63 = .ok (.iadd, 1) := by decide +kernel
theorem dc_BR_insertLength_64 : decode prog_2_method_5_code 64 = .ok (.aload_n 0, 1) := by decide +kernel
theorem dc_BR_insertLength_65 : decode prog_2_method_5_code 65 = .ok (.getfield 9, 3) := by decide +kernel
theorem dc_BR_insertLength_68 : decode prog_2_method_5_code 68 = .ok (.iload 4, 2) := by decide +kernel
theorem dc_BR_insertLength_70 : decode prog_2_method_5_code 70 = .ok (.iaload, 1) := by decide +kernel
theorem dc_BR_insertLength_71 : decode prog_2_method_5_code 71 = .ok (.iastore, 1) := by decide +kernel
theorem dc_BR_insertLength_72 : decode prog_2_method_5_code 72 = .ok (.iinc 4 (-1), 3) := by decide +kernel
theorem dc_BR_insertLength_75 : decode prog_2_method_5_code 75 = .ok (.goto (-25), 3) := by decide +kernel
theorem dc_BR_insertLength_78 : decode prog_2_method_5_code 78 = .ok (.aload_n 0, 1) := by decide +kernel
theorem dc_BR_insertLength_79 : decode prog_2_method_5_code 79 = .ok (.dup, 1) := by decide +kernel
theorem dc_BR_insertLength_80 : decode prog_2_method_5_code 80 = .ok (.getfield 15, 3) := by decide +kernel
theorem dc_BR_insertLength_83 : decode prog_2_method_5_code 83 = .ok (.iload_n 3, 1) := by decide +kernel
theorem dc_BR_insertLength_84 : decode prog_2_method_5_code 84 = .ok (.iadd, 1) := by decide +kernel
theorem dc_BR_insertLength_85 : decode prog_2_method_5_code 85 = .ok (.putfield 15, 3) := by decide +kernel
theorem dc_BR_insertLength_88 : decode prog_2_method_5_code 88 = .ok (.aload_n 0, 1) := by decide +kernel
theorem dc_BR_insertLength_89 : decode prog_2_method_5_code 89 = .ok (.getfield 9, 3) := by decide +kernel
theorem dc_BR_insertLength_92 : decode prog_2_method_5_code 92 = .ok (.iload_n 1, 1) := by decide +kernel
theorem dc_BR_insertLength_93 : decode prog_2_method_5_code 93 = .ok (.iload_n 3, 1) := by decide +kernel
theorem dc_BR_insertLength_94 : decode prog_2_method_5_code 94 = .ok (.iadd, 1) := by decide +kernel
theorem dc_BR_insertLength_95 : decode prog_2_method_5_code 95 = .ok (.iconst 1, 1) := by decide +kernel
theorem dc_BR_insertLength_96 : decode prog_2_method_5_code 96 = .ok (.isub, 1) := by decide +kernel
theorem dc_BR_insertLength_97 : decode prog_2_method_5_code 97 = .ok (.iload_n 2, 1) := by decide +kernel
theorem dc_BR_insertLength_98 : decode prog_2_method_5_code 98 = .ok (.iastore, 1) := by decide +kernel
theorem dc_BR_insertLength_99 : decode prog_2_method_5_code 99 = .ok (.iload_n 3, 1) := by decide +kernel
theorem dc_BR_insertLength_100 : decode prog_2_method_5_code 100 = .ok (.iconst 2, 1) := by decide +kernel
theorem dc_BR_insertLength_101 : decode prog_2_method_5_code 101 = .ok (.if_icmp .ne 12, 3) := by decide +kernel
theorem dc_BR_insertLength_104 : decode prog_2_method_5_code 104 = .ok (.aload_n 0, 1) := by decide +kernel
theorem dc_BR_insertLength_105 : decode prog_2_method_5_code 105 = .ok (.getfield 9, 3) := by decide +kernel
theorem dc_BR_insertLength_108 : decode prog_2_method_5_code 108 = .ok (.iload_n 1, 1) := by decide +kernel
theorem dc_BR_insertLength_109 : decode prog_2_method_5_code 109 = .ok (.sipush 129, 3) := by decide +kernel
theorem dc_BR_insertLength_112 : decode prog_2_method_5_code 112 = .ok (.iastore, 1) := by decide +kernel
theorem dc_BR_insertLength_113 : decode prog_2_method_5_code 113 = .ok (.return_, 1) := by decide +kernel
theorem dc_BR_appendInteger_0 : decode prog_2_method_6_code 0 = .ok (.aload_n 0, 1) := by decide +kernel
theorem dc_BR_appendInteger_1 : decode prog_2_method_6_code 1 = .ok (.iconst 2, 1) := by decide +kernel
theorem dc_BR_appendInteger_2 : decode prog_2_method_6_code 2 = .ok (.invokevirtual 20, 3) := by decide +kernel
theorem dc_BR_appendInteger_5 : decode prog_2_method_6_code 5 = .ok (.istore_n 2, 1) := by decide +kernel
theorem dc_BR_appendInteger_6 : decode prog_2_method_6_code 6 = .ok (.iconst 1, 1) := by decide +kernel
theorem dc_BR_appendInteger_7 : decode prog_2_method_6_code 7 = .ok (.istore_n 3, 1) := by decide +kernel
theorem dc_BR_appendInteger_8 : decode prog_2_method_6_code 8 = .ok (.iload_n 3, 1) := by decide +kernel
theorem dc_BR_appendInteger_9 : decode prog_2_method_6_code 9 = .ok (.iconst 4, 1) := by decide +kernel
theorem dc_BR_appendInteger_10 : decode prog_2_method_6_code 10 = .ok (.if_icmp .ge 20, 3) := by decide +kernel
theorem dc_BR_appendInteger_13 : decode prog_2_method_6_code 13 = .ok (.iload_n 1, 1) := by decide +kernel
theorem dc_BR_appendInteger_14 : decode prog_2_method_6_code 14 = .ok (.bipush 8, 2) := by decide +kernel
theorem dc_BR_appendInteger_16 : decode prog_2_method_6_code 16 = .ok (.iload_n 3, 1) := by decide +kernel
theorem dc_BR_appendInteger_17 : decode prog_2_method_6_code 17 = .ok (.imul, 1) := by decide +kernel
theorem dc_BR_appendInteger_18 : decode prog_2_method_6_code 18 = .ok (.iconst 1, 1) := by decide +kernel
theorem dc_BR_appendInteger_19 : decode prog_2_method_6_code 19 = .ok (.isub, 1) := by decide +kernel
theorem dc_BR_appendInteger_20 : decode prog_2_method_6_code 20 = .ok (.iushr, 1) := by decide +kernel
theorem dc_BR_appendInteger_21 : decode prog_2_method_6_code 21 = .ok (.ifCond .eq 9, 3) := by decide +kernel
theorem dc_BR_appendInteger_24 : decode prog_2_method_6_code 24 = .ok (.iinc 3 1, 3) := by decide +kernel
theorem dc_BR_appendInteger_27 : decode prog_2_method_6_code 27 = .ok (.goto (-19), 3) := by decide +kernel
theorem dc_BR_appendInteger_30 : decode prog_2_method_6_code 30 = .ok (.iload_n 3, 1) := by decide +kernel
theorem dc_BR_appendInteger_31 : decode prog_2_method_6_code 31 = .ok (.iconst 1, 1) := by decide +kernel
theorem dc_BR_appendInteger_32 : decode prog_2_method_6_code 32 = .ok (.isub, 1) := by decide +kernel
theorem dc_BR_appendInteger_33 : decode prog_2_method_6_code 33 = .ok (.istore 4, 2) := by decide +kernel
theorem dc_BR_appendInteger_35 : decode prog_2_method_6_code 35 = .ok (.iload 4, 2) := by decide +kernel
theorem dc_BR_appendInteger_37 : decode prog_2_method_6_code 37 = .ok (.ifCond .lt 25, 3) := by decide +kernel
theorem dc_BR_appendInteger_40 : decode prog_2_method_6_code 40 = .ok (.aload_n 0, 1) := by decide +kernel
theorem dc_BR_appendInteger_41 : decode prog_2_method_6_code 41 = .ok (.iload_n 1, 1) := by decide +kernel
theorem dc_BR_appendInteger_42 : decode prog_2_method_6_code 42 = .ok (.bipush 8, 2) := by decide +kernel
theorem dc_BR_appendInteger_44 : decode prog_2_method_6_code 44 = .ok (.iload 4, 2) := by decide +kernel
theorem dc_BR_appendInteger_46 : decode prog_2_method_6_code 46 = .ok (.imul, 1) := by decide +kernel
theorem dc_BR_appendInteger_47 : decode prog_2_method_6_code 47 = .ok (.iushr, 1) := by decide +kernel
theorem dc_BR_appendInteger_48 : decode prog_2_method_6_code 48 = .ok (.sipush 255, 3) := by decide +kernel
theorem dc_BR_appendInteger_51 : decode prog_2_method_6_code 51 = .ok (.iand, 1) := by decide +kernel
theorem dc_BR_appendInteger_52 : decode prog_2_method_6_code 52 = .ok (.invokevirtual 20, 3) := by decide +kernel
theorem dc_BR_appendInteger_55 : decode prog_2_method_6_code 55 = .ok (.pop, 1) := by decide +kernel
theorem dc_BR_appendInteger_56 : decode prog_2_method_6_code 56 = .ok (.iinc 4 (-1), 3) := by decide +kernel
theorem dc_BR_appendInteger_59 : decode prog_2_method_6_code 59 = .ok (.goto (-24), 3) := by decide +kernel
theorem dc_BR_appendInteger_62 : decode prog_2_method_6_code 62 = .ok (.aload_n 0, 1) := by decide +kernel
theorem dc_BR_appendInteger_63 : decode prog_2_method_6_code 63 = .ok (.iload_n 2, 1) := by decide +kernel
theorem dc_BR_appendInteger_64 : decode prog_2_method_6_code 64 = .ok (.invokevirtual 24, 3) := by decide +kernel
theorem dc_BR_appendInteger_67 : decode prog_2_method_6_code 67 = .ok (.return_, 1) := by decide +kernel
theorem dc_BR_appendTrue_0 : decode prog_2_method_7_code 0 = .ok (.aload_n 0, 1) := by decide +kernel
theorem dc_BR_appendTrue_1 : decode prog_2_method_7_code 1 = .ok (.iconst 1, 1) := by decide +kernel
theorem dc_BR_appendTrue_2 : decode prog_2_method_7_code 2 = .ok (.invokevirtual 20, 3) := by decide +kernel
theorem dc_BR_appendTrue_5 : decode prog_2_method_7_code 5 = .ok (.istore_n 1, 1) := by decide +kernel
theorem dc_BR_appendTrue_6 : decode prog_2_method_7_code 6 = .ok (.aload_n 0, 1) := by decide +kernel
theorem dc_BR_appendTrue_7 : decode prog_2_method_7_code 7 = .ok (.sipush 255, 3) := by decide +kernel
theorem dc_BR_appendTrue_10 : decode prog_2_method_7_code 10 = .ok (.invokevirtual 20, 3) := by decide +kernel
theorem dc_BR_appendTrue_13 : decode prog_2_method_7_code 13 = .ok (.pop, 1) := by decide +kernel
theorem dc_BR_appendTrue_14 : decode prog_2_method_7_code 14 = .ok (.aload_n 0, 1) := by decide +kernel
theorem dc_BR_appendTrue_15 : decode prog_2_method_7_code 15 = .ok (.iload_n 1, 1) := by decide +kernel
theorem dc_BR_appendTrue_16 : decode prog_2_method_7_code 16 = .ok (.invokevirtual 24, 3) := by decide +kernel
theorem dc_BR_appendTrue_19 : decode prog_2_method_7_code 19 = .ok (.return_, 1) := by decide +kernel
theorem dc_RD_init_0 : decode prog_7_method_1_code 0 = .ok (.aload_n 0, 1) := by decide +kernel
theorem dc_RD_init_1 : decode prog_7_method_1_code 1 = .ok (.invokespecial 3, 3) := by decide +kernel
theorem dc_RD_init_4 : decode prog_7_method_1_code 4 = .ok (.aload_n 0, 1) := by decide +kernel
theorem dc_RD_init_5 : decode prog_7_method_1_code 5 = .ok (.new 9, 3) := by decide +kernel
theorem dc_RD_init_8 : decode prog_7_method_1_code 8 = .ok (.dup, 1) := by decide +kernel
theorem dc_RD_init_9 : decode prog_7_method_1_code 9 = .ok (.invokespecial 11, 3) := by decide +kernel
theorem dc_RD_init_12 : decode prog_7_method_1_code 12 = .ok (.putfield 12, 3) := by decide +kernel
theorem dc_RD_init_15 : decode prog_7_method_1_code 15 = .ok (.aload_n 0, 1) := by decide +kernel
theorem dc_RD_init_16 : decode prog_7_method_1_code 16 = .ok (.bipush 11, 2) := by decide +kernel
theorem dc_RD_init_18 : decode prog_7_method_1_code 18 = .ok (.newarray .int, 2) := by decide +kernel
theorem dc_RD_init_20 : decode prog_7_method_1_code 20 = .ok (.putfield 18, 3) := by decide +kernel
theorem dc_RD_init_23 : decode prog_7_method_1_code 23 = .ok (.aload_n 0, 1) := by decide +kernel
theorem dc_RD_init_24 : decode prog_7_method_1_code 24 = .ok (.iconst 0, 1) := by decide +kernel
theorem dc_RD_init_25 : decode prog_7_method_1_code 25 = .ok (.putfield 22, 3) := by decide +kernel
theorem dc_RD_init_28 : decode prog_7_method_1_code 28 = .ok (.aload_n 0, 1) := by decide +kernel
theorem dc_RD_init_29 : decode prog_7_method_1_code 29 = .ok (.iconst 0, 1) := by decide +kernel
theorem dc_RD_init_30 : decode prog_7_method_1_code 30 = .ok (.putfield 26, 3) := by decide +kernel
theorem dc_RD_init_33 : decode prog_7_method_1_code 33 = .ok (.aload_n 0, 1) := by decide +kernel
theorem dc_RD_init_34 : decode prog_7_method_1_code 34 = .ok (.iconst 0, 1) := by decide +kernel
theorem dc_RD_init_35 : decode prog_7_method_1_code 35 = .ok (.putfield 29, 3) := by decide +kernel
theorem dc_RD_init_38 : decode prog_7_method_1_code 38 = .ok (.return_, 1) := by decide +kernel
theorem dc_RD_start_0 : decode prog_7_method_2_code 0 = .ok (.aload_n 0, 1) := by decide +kernel
theorem dc_RD_start_1 : decode prog_7_method_2_code 1 = .ok (.iconst 0, 1) := by decide +kernel
theorem dc_RD_start_2 : decode prog_7_method_2_code 2 = .ok (.putfield 22, 3) := by decide +kernel
theorem dc_RD_start_5 : decode prog_7_method_2_code 5 = .ok (.aload_n 0, 1) := by decide +kernel
theorem dc_RD_start_6 : decode prog_7_method_2_code 6 = .ok (.getfield 18, 3) := by decide +kernel
theorem dc_RD_start_9 : decode prog_7_method_2_code 9 = .ok (.iconst 0, 1) := by decide +kernel
theorem dc_RD_start_10 : decode prog_7_method_2_code 10 = .ok (.aload_n 0, 1) := by decide +kernel
theorem dc_RD_start_11 : decode prog_7_method_2_code 11 = .ok (.getfield 12, 3) := by decide +kernel
theorem dc_RD_start_14 : decode prog_7_method_2_code 14 = .ok (.getfield 33, 3) := by decide +kernel
theorem dc_RD_start_17 : decode prog_7_method_2_code 17 = .ok (.iastore, 1) := by decide +kernel
theorem dc_RD_start_18 : decode prog_7_method_2_code 18 = .ok (.aload_n 0, 1) := by decide +kernel
theorem dc_RD_start_19 : decode prog_7_method_2_code 19 = .ok (.iconst 0, 1) := by decide +kernel
theorem dc_RD_start_20 : decode prog_7_method_2_code 20 = .ok (.putfield 26, 3) := by decide +kernel
theorem dc_RD_start_23 : decode prog_7_method_2_code 23 = .ok (.aload_n 0, 1) := by decide +kernel
theorem dc_RD_start_24 : decode prog_7_method_2_code 24 = .ok (.iconst 1, 1) := by decide +kernel
theorem dc_RD_start_25 : decode prog_7_method_2_code 25 = .ok (.putfield 29, 3) := by decide +kernel
theorem dc_RD_start_28 : decode prog_7_method_2_code 28 = .ok (.return_, 1) := by decide +kernel
theorem dc_RD_refuse_0 : decode prog_7_method_3_code 0 = .ok (.aload_n 0, 1) := by decide +kernel
theorem dc_RD_refuse_1 : decode prog_7_method_3_code 1 = .ok (.iconst 0, 1) := by decide +kernel
theorem dc_RD_refuse_2 : decode prog_7_method_3_code 2 = .ok (.putfield 29, 3) := by decide +kernel
theorem dc_RD_refuse_5 : decode prog_7_method_3_code 5 = .ok (.return_, 1) := by decide +kernel
theorem dc_RD_isAtEndOfRow_0 : decode prog_7_method_4_code 0 = .ok (.aload_n 0, 1) := by decide +kernel
theorem dc_RD_isAtEndOfRow_1 : decode prog_7_method_4_code 1 = .ok (.getfield 29, 3) := by decide +kernel
theorem dc_RD_isAtEndOfRow_4 : decode prog_7_method_4_code 4 = .ok (.ifCond .eq 27, 3) := by decide +kernel
theorem dc_RD_isAtEndOfRow_7 : decode prog_7_method_4_code 7 = .ok (.aload_n 0, 1) := by decide +kernel
theorem dc_RD_isAtEndOfRow_8 : decode prog_7_method_4_code 8 = .ok (.getfield 22, 3) := by decide +kernel
theorem dc_RD_isAtEndOfRow_11 : decode prog_7_method_4_code 11 = .ok (.ifCond .ne 20, 3) := by decide +kernel
theorem dc_RD_isAtEndOfRow_14 : decode prog_7_method_4_code 14 = .ok (.aload_n 0, 1) := by decide +kernel
theorem dc_RD_isAtEndOfRow_15 : decode prog_7_method_4_code 15 = .ok (.getfield 26, 3) := by decide +kernel
theorem dc_RD_isAtEndOfRow_18 : decode prog_7_method_4_code 18 = .ok (.aload_n 0, 1) := by decide +kernel
theorem dc_RD_isAtEndOfRow_19 : decode prog_7_method_4_code 19 = .ok (.getfield 18, 3) := by decide +kernel
theorem dc_RD_isAtEndOfRow_22 : decode prog_7_method_4_code 22 = .ok (.iconst 0, 1) := by decide +kernel
theorem dc_RD_isAtEndOfRow_23 : decode prog_7_method_4_code 23 = .ok (.iaload, 1) := by decide +kernel
theorem dc_RD_isAtEndOfRow_24 : decode prog_7_method_4_code 24 = .ok (.if_icmp .ne 7, 3) := by decide +kernel
theorem dc_RD_isAtEndOfRow_27 : decode prog_7_method_4_code 27 = .ok (.iconst 1, 1) := by decide +kernel
theorem dc_RD_isAtEndOfRow_28 : decode prog_7_method_4_code 28 = .ok (.goto 4, 3) := by decide +kernel
theorem dc_RD_isAtEndOfRow_31 : decode prog_7_method_4_code 31 = .ok (.iconst 0, 1) := by decide +kernel
theorem dc_RD_isAtEndOfRow_32 : decode prog_7_method_4_code 32 = .ok (.ireturn, 1) := by decide +kernel
theorem dc_RD_remaining_0 : decode prog_7_method_5_code 0 = .ok (.aload_n 0, 1) := by decide +kernel
theorem dc_RD_remaining_1 : decode prog_7_method_5_code 1 = .ok (.getfield 29, 3) := by decide +kernel
theorem dc_RD_remaining_4 : decode prog_7_method_5_code 4 = .ok (.ifCond .eq 20, 3) := by decide +kernel
theorem dc_RD_remaining_7 : decode prog_7_method_5_code 7 = .ok (.aload_n 0, 1) := by decide +kernel
theorem dc_RD_remaining_8 : decode prog_7_method_5_code 8 = .ok (.getfield 18, 3) := by decide +kernel
theorem dc_RD_remaining_11 : decode prog_7_method_5_code 11 = .ok (.aload_n 0, 1) := by decide +kernel
theorem dc_RD_remaining_12 : decode prog_7_method_5_code 12 = .ok (.getfield 22, 3) := by decide +kernel
theorem dc_RD_remaining_15 : decode prog_7_method_5_code 15 = .ok (.iaload, 1) := by decide +kernel
theorem dc_RD_remaining_16 : decode prog_7_method_5_code 16 = .ok (.aload_n 0, 1) := by decide +kernel
theorem dc_RD_remaining_17 : decode prog_7_method_5_code 17 = .ok (.getfield 26, 3) := by decide +kernel
theorem dc_RD_remaining_20 : decode prog_7_method_5_code 20 = .ok (.isub, 1) := by decide +kernel
theorem dc_RD_remaining_21 : decode prog_7_method_5_code 21 = .ok (.goto 4, 3) := by decide +kernel
theorem dc_RD_remaining_24 : decode prog_7_method_5_code 24 = .ok (.iconst 0, 1) := by decide +kernel
theorem dc_RD_remaining_25 : decode prog_7_method_5_code 25 = .ok (.ireturn, 1) := by decide +kernel
theorem dc_RD_hashSince_0 : decode prog_7_method_6_code 0 = .ok (.aload_n 0, 1) := by decide +kernel
theorem dc_RD_hashSince_1 : decode prog_7_method_6_code 1 = .ok (.getfield 12, 3) := by decide +kernel
theorem dc_RD_hashSince_4 : decode prog_7_method_6_code 4 = .ok (.iload_n 1, 1) := by decide +kernel
theorem dc_RD_hashSince_5 : decode prog_7_method_6_code 5 = .ok (.aload_n 0, 1) := by decide +kernel
theorem dc_RD_hashSince_6 : decode prog_7_method_6_code 6 = .ok (.getfield 26, 3) := by decide +kernel
theorem dc_RD_hashSince_9 : decode prog_7_method_6_code 9 = .ok (.invokevirtual 36, 3) := by decide +kernel
theorem dc_RD_hashSince_12 : decode prog_7_method_6_code 12 = .ok (.ireturn, 1) := by decide +kernel
theorem dc_RD_nextIs_0 : decode prog_7_method_7_code 0 = .ok (.aload_n 0, 1) := by decide +kernel
theorem dc_RD_nextIs_1 : decode prog_7_method_7_code 1 = .ok (.getfield 29, 3) := by decide +kernel
theorem dc_RD_nextIs_4 : decode prog_7_method_7_code 4 = .ok (.ifCond .eq 39, 3) := by decide +kernel
theorem dc_RD_nextIs_7 : decode prog_7_method_7_code 7 = .ok (.aload_n 0, 1) := by decide +kernel
theorem dc_RD_nextIs_8 : decode prog_7_method_7_code 8 = .ok (.getfield 26, 3) := by decide +kernel
theorem dc_RD_nextIs_11 : decode prog_7_method_7_code 11 = .ok (.aload_n 0, 1) := by decide +kernel
theorem dc_RD_nextIs_12 : decode prog_7_method_7_code 12 = .ok (.getfield 18, 3) := by decide +kernel
theorem dc_RD_nextIs_15 : decode prog_7_method_7_code 15 = .ok (.aload_n 0, 1) := by decide +kernel
theorem dc_RD_nextIs_16 : decode prog_7_method_7_code 16 = .ok (.getfield 22, 3) := by decide +kernel
theorem dc_RD_nextIs_19 : decode prog_7_method_7_code 19 = .ok (.iaload, 1) := by decide +kernel
theorem dc_RD_nextIs_20 : decode prog_7_method_7_code 20 = .ok (.if_icmp .ge 23, 3) := by decide +kernel
theorem dc_RD_nextIs_23 : decode prog_7_method_7_code 23 = .ok (.aload_n 0, 1) := by decide +kernel
theorem dc_RD_nextIs_24 : decode prog_7_method_7_code 24 = .ok (.getfield 12, 3) := by decide +kernel
theorem dc_RD_nextIs_27 : decode prog_7_method_7_code 27 = .ok (.getfield 40, 3) := by decide +kernel
theorem dc_RD_nextIs_30 : decode prog_7_method_7_code 30 = .ok (.aload_n 0, 1) := by decide +kernel
theorem dc_RD_nextIs_31 : decode prog_7_method_7_code 31 = .ok (.getfield 26, 3) := by decide +kernel
theorem dc_RD_nextIs_34 : decode prog_7_method_7_code 34 = .ok (.iaload, 1) := by decide +kernel
theorem dc_RD_nextIs_35 : decode prog_7_method_7_code 35 = .ok (.iload_n 1, 1) := by decide +kernel
theorem dc_RD_nextIs_36 : decode prog_7_method_7_code 36 = .ok (.if_icmp .ne 7, 3) := by decide +kernel
theorem dc_RD_nextIs_39 : decode prog_7_method_7_code 39 = .ok (.iconst 1, 1) := by decide +kernel
theorem dc_RD_nextIs_40 : decode prog_7_method_7_code 40 = .ok (.goto 4, 3) := by decide +kernel
theorem dc_RD_nextIs_43 : decode prog_7_method_7_code 43 = .ok (.iconst 0, 1) := by decide +kernel
theorem dc_RD_nextIs_44 : decode prog_7_method_7_code 44 = .ok (.ireturn, 1) := by decide +kernel
theorem dc_RD_readByte_0 : decode prog_7_method_8_code 0 = .ok (.aload_n 0, 1) := by decide +kernel
theorem dc_RD_readByte_1 : decode prog_7_method_8_code 1 = .ok (.getfield 29, 3) := by decide +kernel
theorem dc_RD_readByte_4 : decode prog_7_method_8_code 4 = .ok (.ifCond .eq 19, 3) := by decide +kernel
theorem dc_RD_readByte_7 : decode prog_7_method_8_code 7 = .ok (.aload_n 0, 1) := by decide +kernel
theorem dc_RD_readByte_8 : decode prog_7_method_8_code 8 = .ok (.getfield 26, 3) := by decide +kernel
theorem dc_RD_readByte_11 : decode prog_7_method_8_code 11 = .ok (.aload_n 0, 1) := by decide +kernel
theorem dc_RD_readByte_12 : decode prog_7_method_8_code 12 = .ok (.getfield 18, 3) := by decide +kernel
theorem dc_RD_readByte_15 : decode prog_7_method_8_code 15 = .ok (.aload_n 0, 1) := by decide +kernel
theorem dc_RD_readByte_16 : decode prog_7_method_8_code 16 = .ok (.getfield 22, 3) := by decide +kernel
theorem dc_RD_readByte_19 : decode prog_7_method_8_code 19 = .ok (.iaload, 1) := by decide +kernel
theorem dc_RD_readByte_20 : decode prog_7_method_8_code 20 = .ok (.if_icmp .lt 10, 3) := by decide +kernel
theorem dc_RD_readByte_23 : decode prog_7_method_8_code 23 = .ok (.aload_n 0, 1) := by decide +kernel
theorem dc_RD_readByte_24 : decode prog_7_method_8_code 24 = .ok (.iconst 0, 1) := by decide +kernel
theorem dc_RD_readByte_25 : decode prog_7_method_8_code 25 = .ok (.putfield 29, 3) := by decide +kernel
theorem dc_RD_readByte_28 : decode prog_7_method_8_code 28 = .ok (.iconst 0, 1) := by decide +kernel
theorem dc_RD_readByte_29 : decode prog_7_method_8_code 29 = .ok (.ireturn, 1) := by decide +kernel
theorem dc_RD_readByte_30 : decode prog_7_method_8_code 30 = .ok (.aload_n 0, 1) := by decide +kernel
theorem dc_RD_readByte_31 : decode prog_7_method_8_code 31 = .ok (.dup, 1) := by decide +kernel
theorem dc_RD_readByte_32 : decode prog_7_method_8_code 32 = .ok (.getfield 26, 3) := by decide +kernel
theorem dc_RD_readByte_35 : decode prog_7_method_8_code 35 = .ok (.iconst 1, 1) := by decide +kernel
theorem dc_RD_readByte_36 : decode prog_7_method_8_code 36 = .ok (.iadd, 1) := by decide +kernel
theorem dc_RD_readByte_37 : decode prog_7_method_8_code 37 = .ok (.putfield 26, 3) := by decide +kernel
theorem dc_RD_readByte_40 : decode prog_7_method_8_code 40 = .ok (.aload_n 0, 1) := by decide +kernel
theorem dc_RD_readByte_41 : decode prog_7_method_8_code 41 = .ok (.getfield 12, 3) := by decide +kernel
theorem dc_RD_readByte_44 : decode prog_7_method_8_code 44 = .ok (.getfield 40, 3) := by decide +kernel
theorem dc_RD_readByte_47 : decode prog_7_method_8_code 47 = .ok (.aload_n 0, 1) := by decide +kernel
theorem dc_RD_readByte_48 : decode prog_7_method_8_code 48 = .ok (.getfield 26, 3) := by decide +kernel
theorem dc_RD_readByte_51 : decode prog_7_method_8_code 51 = .ok (.iconst 1, 1) := by decide +kernel
theorem dc_RD_readByte_52 : decode prog_7_method_8_code 52 = .ok (.isub, 1) := by decide +kernel
theorem dc_RD_readByte_53 : decode prog_7_method_8_code 53 = .ok (.iaload, 1) := by decide +kernel
theorem dc_RD_readByte_54 : decode prog_7_method_8_code 54 = .ok (.ireturn, 1) := by decide +kernel
theorem dc_RD_open_0 : decode prog_7_method_9_code 0 = .ok (.aload_n 0, 1) := by decide +kernel
theorem dc_RD_open_1 : decode prog_7_method_9_code 1 = .ok (.getfield 18, 3) := by decide +kernel
theorem dc_RD_open_4 : decode prog_7_method_9_code 4 = .ok (.aload_n 0, 1) := by decide +kernel
theorem dc_RD_open_5 : decode prog_7_method_9_code 5 = .ok (.getfield 22, 3) := by decide +kernel
theorem dc_RD_open_8 : decode prog_7_method_9_code 8 = .ok (.iaload, 1) := by decide +kernel
theorem dc_RD_open_9 : decode prog_7_method_9_code 9 = .ok (.istore_n 2, 1) := by decide +kernel
theorem dc_RD_open_10 : decode prog_7_method_9_code 10 = .ok (.aload_n 0, 1) := by decide +kernel
theorem dc_RD_open_11 : decode prog_7_method_9_code 11 = .ok (.getfield 29, 3) := by decide +kernel
theorem dc_RD_open_14 : decode prog_7_method_9_code 14 = .ok (.ifCond .eq 43, 3) := by decide +kernel
theorem dc_RD_open_17 : decode prog_7_method_9_code 17 = .ok (.aload_n 0, 1) := by decide +kernel
theorem dc_RD_open_18 : decode prog_7_method_9_code 18 = .ok (.getfield 22, 3) := by decide +kernel
theorem dc_RD_open_21 : decode prog_7_method_9_code 21 = .ok (.iconst 1, 1) := by decide +kernel
theorem dc_RD_open_22 : decode prog_7_method_9_code 22 = .ok (.iadd, 1) := by decide +kernel
theorem dc_RD_open_23 : decode prog_7_method_9_code 23 = .ok (.aload_n 0, 1) := by decide +kernel
theorem dc_RD_open_24 : decode prog_7_method_9_code 24 = .ok (.getfield 18, 3) := by decide +kernel
theorem dc_RD_open_27 : decode prog_7_method_9_code 27 = .ok (.arraylength, 1) := by decide +kernel
theorem dc_RD_open_28 : decode prog_7_method_9_code 28 = .ok (.if_icmp .ge 29, 3) := by decide +kernel
theorem dc_RD_open_31 : decode prog_7_method_9_code 31 = .ok (.iload_n 2, 1) := by decide +kernel
theorem dc_RD_open_32 : decode prog_7_method_9_code 32 = .ok (.aload_n 0, 1) := by decide +kernel
theorem dc_RD_open_33 : decode prog_7_method_9_code 33 = .ok (.getfield 26, 3) := by decide +kernel
theorem dc_RD_open_36 : decode prog_7_method_9_code 36 = .ok (.isub, 1) := by decide +kernel
theorem dc_RD_open_37 : decode prog_7_method_9_code 37 = .ok (.iconst 2, 1) := by decide +kernel
theorem dc_RD_open_38 : decode prog_7_method_9_code 38 = .ok (.if_icmp .lt 19, 3) := by decide +kernel
theorem dc_RD_open_41 : decode prog_7_method_9_code 41 = .ok (.aload_n 0, 1) := by decide +kernel
theorem dc_RD_open_42 : decode prog_7_method_9_code 42 = .ok (.getfield 12, 3) := by decide +kernel
theorem dc_RD_open_45 : decode prog_7_method_9_code 45 = .ok (.getfield 40, 3) := by decide +kernel
theorem dc_RD_open_48 : decode prog_7_method_9_code 48 = .ok (.aload_n 0, 1) := by decide +kernel
theorem dc_RD_open_49 : decode prog_7_method_9_code 49 = .ok (.getfield 26, 3) := by decide +kernel
theorem dc_RD_open_52 : decode prog_7_method_9_code 52 = .ok (.iaload, 1) := by decide +kernel
theorem dc_RD_open_53 : decode prog_7_method_9_code 53 = .ok (.iload_n 1, 1) := by decide +kernel
theorem dc_RD_open_54 : decode prog_7_method_9_code 54 = .ok (.if_icmp .eq 9, 3) := by decide +kernel
theorem dc_RD_open_57 : decode prog_7_method_9_code 57 = .ok (.aload_n 0, 1) := by decide +kernel
theorem dc_RD_open_58 : decode prog_7_method_9_code 58 = .ok (.iconst 0, 1) := by decide +kernel
theorem dc_RD_open_59 : decode prog_7_method_9_code 59 = .ok (.putfield 29, 3) := by decide +kernel
theorem dc_RD_open_62 : decode prog_7_method_9_code 62 = .ok (.return_, 1) := by decide +kernel
theorem dc_RD_open_63 : decode prog_7_method_9_code 63 = .ok (.aload_n 0, 1) := by decide +kernel
theorem dc_RD_open_64 : decode prog_7_method_9_code 64 = .ok (.getfield 12, 3) := by decide +kernel
theorem dc_RD_open_67 : decode prog_7_method_9_code 67 = .ok (.getfield 40, 3) := by decide +kernel
theorem dc_RD_open_70 : decode prog_7_method_9_code 70 = .ok (.aload_n 0, 1) := by decide +kernel
theorem dc_RD_open_71 : decode prog_7_method_9_code 71 = .ok (.getfield 26, 3) := by decide +kernel
theorem dc_RD_open_74 : decode prog_7_method_9_code 74 = .ok (.iconst 1, 1) := by decide +kernel
theorem dc_RD_open_75 : decode prog_7_method_9_code 75 = .ok (.iadd, 1) := by decide +kernel
theorem dc_RD_open_76 : decode prog_7_method_9_code 76 = .ok (.iaload, 1) := by decide +kernel
theorem dc_RD_open_77 : decode prog_7_method_9_code 77 = .ok (.istore_n 3, 1) := by decide +kernel
theorem dc_RD_open_78 : decode prog_7_method_9_code 78 = .ok (.aload_n 0, 1) := by decide +kernel
theorem dc_RD_open_79 : decode prog_7_method_9_code 79 = .ok (.getfield 26, 3) := by decide +kernel
theorem dc_RD_open_82 : decode prog_7_method_9_code 82 = .ok (.iconst 2, 1) := by decide +kernel
theorem dc_RD_open_83 : decode prog_7_method_9_code 83 = .ok (.iadd, 1) := by decide +kernel
theorem dc_RD_open_84 : decode prog_7_method_9_code 84 = .ok (.istore 4, 2) := by decide +kernel
theorem dc_RD_open_86 : decode prog_7_method_9_code 86 = .ok (.iload_n 3, 1) := by decide +kernel
theorem dc_RD_open_87 : decode prog_7_method_9_code 87 = .ok (.bipush 127, 2) := by decide +kernel
theorem dc_RD_open_89 : decode prog_7_method_9_code 89 = .ok (.if_icmp .le 51, 3) := by decide +kernel
theorem dc_RD_open_92 : decode prog_7_method_9_code 92 = .ok (.iload_n 3, 1) := by decide +kernel
theorem dc_RD_open_93 : decode prog_7_method_9_code 93 = .ok (.sipush 129, 3) := by decide +kernel
theorem dc_RD_open_96 : decode prog_7_method_9_code 96 = .ok (.if_icmp .ne 24, 3) := by decide +kernel
theorem dc_RD_open_99 : decode prog_7_method_9_code 99 = .ok (.iload 4, 2) := by decide +kernel
theorem dc_RD_open_101 : decode prog_7_method_9_code 101 = .ok (.iload_n 2, 1) := by decide +kernel
theorem dc_RD_open_102 : decode prog_7_method_9_code 102 = .ok (.if_icmp .ge 18, 3) := by decide +kernel
theorem dc_RD_open_105 : decode prog_7_method_9_code 105 = .ok (.aload_n 0, 1) := by decide +kernel
theorem dc_RD_open_106 : decode prog_7_method_9_code 106 = .ok (.getfield 12, 3) := by decide +kernel
theorem dc_RD_open_109 : decode prog_7_method_9_code 109 = .ok (.getfield 40, 3) := by decide +kernel
theorem dc_RD_open_112 : decode prog_7_method_9_code 112 = .ok (.iload 4, 2) := by decide +kernel
theorem dc_RD_open_114 : decode prog_7_method_9_code 114 = .ok (.iaload, 1) := by decide +kernel
theorem dc_RD_open_115 : decode prog_7_method_9_code 115 = .ok (.bipush 127, 2) := by decide +kernel
theorem dc_RD_open_117 : decode prog_7_method_9_code 117 = .ok (.if_icmp .gt 9, 3) := by decide +kernel
theorem dc_RD_open_120 : decode prog_7_method_9_code 120 = .ok (.aload_n 0, 1) := by decide +kernel
theorem dc_RD_open_121 : decode prog_7_method_9_code 121 = .ok (.iconst 0, 1) := by decide +kernel
theorem dc_RD_open_122 : decode prog_7_method_9_code 122 = .ok (.putfield 29, 3) := by decide +kernel
theorem dc_RD_open_125 : decode prog_7_method_9_code 125 = .ok (.return_, 1) := by decide +kernel
theorem dc_RD_open_126 : decode prog_7_method_9_code 126 = .ok (.aload_n 0, 1) := by decide +kernel
theorem dc_RD_open_127 : decode prog_7_method_9_code 127 = .ok (.getfield 12, 3) := by decide +kernel
theorem dc_RD_open_130 : decode prog_7_method_9_code 130 = .ok (.getfield 40, 3) := by decide +kernel
theorem dc_RD_open_133 : decode prog_7_method_9_code 133 = .ok (.iload 4, 2) := by decide +kernel
theorem dc_RD_open_135 : decode prog_7_method_9_code 135 = .ok (.iaload, 1) := by decide +kernel
theorem dc_RD_open_136 : decode prog_7_method_9_code 136 = .ok (.istore_n 3, 1) := by decide +kernel
theorem dc_RD_open_137 : decode prog_7_method_9_code 137 = .ok (.iinc 4 1, 3) := by decide +kernel
theorem dc_RD_open_140 : decode prog_7_method_9_code 140 = .ok (.iload_n 3, 1) := by decide +kernel
theorem dc_RD_open_141 : decode prog_7_method_9_code 141 = .ok (.iload_n 2, 1) := by decide +kernel
theorem dc_RD_open_142 : decode prog_7_method_9_code 142 = .ok (.iload 4, 2) := by decide +kernel
theorem dc_RD_open_144 : decode prog_7_method_9_code 144 = .ok (.isub, 1) := by decide +kernel
theorem dc_RD_open_145 : decode prog_7_method_9_code 145 = .ok (.if_icmp .le 9, 3) := by decide +kernel
theorem dc_RD_open_148 : decode prog_7_method_9_code 148 = .ok (.aload_n 0, 1) := by decide +kernel
theorem dc_RD_open_149 : decode prog_7_method_9_code 149 = .ok (.iconst 0, 1) := by decide +kernel
theorem dc_RD_open_150 : decode prog_7_method_9_code 150 = .ok (.putfield 29, 3) := by decide +kernel
theorem dc_RD_open_153 : decode prog_7_method_9_code 153 = .ok (.return_, 1) := by decide +kernel
theorem dc_RD_open_154 : decode prog_7_method_9_code 154 = .ok (.aload_n 0, 1) := by decide +kernel
theorem dc_RD_open_155 : decode prog_7_method_9_code 155 = .ok (.iload 4, 2) := by decide +kernel
theorem dc_RD_open_157 : decode prog_7_method_9_code 157 = .ok (.putfield 26, 3) := by decide +kernel
theorem dc_RD_open_160 : decode prog_7_method_9_code 160 = .ok (.aload_n 0, 1) := by decide +kernel
theorem dc_RD_open_161 : decode prog_7_method_9_code 161 = .ok (.dup, 1) := by decide +kernel
theorem dc_RD_open_162 : decode prog_7_method_9_code 162 = .ok (.getfield 22, 3) := by decide +kernel
theorem dc_RD_open_165 : decode prog_7_method_9_code 165 = .ok (.iconst 1, 1) := by decide +kernel
theorem dc_RD_open_166 : decode prog_7_method_9_code 166 = .ok (.iadd, 1) := by decide +kernel
theorem dc_RD_open_167 : decode prog_7_method_9_code 167 = .ok (.putfield 22, 3) := by decide +kernel
theorem dc_RD_open_170 : decode prog_7_method_9_code 170 = .ok (.aload_n 0, 1) := by decide +kernel
theorem dc_RD_open_171 : decode prog_7_method_9_code 171 = .ok (.getfield 18, 3) := by decide +kernel
theorem dc_RD_open_174 : decode prog_7_method_9_code 174 = .ok (.aload_n 0, 1) := by decide +kernel
theorem dc_RD_open_175 : decode prog_7_method_9_code 175 = .ok (.getfield 22, 3) := by decide +kernel
theorem dc_RD_open_178 : decode prog_7_method_9_code 178 = .ok (.iload 4, 2) := by decide +kernel
theorem dc_RD_open_180 : decode prog_7_method_9_code 180 = .ok (.iload_n 3, 1) := by decide +kernel
theorem dc_RD_open_181 : decode prog_7_method_9_code 181 = .ok (.iadd, 1) := by decide +kernel
theorem dc_RD_open_182 : decode prog_7_method_9_code 182 = .ok (.iastore, 1) := by decide +kernel
theorem dc_RD_open_183 : decode prog_7_method_9_code 183 = .ok (.return_, 1) := by decide +kernel
theorem dc_RD_close_0 : decode prog_7_method_10_code 0 = .ok (.aload_n 0, 1) := by decide +kernel
theorem dc_RD_close_1 : decode prog_7_method_10_code 1 = .ok (.getfield 29, 3) := by decide +kernel
theorem dc_RD_close_4 : decode prog_7_method_10_code 4 = .ok (.ifCond .eq 26, 3) := by decide +kernel
theorem dc_RD_close_7 : decode prog_7_method_10_code 7 = .ok (.aload_n 0, 1) := by decide +kernel
theorem dc_RD_close_8 : decode prog_7_method_10_code 8 = .ok (.getfield 22, 3) := by decide +kernel
theorem dc_RD_close_11 : decode prog_7_method_10_code 11 = .ok (.ifCond .eq 19, 3) := by decide +kernel
theorem dc_RD_close_14 : decode prog_7_method_10_code 14 = .ok (.aload_n 0, 1) := by decide +kernel
theorem dc_RD_close_15 : decode prog_7_method_10_code 15 = .ok (.getfield 26, 3) := by decide +kernel
theorem dc_RD_close_18 : decode prog_7_method_10_code 18 = .ok (.aload_n 0, 1) := by decide +kernel
theorem dc_RD_close_19 : decode prog_7_method_10_code 19 = .ok (.getfield 18, 3) := by decide +kernel
theorem dc_RD_close_22 : decode prog_7_method_10_code 22 = .ok (.aload_n 0, 1) := by decide +kernel
theorem dc_RD_close_23 : decode prog_7_method_10_code 23 = .ok (.getfield 22, 3) := by decide +kernel
theorem dc_RD_close_26 : decode prog_7_method_10_code 26 = .ok (.iaload, 1) := by decide +kernel
theorem dc_RD_close_27 : decode prog_7_method_10_code 27 = .ok (.if_icmp .eq 9, 3) := by decide +kernel
theorem dc_RD_close_30 : decode prog_7_method_10_code 30 = .ok (.aload_n 0, 1) := by decide +kernel
theorem dc_RD_close_31 : decode prog_7_method_10_code 31 = .ok (.iconst 0, 1) := by decide +kernel
theorem dc_RD_close_32 : decode prog_7_method_10_code 32 = .ok (.putfield 29, 3) := by decide +kernel
theorem dc_RD_close_35 : decode prog_7_method_10_code 35 = .ok (.return_, 1) := by decide +kernel
theorem dc_RD_close_36 : decode prog_7_method_10_code 36 = .ok (.aload_n 0, 1) := by decide +kernel
theorem dc_RD_close_37 : decode prog_7_method_10_code 37 = .ok (.dup, 1) := by decide +kernel
theorem dc_RD_close_38 : decode prog_7_method_10_code 38 = .ok (.getfield 22, 3) := by decide +kernel
theorem dc_RD_close_41 : decode prog_7_method_10_code 41 = .ok (.iconst 1, 1) := by decide +kernel
theorem dc_RD_close_42 : decode prog_7_method_10_code 42 = .ok (.isub, 1) := by decide +kernel
theorem dc_RD_close_43 : decode prog_7_method_10_code 43 = .ok (.putfield 22, 3) := by decide +kernel
theorem dc_RD_close_46 : decode prog_7_method_10_code 46 = .ok (.return_, 1) := by decide +kernel
theorem dc_RD_readInteger_0 : decode prog_7_method_11_code 0 = .ok (.aload_n 0, 1) := by decide +kernel
theorem dc_RD_readInteger_1 : decode prog_7_method_11_code 1 = .ok (.iconst 2, 1) := by decide +kernel
theorem dc_RD_readInteger_2 : decode prog_7_method_11_code 2 = .ok (.invokevirtual 43, 3) := by decide +kernel
theorem dc_RD_readInteger_5 : decode prog_7_method_11_code 5 = .ok (.aload_n 0, 1) := by decide +kernel
theorem dc_RD_readInteger_6 : decode prog_7_method_11_code 6 = .ok (.invokevirtual 47, 3) := by decide +kernel
theorem dc_RD_readInteger_9 : decode prog_7_method_11_code 9 = .ok (.istore_n 3, 1) := by decide +kernel
theorem dc_RD_readInteger_10 : decode prog_7_method_11_code 10 = .ok (.iload_n 3, 1) := by decide +kernel
theorem dc_RD_readInteger_11 : decode prog_7_method_11_code 11 = .ok (.iconst 1, 1) := by decide +kernel
theorem dc_RD_readInteger_12 : decode prog_7_method_11_code 12 = .ok (.if_icmp .lt 8, 3) := by decide +kernel
theorem dc_RD_readInteger_15 : decode prog_7_method_11_code 15 = .ok (.iload_n 3, 1) := by decide +kernel
theorem dc_RD_readInteger_16 : decode prog_7_method_11_code 16 = .ok (.iconst 4, 1) := by decide +kernel
theorem dc_RD_readInteger_17 : decode prog_7_method_11_code 17 = .ok (.if_icmp .le 9, 3) := by decide +kernel
theorem dc_RD_readInteger_20 : decode prog_7_method_11_code 20 = .ok (.aload_n 0, 1) := by decide +kernel
theorem dc_RD_readInteger_21 : decode prog_7_method_11_code 21 = .ok (.invokevirtual 51, 3) := by decide +kernel
theorem dc_RD_readInteger_24 : decode prog_7_method_11_code 24 = .ok (.iload_n 1, 1) := by decide +kernel
theorem dc_RD_readInteger_25 : decode prog_7_method_11_code 25 = .ok (.ireturn, 1) := by decide +kernel
theorem dc_RD_readInteger_26 : decode prog_7_method_11_code 26 = .ok (.aload_n 0, 1) := by decide +kernel
theorem dc_RD_readInteger_27 : decode prog_7_method_11_code 27 = .ok (.invokevirtual 54, 3) := by decide +kernel
theorem dc_RD_readInteger_30 : decode prog_7_method_11_code 30 = .ok (.istore 4, 2) := by decide +kernel
theorem dc_RD_readInteger_32 : decode prog_7_method_11_code 32 = .ok (.iload 4, 2) := by decide +kernel
theorem dc_RD_readInteger_34 : decode prog_7_method_11_code 34 = .ok (.istore 5, 2) := by decide +kernel
theorem dc_RD_readInteger_36 : decode prog_7_method_11_code 36 = .ok (.iconst 1, 1) := by decide +kernel
theorem dc_RD_readInteger_37 : decode prog_7_method_11_code 37 = .ok (.istore 6, 2) := by decide +kernel
theorem dc_RD_readInteger_39 : decode prog_7_method_11_code 39 = .ok (.iload 6, 2) := by decide +kernel
theorem dc_RD_readInteger_41 : decode prog_7_method_11_code 41 = .ok (.iload_n 3, 1) := by decide +kernel
theorem dc_RD_readInteger_42 : decode prog_7_method_11_code 42 = .ok (.if_icmp .ge 48, 3) := by decide +kernel
theorem dc_RD_readInteger_45 : decode prog_7_method_11_code 45 = .ok (.aload_n 0, 1) := by decide +kernel
theorem dc_RD_readInteger_46 : decode prog_7_method_11_code 46 = .ok (.invokevirtual 54, 3) := by decide +kernel
theorem dc_RD_readInteger_49 : decode prog_7_method_11_code 49 = .ok (.istore 7, 2) := by decide +kernel
theorem dc_RD_readInteger_51 : decode prog_7_method_11_code 51 = .ok (.iload 6, 2) := by decide +kernel
theorem dc_RD_readInteger_53 : decode prog_7_method_11_code 53 = .ok (.iconst 1, 1) := by decide +kernel
theorem dc_RD_readInteger_54 : decode prog_7_method_11_code 54 = .ok (.if_icmp .ne 20, 3) := by decide +kernel
theorem dc_RD_readInteger_57 : decode prog_7_method_11_code 57 = .ok (.iload 4, 2) := by decide +kernel
theorem dc_RD_readInteger_59 : decode prog_7_method_11_code 59 = .ok (.ifCond .ne 15, 3) := by decide +kernel
theorem dc_RD_readInteger_62 : decode prog_7_method_11_code 62 = .ok (.iload 7, 2) := by decide +kernel
theorem dc_RD_readInteger_64 : decode prog_7_method_11_code 64 = .ok (.sipush 128, 3) := by decide +kernel
theorem dc_RD_readInteger_67 : decode prog_7_method_11_code 67 = .ok (.if_icmp .ge 7, 3) := by decide +kernel
theorem dc_RD_readInteger_70 : decode prog_7_method_11_code 70 = .ok (.aload_n 0, 1) := by decide +kernel
theorem dc_RD_readInteger_71 : decode prog_7_method_11_code 71 = .ok (.invokevirtual 51, 3) := by decide +kernel
theorem dc_RD_readInteger_74 : decode prog_7_method_11_code 74 = .ok (.iload 5, 2) := by decide +kernel
theorem dc_RD_readInteger_76 : decode prog_7_method_11_code 76 = .ok (.bipush 8, 2) := by decide +kernel
theorem dc_RD_readInteger_78 : decode prog_7_method_11_code 78 = .ok (.ishl, 1) := by decide +kernel
theorem dc_RD_readInteger_79 : decode prog_7_method_11_code 79 = .ok (.iload 7, 2) := by decide +kernel
theorem dc_RD_readInteger_81 : decode prog_7_method_11_code 81 = .ok (.ior, 1) := by decide +kernel
theorem dc_RD_readInteger_82 : decode prog_7_method_11_code 82 = .ok (.istore 5, 2) := by decide +kernel
theorem dc_RD_readInteger_84 : decode prog_7_method_11_code 84 = .ok (.iinc 6 1, 3) := by decide +kernel
theorem dc_RD_readInteger_87 : decode prog_7_method_11_code 87 = .ok (.goto (-48), 3) := by decide +kernel
theorem dc_RD_readInteger_90 : decode prog_7_method_11_code 90 = .ok (.aload_n 0, 1) := by decide +kernel
theorem dc_RD_readInteger_91 : decode prog_7_method_11_code 91 = .ok (.invokevirtual 57, 3) := by decide +kernel
theorem dc_RD_readInteger_94 : decode prog_7_method_11_code 94 = .ok (.iload 4, 2) := by decide +kernel
theorem dc_RD_readInteger_96 : decode prog_7_method_11_code 96 = .ok (.bipush 127, 2) := by decide +kernel
theorem dc_RD_readInteger_98 : decode prog_7_method_11_code 98 = .ok (.if_icmp .gt 15, 3) := by decide +kernel
theorem dc_RD_readInteger_101 : decode prog_7_method_11_code 101 = .ok (.iload 5, 2) := by decide +kernel
theorem dc_RD_readInteger_103 : decode prog_7_method_11_code 103 = .ok (.iload_n 1, 1) := by decide +kernel
theorem dc_RD_readInteger_104 : decode prog_7_method_11_code 104 = .ok (.if_icmp .lt 9, 3) := by decide +kernel
theorem dc_RD_readInteger_107 : decode prog_7_method_11_code 107 = .ok (.iload 5, 2) := by decide +kernel
theorem dc_RD_readInteger_109 : decode prog_7_method_11_code 109 = .ok (.iload_n 2, 1) := by decide +kernel
theorem dc_RD_readInteger_110 : decode prog_7_method_11_code 110 = .ok (.if_icmp .le 9, 3) := by decide +kernel
theorem dc_RD_readInteger_113 : decode prog_7_method_11_code 113 = .ok (.aload_n 0, 1) := by decide +kernel
theorem dc_RD_readInteger_114 : decode prog_7_method_11_code 114 = .ok (.invokevirtual 51, 3) := by decide +kernel
theorem dc_RD_readInteger_117 : decode prog_7_method_11_code 117 = .ok (.iload_n 1, 1) := by decide +kernel
theorem dc_RD_readInteger_118 : decode prog_7_method_11_code 118 = .ok (.ireturn, 1) := by decide +kernel
theorem dc_RD_readInteger_119 : decode prog_7_method_11_code 119 = .ok (.iload 5, 2) := by decide +kernel
theorem dc_RD_readInteger_121 : decode prog_7_method_11_code 121 = .ok (.ireturn, 1) := by decide +kernel
theorem dc_RD_readTrueIfThere_0 : decode prog_7_method_12_code 0 = .ok (.aload_n 0, 1) := by decide +kernel
theorem dc_RD_readTrueIfThere_1 : decode prog_7_method_12_code 1 = .ok (.iconst 1, 1) := by decide +kernel
theorem dc_RD_readTrueIfThere_2 : decode prog_7_method_12_code 2 = .ok (.invokevirtual 60, 3) := by decide +kernel
theorem dc_RD_readTrueIfThere_5 : decode prog_7_method_12_code 5 = .ok (.ifCond .ne 5, 3) := by decide +kernel
theorem dc_RD_readTrueIfThere_8 : decode prog_7_method_12_code 8 = .ok (.iconst 0, 1) := by decide +kernel
theorem dc_RD_readTrueIfThere_9 : decode prog_7_method_12_code 9 = .ok (.ireturn, 1) := by decide +kernel
theorem dc_RD_readTrueIfThere_10 : decode prog_7_method_12_code 10 = .ok (.aload_n 0, 1) := by decide +kernel
theorem dc_RD_readTrueIfThere_11 : decode prog_7_method_12_code 11 = .ok (.iconst 1, 1) := by decide +kernel
theorem dc_RD_readTrueIfThere_12 : decode prog_7_method_12_code 12 = .ok (.invokevirtual 43, 3) := by decide +kernel
theorem dc_RD_readTrueIfThere_15 : decode prog_7_method_12_code 15 = .ok (.aload_n 0, 1) := by decide +kernel
theorem dc_RD_readTrueIfThere_16 : decode prog_7_method_12_code 16 = .ok (.invokevirtual 54, 3) := by decide +kernel
theorem dc_RD_readTrueIfThere_19 : decode prog_7_method_12_code 19 = .ok (.sipush 255, 3) := by decide +kernel
theorem dc_RD_readTrueIfThere_22 : decode prog_7_method_12_code 22 = .ok (.if_icmp .eq 7, 3) := by decide +kernel
theorem dc_RD_readTrueIfThere_25 : decode prog_7_method_12_code 25 = .ok (.aload_n 0, 1) := by decide +kernel
theorem dc_RD_readTrueIfThere_26 : decode prog_7_method_12_code 26 = .ok (.invokevirtual 51, 3) := by decide +kernel
theorem dc_RD_readTrueIfThere_29 : decode prog_7_method_12_code 29 = .ok (.aload_n 0, 1) := by decide +kernel
theorem dc_RD_readTrueIfThere_30 : decode prog_7_method_12_code 30 = .ok (.invokevirtual 57, 3) := by decide +kernel
theorem dc_RD_readTrueIfThere_33 : decode prog_7_method_12_code 33 = .ok (.iconst 1, 1) := by decide +kernel
theorem dc_RD_readTrueIfThere_34 : decode prog_7_method_12_code 34 = .ok (.ireturn, 1) := by decide +kernel
